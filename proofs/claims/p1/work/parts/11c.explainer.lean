def wm_c_X5_explainer : List Cond := .code yX5_explainer cX5_explainer 5 (some .int) :: ([.fieldLink RX5 80 "Sowingcourt" "kindCount" "I", .classLink RX5 116 "java/util/NoSuchElementException", .initialized "java/util/NoSuchElementException"] ++ wsX50 ++ (vx_atSX RX5 120 "java/util/NoSuchElementException" 13 prog_49_method_4_code supX).filter goodWord)
set_option maxHeartbeats 4000000 in
set_option maxRecDepth 100000 in
theorem c_X5_explainer (l : Launch) (hl0 : l.stackTraces = false) (κ : Nat → Nat) (D : va_G) (sz : Nat) (h0 : Nat) (o0 : Nat) (g0 : Nat) (o2 : Nat) (o3 : Nat) (o4 : Nat) (o5 : Nat) (o6 : Nat)  : vx_Met l yX5_explainer wm_c_X5_explainer ({ frames := 8, cells := 1, slots := 6, locals := 200 }) (va_Pc [.ref h0] (PC κ D [] [(h0, .inr (12, [.ref o0, .int 0, .ref g0, .ref o2, .ref o3, .ref o4, .ref o5, .int 0, .ref o6]))] sz)) (va_Qi (fun (_ : Int32) (_ : Unit) => False) (fun _ _ => True) (va_A [(h0, .inr (12, [.ref o0, .int 0, .ref g0, .ref o2, .ref o3, .ref o4, .ref o5, .int 0, .ref o6]))] sz)) (XQ "java/util/NoSuchElementException" D [] [(h0, .inr (12, [.ref o0, .int 0, .ref g0, .ref o2, .ref o3, .ref o4, .ref o5, .int 0, .ref o6]))] (va_A [(h0, .inr (12, [.ref o0, .int 0, .ref g0, .ref o2, .ref o3, .ref o4, .ref o5, .int 0, .ref o6]))] sz)) 1 6 (va_A [(h0, .inr (12, [.ref o0, .int 0, .ref g0, .ref o2, .ref o3, .ref o4, .ref o5, .int 0, .ref o6]))] sz) := by
  refine vx_ofW (cc := cX5_explainer) (maxL := 5) (ret := (some .int)) (by decide +kernel) rfl ?_
  intro p e s m args below meth c s₁ B hml htab hv
  obtain ⟨rfl, hsz, hP, hK, hD0, hE⟩ := hv
  have hx := B.exec
  have hb := B.bytes
  have hr := B.returns
  have hts := atoms_spec (ws := wm_c_X5_explainer) B.pre
  have hown : s.vm.findClass RX5 = some m.cls := findClass_of_methodNamed B.named
  have hlocks := B.notSynchronized
  have iRX5 : ∀ w ∈ u_ws RX5 TX5 9, w ∈ wm_c_X5_explainer := by decide +kernel
  subst hsz
  have hD := hD0.self (sz := s.heap.size)
  generalize hAe : va_A [(h0, .inr (12, [.ref o0, .int 0, .ref g0, .ref o2, .ref o3, .ref o4, .ref o5, .int 0, .ref o6]))] s.heap.size = A at hD hE ⊢
  have hA : ∀ q : Nat, s.heap.size ≤ q → A q := fun q h => by rw [← hAe]; exact Or.inr h
  have hS : va_S A s.heap s.heap [] := va_S.rf
  have hl := lv_entry ([.ref h0]) (n := 5) (Nat.le_of_ble_eq_true rfl)
  rw [lg_entry_eq]
  generalize (lg_sl ([.ref h0]) ++ List.replicate (5 - (lg_sl ([.ref h0])).length) Slot.unset).toArray = ls at hl ⊢
  have hl : lv_has ls 5 [(0, .ref h0)] := hl
  refine lv_aload_n hx hb dX5_explainer_0 rfl (lv_at hl 0 rfl) ?_
  refine va_get (D := D) (ci := 12) (v := .int 0) (C := RX5) (T := TX5) (N := 9) hx hb hts iRX5 hown hK hP 0 rfl rfl 1 (by decide) (hts (.fieldLink RX5 80 "Sowingcourt" "kindCount" "I") (by decide +kernel)) (fun _ h9 => h9) rfl dX5_explainer_1 ?_
  refine lv_if_eq (tgt := 14) hx hb dX5_explainer_4 (by decide) (fun _ => ?_) (fun c_4 => absurd c_4 (by decide))
  exact thSWX hx hb hl0 (own := RX5) (cls := "java/util/NoSuchElementException") (text := "there is no kind, or nothing is typed") (ik := 116) (is := 276) (ic := 120) hown (by decide +kernel) (hts (.classLink RX5 116 "java/util/NoSuchElementException") (by decide +kernel)) (hts (.initialized "java/util/NoSuchElementException") (by decide +kernel)) hE.st276 (fun w h => hts w ((by decide +kernel : ∀ w ∈ (vx_atSX RX5 120 "java/util/NoSuchElementException" 13 prog_49_method_4_code supX).filter goodWord, w ∈ wm_c_X5_explainer) w h)) (by decide +kernel) hE.ca3 (by decide +kernel) hE hS (by rw [hml]; exact hl.1) dX5_explainer_14 dX5_explainer_17 dX5_explainer_18 dX5_explainer_21 dX5_explainer_24 htab (Nat.le_of_ble_eq_true rfl) (Nat.le_of_ble_eq_true rfl) (Nat.le_of_ble_eq_true rfl) (Nat.le_of_ble_eq_true rfl) hlocks hP hK hD [0] rfl (by decide) [] rfl (Nat.le_of_ble_eq_true rfl) (Nat.le_of_ble_eq_true rfl)
