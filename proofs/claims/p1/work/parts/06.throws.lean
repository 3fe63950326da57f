def wm_c_X5_isWithin : List Cond := .code yX5_isWithin cX5_isWithin 3 (some .boolean) :: ([])
set_option maxHeartbeats 4000000 in
set_option maxRecDepth 100000 in
theorem c_X5_isWithin (l : Launch) (κ : Nat → Nat) (D : va_G) (sz : Nat) (a : Int32) (b : Int32) (d : Int32)  : Met l yX5_isWithin wm_c_X5_isWithin ({ frames := 8, cells := 0, slots := 0, locals := 200 }) (va_Pc [.int a, .int b, .int d] (PC κ D [] [] sz)) (va_Qi (fun (r : Int32) (_ : Unit) => r = if b.toInt ≤ a.toInt ∧ a.toInt ≤ d.toInt then 1 else 0) (fun _ t => PB D [] [] (va_A [] sz) t) (va_A [] sz)) 0 0 (va_A [] sz) := by
  refine Met.ofW (cc := cX5_isWithin) (maxL := 3) (ret := (some .boolean)) (by decide +kernel) rfl ?_
  intro p e s m args below meth c s₁ B hml hv
  obtain ⟨rfl, hsz, hP, hK, hD0, hE⟩ := hv
  have hx := B.exec
  have hb := B.bytes
  have hr := B.returns
  have hts := atoms_spec (ws := wm_c_X5_isWithin) B.pre
  have hown : s.vm.findClass RX5 = some m.cls := findClass_of_methodNamed B.named
  have hlocks := B.notSynchronized
  subst hsz
  have hD := hD0.self (sz := s.heap.size)
  generalize hAe : va_A [] s.heap.size = A at hD hE ⊢
  have hA : ∀ q : Nat, s.heap.size ≤ q → A q := fun q h => by rw [← hAe]; exact Or.inr h
  have hS : va_S A s.heap s.heap [] := va_S.rf
  have hl := lv_entry ([.int a, .int b, .int d]) (n := 3) (Nat.le_of_ble_eq_true rfl)
  rw [lg_entry_eq]
  generalize (lg_sl ([.int a, .int b, .int d]) ++ List.replicate (3 - (lg_sl ([.int a, .int b, .int d])).length) Slot.unset).toArray = ls at hl ⊢
  have hl : lv_has ls 3 [(0, .int a), (1, .int b), (2, .int d)] := hl
  refine lv_iload_n hx hb dX5_isWithin_0 rfl (lv_at hl 0 rfl) ?_
  refine lv_iload_n hx hb dX5_isWithin_1 rfl (lv_at hl 1 rfl) ?_
  refine lv_icmp_lt (tgt := 14) hx hb dX5_isWithin_2 (by decide) (fun c_2 => ?_) (fun c_2 => ?_)
  · refine lv_iconst (v := 0) hx hb dX5_isWithin_14 (by decide) ?_
    refine W.widen (k := 0) (n := 0) (Nat.le_of_ble_eq_true rfl) (Nat.le_of_ble_eq_true rfl) ?_
    exact W.zret (v := 0) hx hb hr (by decide) (fun t ht hW => ⟨⟨0, (), rfl, (if_neg (fun h => absurd (Int32.lt_iff_toInt_lt.mp c_2) (by omega))).symm, PB.at hP hK hD hW.alike ht [] rfl (by decide) [] rfl⟩, hS.F ht⟩) hS.2.2 dX5_isWithin_15
  · refine lv_iload_n hx hb dX5_isWithin_5 rfl (lv_at hl 0 rfl) ?_
    refine lv_iload_n hx hb dX5_isWithin_6 rfl (lv_at hl 2 rfl) ?_
    refine lv_icmp_gt (tgt := 14) hx hb dX5_isWithin_7 (by decide) (fun c_7 => ?_) (fun c_7 => ?_)
    · refine lv_iconst (v := 0) hx hb dX5_isWithin_14 (by decide) ?_
      refine W.widen (k := 0) (n := 0) (Nat.le_of_ble_eq_true rfl) (Nat.le_of_ble_eq_true rfl) ?_
      exact W.zret (v := 0) hx hb hr (by decide) (fun t ht hW => ⟨⟨0, (), rfl, (if_neg (fun h => absurd (Int32.lt_iff_toInt_lt.mp c_7) (by omega))).symm, PB.at hP hK hD hW.alike ht [] rfl (by decide) [] rfl⟩, hS.F ht⟩) hS.2.2 dX5_isWithin_15
    · refine lv_iconst (v := 1) hx hb dX5_isWithin_10 (by decide) ?_
      refine lv_goto (tgt := 15) hx hb dX5_isWithin_11 (by decide) ?_
      refine W.widen (k := 0) (n := 0) (Nat.le_of_ble_eq_true rfl) (Nat.le_of_ble_eq_true rfl) ?_
      exact W.zret (v := 1) hx hb hr (by decide) (fun t ht hW => ⟨⟨1, (), rfl, (if_pos ⟨Int.not_lt.mp (fun h => c_2 (Int32.lt_iff_toInt_lt.mpr h)), Int.not_lt.mp (fun h => c_7 (Int32.lt_iff_toInt_lt.mpr h))⟩).symm, PB.at hP hK hD hW.alike ht [] rfl (by decide) [] rfl⟩, hS.F ht⟩) hS.2.2 dX5_isWithin_15

def wm_c_X5_needKind : List Cond := .code yX5_needKind cX5_needKind 2 none :: ([.classLink RX5 193 "java/lang/IndexOutOfBoundsException", .initialized "java/lang/IndexOutOfBoundsException", .fieldLink RX5 80 "Sowingcourt" "kindCount" "I"] ++ (vx_atS RX5 197 "java/lang/IndexOutOfBoundsException" supX).filter goodWord ++ wsX50)
set_option maxHeartbeats 4000000 in
set_option maxRecDepth 100000 in
theorem c_X5_needKind (l : Launch) (hl0 : l.stackTraces = false) (κ : Nat → Nat) (D : va_G) (sz : Nat) (h0 : Nat) (o0 : Nat) (g0 : Nat) (o2 : Nat) (o3 : Nat) (o4 : Nat) (o5 : Nat) (o6 : Nat) (k : Int32)  : vx_Met l yX5_needKind wm_c_X5_needKind ({ frames := 8, cells := 1, slots := 6, locals := 200 }) (va_Pc [.ref h0, .int k] (PC κ D [] [(h0, .inr (12, [.ref o0, .int 0, .ref g0, .ref o2, .ref o3, .ref o4, .ref o5, .int 0, .ref o6]))] sz)) (va_Qv (fun _ : Unit => False) (fun _ _ => True) (va_A [(h0, .inr (12, [.ref o0, .int 0, .ref g0, .ref o2, .ref o3, .ref o4, .ref o5, .int 0, .ref o6]))] sz)) (XQ "java/lang/IndexOutOfBoundsException" D [] [(h0, .inr (12, [.ref o0, .int 0, .ref g0, .ref o2, .ref o3, .ref o4, .ref o5, .int 0, .ref o6]))] (va_A [(h0, .inr (12, [.ref o0, .int 0, .ref g0, .ref o2, .ref o3, .ref o4, .ref o5, .int 0, .ref o6]))] sz)) 1 6 (va_A [(h0, .inr (12, [.ref o0, .int 0, .ref g0, .ref o2, .ref o3, .ref o4, .ref o5, .int 0, .ref o6]))] sz) := by
  refine vx_ofW (cc := cX5_needKind) (maxL := 2) (ret := none) (by decide +kernel) rfl ?_
  intro p e s m args below meth c s₁ B hml htab hv
  obtain ⟨rfl, hsz, hP, hK, hD0, hE⟩ := hv
  have hx := B.exec
  have hb := B.bytes
  have hr := B.returns
  have hts := atoms_spec (ws := wm_c_X5_needKind) B.pre
  have hown : s.vm.findClass RX5 = some m.cls := findClass_of_methodNamed B.named
  have hlocks := B.notSynchronized
  have iRX5 : ∀ w ∈ u_ws RX5 TX5 9, w ∈ wm_c_X5_needKind := by decide +kernel
  subst hsz
  have hD := hD0.self (sz := s.heap.size)
  generalize hAe : va_A [(h0, .inr (12, [.ref o0, .int 0, .ref g0, .ref o2, .ref o3, .ref o4, .ref o5, .int 0, .ref o6]))] s.heap.size = A at hD hE ⊢
  have hA : ∀ q : Nat, s.heap.size ≤ q → A q := fun q h => by rw [← hAe]; exact Or.inr h
  have hS : va_S A s.heap s.heap [] := va_S.rf
  have hl := lv_entry ([.ref h0, .int k]) (n := 2) (Nat.le_of_ble_eq_true rfl)
  rw [lg_entry_eq]
  generalize (lg_sl ([.ref h0, .int k]) ++ List.replicate (2 - (lg_sl ([.ref h0, .int k])).length) Slot.unset).toArray = ls at hl ⊢
  have hl : lv_has ls 2 [(0, .ref h0), (1, .int k)] := hl
  refine lv_iload_n hx hb dX5_needKind_0 rfl (lv_at hl 1 rfl) ?_
  refine lv_if_lt (tgt := 12) hx hb dX5_needKind_1 (by decide) (fun c_1 => ?_) (fun c_1 => ?_)
  · exact thSW hx hb hl0 (own := RX5) (cls := "java/lang/IndexOutOfBoundsException") (text := "there is no such kind") (ik := 193) (is := 316) (ic := 197) hown (by decide +kernel) (hts (.classLink RX5 193 "java/lang/IndexOutOfBoundsException") (by decide +kernel)) (hts (.initialized "java/lang/IndexOutOfBoundsException") (by decide +kernel)) hE.st316 (fun w h => hts w ((by decide +kernel : ∀ w ∈ (vx_atS RX5 197 "java/lang/IndexOutOfBoundsException" supX).filter goodWord, w ∈ wm_c_X5_needKind) w h)) (by decide +kernel) hE.ca2 (by decide +kernel) hE hS (by rw [hml]; exact hl.1) dX5_needKind_12 dX5_needKind_15 dX5_needKind_16 dX5_needKind_19 dX5_needKind_22 htab (Nat.le_of_ble_eq_true rfl) (Nat.le_of_ble_eq_true rfl) (Nat.le_of_ble_eq_true rfl) (Nat.le_of_ble_eq_true rfl) hlocks hP hK hD [0] rfl (by decide) [] rfl (Nat.le_of_ble_eq_true rfl) (Nat.le_of_ble_eq_true rfl)
  · refine lv_iload_n hx hb dX5_needKind_4 rfl (lv_at hl 1 rfl) ?_
    refine lv_aload_n hx hb dX5_needKind_5 rfl (lv_at hl 0 rfl) ?_
    refine va_get (D := D) (ci := 12) (v := .int 0) (C := RX5) (T := TX5) (N := 9) hx hb hts iRX5 hown hK hP 0 rfl rfl 1 (by decide) (hts (.fieldLink RX5 80 "Sowingcourt" "kindCount" "I") (by decide +kernel)) (fun _ h9 => h9) rfl dX5_needKind_6 ?_
    refine lv_icmp_lt (tgt := 23) hx hb dX5_needKind_9 (by decide) (fun c_9 => absurd c_9 c_1) (fun c_9 => ?_)
    exact thSW hx hb hl0 (own := RX5) (cls := "java/lang/IndexOutOfBoundsException") (text := "there is no such kind") (ik := 193) (is := 316) (ic := 197) hown (by decide +kernel) (hts (.classLink RX5 193 "java/lang/IndexOutOfBoundsException") (by decide +kernel)) (hts (.initialized "java/lang/IndexOutOfBoundsException") (by decide +kernel)) hE.st316 (fun w h => hts w ((by decide +kernel : ∀ w ∈ (vx_atS RX5 197 "java/lang/IndexOutOfBoundsException" supX).filter goodWord, w ∈ wm_c_X5_needKind) w h)) (by decide +kernel) hE.ca2 (by decide +kernel) hE hS (by rw [hml]; exact hl.1) dX5_needKind_12 dX5_needKind_15 dX5_needKind_16 dX5_needKind_19 dX5_needKind_22 htab (Nat.le_of_ble_eq_true rfl) (Nat.le_of_ble_eq_true rfl) (Nat.le_of_ble_eq_true rfl) (Nat.le_of_ble_eq_true rfl) hlocks hP hK hD [0] rfl (by decide) [] rfl (Nat.le_of_ble_eq_true rfl) (Nat.le_of_ble_eq_true rfl)

def wm_c_X5_needBegun : List Cond := .code yX5_needBegun cX5_needBegun 1 none :: ([.fieldLink RX5 19 "Sowingcourt" "game" "LSowingcourt$Game;", .fieldLink RX5 179 "Sowingcourt$Game" "begun" "Z", .classLink RX5 162 "java/lang/IllegalStateException", .initialized "java/lang/IllegalStateException"] ++ wsX50 ++ wsX10 ++ (vx_atS RX5 166 "java/lang/IllegalStateException" supX).filter goodWord)
set_option maxHeartbeats 4000000 in
set_option maxRecDepth 100000 in
theorem c_X5_needBegun (l : Launch) (hl0 : l.stackTraces = false) (κ : Nat → Nat) (D : va_G) (sz : Nat) (h0 : Nat) (o0 : Nat) (g0 : Nat) (o2 : Nat) (o3 : Nat) (o4 : Nat) (o5 : Nat) (o6 : Nat) (g1 : Nat) (g2 : Nat) (g3 : Nat) (g4 : Nat) (g5 : Nat) (g6 : Nat)  : vx_Met l yX5_needBegun wm_c_X5_needBegun ({ frames := 8, cells := 1, slots := 6, locals := 200 }) (va_Pc [.ref h0] (PC κ D [] [(h0, .inr (12, [.ref o0, .int 0, .ref g0, .ref o2, .ref o3, .ref o4, .ref o5, .int 0, .ref o6])), (g0, .inr (8, [.ref g1, .ref g2, .ref g3, .ref g4, .ref g5, .ref g6, .int 0, .int 0, .int 0, .int 0]))] sz)) (va_Qv (fun _ : Unit => False) (fun _ _ => True) (va_A [(h0, .inr (12, [.ref o0, .int 0, .ref g0, .ref o2, .ref o3, .ref o4, .ref o5, .int 0, .ref o6])), (g0, .inr (8, [.ref g1, .ref g2, .ref g3, .ref g4, .ref g5, .ref g6, .int 0, .int 0, .int 0, .int 0]))] sz)) (XQ "java/lang/IllegalStateException" D [] [(h0, .inr (12, [.ref o0, .int 0, .ref g0, .ref o2, .ref o3, .ref o4, .ref o5, .int 0, .ref o6])), (g0, .inr (8, [.ref g1, .ref g2, .ref g3, .ref g4, .ref g5, .ref g6, .int 0, .int 0, .int 0, .int 0]))] (va_A [(h0, .inr (12, [.ref o0, .int 0, .ref g0, .ref o2, .ref o3, .ref o4, .ref o5, .int 0, .ref o6])), (g0, .inr (8, [.ref g1, .ref g2, .ref g3, .ref g4, .ref g5, .ref g6, .int 0, .int 0, .int 0, .int 0]))] sz)) 1 6 (va_A [(h0, .inr (12, [.ref o0, .int 0, .ref g0, .ref o2, .ref o3, .ref o4, .ref o5, .int 0, .ref o6])), (g0, .inr (8, [.ref g1, .ref g2, .ref g3, .ref g4, .ref g5, .ref g6, .int 0, .int 0, .int 0, .int 0]))] sz) := by
  refine vx_ofW (cc := cX5_needBegun) (maxL := 1) (ret := none) (by decide +kernel) rfl ?_
  intro p e s m args below meth c s₁ B hml htab hv
  obtain ⟨rfl, hsz, hP, hK, hD0, hE⟩ := hv
  have hx := B.exec
  have hb := B.bytes
  have hr := B.returns
  have hts := atoms_spec (ws := wm_c_X5_needBegun) B.pre
  have hown : s.vm.findClass RX5 = some m.cls := findClass_of_methodNamed B.named
  have hlocks := B.notSynchronized
  have iRX5 : ∀ w ∈ u_ws RX5 TX5 9, w ∈ wm_c_X5_needBegun := by decide +kernel
  have iRX1 : ∀ w ∈ u_ws RX1 TX1 10, w ∈ wm_c_X5_needBegun := by decide +kernel
  subst hsz
  have hD := hD0.self (sz := s.heap.size)
  generalize hAe : va_A [(h0, .inr (12, [.ref o0, .int 0, .ref g0, .ref o2, .ref o3, .ref o4, .ref o5, .int 0, .ref o6])), (g0, .inr (8, [.ref g1, .ref g2, .ref g3, .ref g4, .ref g5, .ref g6, .int 0, .int 0, .int 0, .int 0]))] s.heap.size = A at hD hE ⊢
  have hA : ∀ q : Nat, s.heap.size ≤ q → A q := fun q h => by rw [← hAe]; exact Or.inr h
  have hS : va_S A s.heap s.heap [] := va_S.rf
  have hl := lv_entry ([.ref h0]) (n := 1) (Nat.le_of_ble_eq_true rfl)
  rw [lg_entry_eq]
  generalize (lg_sl ([.ref h0]) ++ List.replicate (1 - (lg_sl ([.ref h0])).length) Slot.unset).toArray = ls at hl ⊢
  have hl : lv_has ls 1 [(0, .ref h0)] := hl
  refine lv_aload_n hx hb dX5_needBegun_0 rfl (lv_at hl 0 rfl) ?_
  refine va_get (D := D) (ci := 12) (v := .ref g0) (C := RX5) (T := TX5) (N := 9) hx hb hts iRX5 hown hK hP 0 rfl rfl 2 (by decide) (hts (.fieldLink RX5 19 "Sowingcourt" "game" "LSowingcourt$Game;") (by decide +kernel)) (fun _ h9 => h9) rfl dX5_needBegun_1 ?_
  refine va_get (D := D) (ci := 8) (v := .int 0) (C := RX1) (T := TX1) (N := 10) hx hb hts iRX1 hown hK hP 1 rfl rfl 7 (by decide) (hts (.fieldLink RX5 179 "Sowingcourt$Game" "begun" "Z") (by decide +kernel)) (fun _ h9 => h9) rfl dX5_needBegun_4 ?_
  refine lv_if_ne (tgt := 21) hx hb dX5_needBegun_7 (by decide) (fun c_7 => absurd c_7 (by decide)) (fun _ => ?_)
  exact thSW hx hb hl0 (own := RX5) (cls := "java/lang/IllegalStateException") (text := "no game was begun") (ik := 162) (is := 320) (ic := 166) hown (by decide +kernel) (hts (.classLink RX5 162 "java/lang/IllegalStateException") (by decide +kernel)) (hts (.initialized "java/lang/IllegalStateException") (by decide +kernel)) hE.st320 (fun w h => hts w ((by decide +kernel : ∀ w ∈ (vx_atS RX5 166 "java/lang/IllegalStateException" supX).filter goodWord, w ∈ wm_c_X5_needBegun) w h)) (by decide +kernel) hE.ca1 (by decide +kernel) hE hS (by rw [hml]; exact hl.1) dX5_needBegun_10 dX5_needBegun_13 dX5_needBegun_14 dX5_needBegun_17 dX5_needBegun_20 htab (Nat.le_of_ble_eq_true rfl) (Nat.le_of_ble_eq_true rfl) (Nat.le_of_ble_eq_true rfl) (Nat.le_of_ble_eq_true rfl) hlocks hP hK hD [0, 1] rfl (by decide) [] rfl (Nat.le_of_ble_eq_true rfl) (Nat.le_of_ble_eq_true rfl)

def wm_c_X5_needGameOn : List Cond := .code yX5_needGameOn cX5_needGameOn 1 none :: ([.fieldLink RX5 19 "Sowingcourt" "game" "LSowingcourt$Game;", .fieldLink RX5 179 "Sowingcourt$Game" "begun" "Z", .classLink RX5 162 "java/lang/IllegalStateException", .initialized "java/lang/IllegalStateException"] ++ wsX50 ++ wsX10 ++ (vx_atS RX5 166 "java/lang/IllegalStateException" supX).filter goodWord)
set_option maxHeartbeats 4000000 in
set_option maxRecDepth 100000 in
theorem c_X5_needGameOn (l : Launch) (hl0 : l.stackTraces = false) (κ : Nat → Nat) (D : va_G) (sz : Nat) (h0 : Nat) (o0 : Nat) (g0 : Nat) (o2 : Nat) (o3 : Nat) (o4 : Nat) (o5 : Nat) (o6 : Nat) (g1 : Nat) (g2 : Nat) (g3 : Nat) (g4 : Nat) (g5 : Nat) (g6 : Nat)  : vx_Met l yX5_needGameOn wm_c_X5_needGameOn ({ frames := 8, cells := 1, slots := 6, locals := 200 }) (va_Pc [.ref h0] (PC κ D [] [(h0, .inr (12, [.ref o0, .int 0, .ref g0, .ref o2, .ref o3, .ref o4, .ref o5, .int 0, .ref o6])), (g0, .inr (8, [.ref g1, .ref g2, .ref g3, .ref g4, .ref g5, .ref g6, .int 0, .int 0, .int 0, .int 0]))] sz)) (va_Qv (fun _ : Unit => False) (fun _ _ => True) (va_A [(h0, .inr (12, [.ref o0, .int 0, .ref g0, .ref o2, .ref o3, .ref o4, .ref o5, .int 0, .ref o6])), (g0, .inr (8, [.ref g1, .ref g2, .ref g3, .ref g4, .ref g5, .ref g6, .int 0, .int 0, .int 0, .int 0]))] sz)) (XQ "java/lang/IllegalStateException" D [] [(h0, .inr (12, [.ref o0, .int 0, .ref g0, .ref o2, .ref o3, .ref o4, .ref o5, .int 0, .ref o6])), (g0, .inr (8, [.ref g1, .ref g2, .ref g3, .ref g4, .ref g5, .ref g6, .int 0, .int 0, .int 0, .int 0]))] (va_A [(h0, .inr (12, [.ref o0, .int 0, .ref g0, .ref o2, .ref o3, .ref o4, .ref o5, .int 0, .ref o6])), (g0, .inr (8, [.ref g1, .ref g2, .ref g3, .ref g4, .ref g5, .ref g6, .int 0, .int 0, .int 0, .int 0]))] sz)) 1 6 (va_A [(h0, .inr (12, [.ref o0, .int 0, .ref g0, .ref o2, .ref o3, .ref o4, .ref o5, .int 0, .ref o6])), (g0, .inr (8, [.ref g1, .ref g2, .ref g3, .ref g4, .ref g5, .ref g6, .int 0, .int 0, .int 0, .int 0]))] sz) := by
  refine vx_ofW (cc := cX5_needGameOn) (maxL := 1) (ret := none) (by decide +kernel) rfl ?_
  intro p e s m args below meth c s₁ B hml htab hv
  obtain ⟨rfl, hsz, hP, hK, hD0, hE⟩ := hv
  have hx := B.exec
  have hb := B.bytes
  have hr := B.returns
  have hts := atoms_spec (ws := wm_c_X5_needGameOn) B.pre
  have hown : s.vm.findClass RX5 = some m.cls := findClass_of_methodNamed B.named
  have hlocks := B.notSynchronized
  have iRX5 : ∀ w ∈ u_ws RX5 TX5 9, w ∈ wm_c_X5_needGameOn := by decide +kernel
  have iRX1 : ∀ w ∈ u_ws RX1 TX1 10, w ∈ wm_c_X5_needGameOn := by decide +kernel
  subst hsz
  have hD := hD0.self (sz := s.heap.size)
  generalize hAe : va_A [(h0, .inr (12, [.ref o0, .int 0, .ref g0, .ref o2, .ref o3, .ref o4, .ref o5, .int 0, .ref o6])), (g0, .inr (8, [.ref g1, .ref g2, .ref g3, .ref g4, .ref g5, .ref g6, .int 0, .int 0, .int 0, .int 0]))] s.heap.size = A at hD hE ⊢
  have hA : ∀ q : Nat, s.heap.size ≤ q → A q := fun q h => by rw [← hAe]; exact Or.inr h
  have hS : va_S A s.heap s.heap [] := va_S.rf
  have hl := lv_entry ([.ref h0]) (n := 1) (Nat.le_of_ble_eq_true rfl)
  rw [lg_entry_eq]
  generalize (lg_sl ([.ref h0]) ++ List.replicate (1 - (lg_sl ([.ref h0])).length) Slot.unset).toArray = ls at hl ⊢
  have hl : lv_has ls 1 [(0, .ref h0)] := hl
  refine lv_aload_n hx hb dX5_needGameOn_0 rfl (lv_at hl 0 rfl) ?_
  refine va_get (D := D) (ci := 12) (v := .ref g0) (C := RX5) (T := TX5) (N := 9) hx hb hts iRX5 hown hK hP 0 rfl rfl 2 (by decide) (hts (.fieldLink RX5 19 "Sowingcourt" "game" "LSowingcourt$Game;") (by decide +kernel)) (fun _ h9 => h9) rfl dX5_needGameOn_1 ?_
  refine va_get (D := D) (ci := 8) (v := .int 0) (C := RX1) (T := TX1) (N := 10) hx hb hts iRX1 hown hK hP 1 rfl rfl 7 (by decide) (hts (.fieldLink RX5 179 "Sowingcourt$Game" "begun" "Z") (by decide +kernel)) (fun _ h9 => h9) rfl dX5_needGameOn_4 ?_
  refine lv_if_eq (tgt := 20) hx hb dX5_needGameOn_7 (by decide) (fun _ => ?_) (fun c_7 => absurd (by decide) c_7)
  exact thSW hx hb hl0 (own := RX5) (cls := "java/lang/IllegalStateException") (text := "no game goes on") (ik := 162) (is := 322) (ic := 166) hown (by decide +kernel) (hts (.classLink RX5 162 "java/lang/IllegalStateException") (by decide +kernel)) (hts (.initialized "java/lang/IllegalStateException") (by decide +kernel)) hE.st322 (fun w h => hts w ((by decide +kernel : ∀ w ∈ (vx_atS RX5 166 "java/lang/IllegalStateException" supX).filter goodWord, w ∈ wm_c_X5_needGameOn) w h)) (by decide +kernel) hE.ca1 (by decide +kernel) hE hS (by rw [hml]; exact hl.1) dX5_needGameOn_20 dX5_needGameOn_23 dX5_needGameOn_24 dX5_needGameOn_27 dX5_needGameOn_30 htab (Nat.le_of_ble_eq_true rfl) (Nat.le_of_ble_eq_true rfl) (Nat.le_of_ble_eq_true rfl) (Nat.le_of_ble_eq_true rfl) hlocks hP hK hD [0, 1] rfl (by decide) [] rfl (Nat.le_of_ble_eq_true rfl) (Nat.le_of_ble_eq_true rfl)

def wm_c_X5_undo : List Cond := .code yX5_undo cX5_undo 1 (some .int) :: ([.fieldLink RX5 19 "Sowingcourt" "game" "LSowingcourt$Game;", .fieldLink RX5 179 "Sowingcourt$Game" "begun" "Z", .classLink RX5 150 "java/lang/UnsupportedOperationException", .initialized "java/lang/UnsupportedOperationException"] ++ wsX50 ++ wsX10 ++ (vx_atS RX5 154 "java/lang/UnsupportedOperationException" supX).filter goodWord)
set_option maxHeartbeats 4000000 in
set_option maxRecDepth 100000 in
theorem c_X5_undo (l : Launch) (hl0 : l.stackTraces = false) (κ : Nat → Nat) (D : va_G) (sz : Nat) (h0 : Nat) (o0 : Nat) (g0 : Nat) (o2 : Nat) (o3 : Nat) (o4 : Nat) (o5 : Nat) (o6 : Nat) (g1 : Nat) (g2 : Nat) (g3 : Nat) (g4 : Nat) (g5 : Nat) (g6 : Nat)  : vx_Met l yX5_undo wm_c_X5_undo ({ frames := 8, cells := 1, slots := 6, locals := 200 }) (va_Pc [.ref h0] (PC κ D [] [(h0, .inr (12, [.ref o0, .int 0, .ref g0, .ref o2, .ref o3, .ref o4, .ref o5, .int 0, .ref o6])), (g0, .inr (8, [.ref g1, .ref g2, .ref g3, .ref g4, .ref g5, .ref g6, .int 0, .int 0, .int 0, .int 0]))] sz)) (va_Qi (fun (_ : Int32) (_ : Unit) => False) (fun _ _ => True) (va_A [(h0, .inr (12, [.ref o0, .int 0, .ref g0, .ref o2, .ref o3, .ref o4, .ref o5, .int 0, .ref o6])), (g0, .inr (8, [.ref g1, .ref g2, .ref g3, .ref g4, .ref g5, .ref g6, .int 0, .int 0, .int 0, .int 0]))] sz)) (XQ "java/lang/UnsupportedOperationException" D [] [(h0, .inr (12, [.ref o0, .int 0, .ref g0, .ref o2, .ref o3, .ref o4, .ref o5, .int 0, .ref o6])), (g0, .inr (8, [.ref g1, .ref g2, .ref g3, .ref g4, .ref g5, .ref g6, .int 0, .int 0, .int 0, .int 0]))] (va_A [(h0, .inr (12, [.ref o0, .int 0, .ref g0, .ref o2, .ref o3, .ref o4, .ref o5, .int 0, .ref o6])), (g0, .inr (8, [.ref g1, .ref g2, .ref g3, .ref g4, .ref g5, .ref g6, .int 0, .int 0, .int 0, .int 0]))] sz)) 1 6 (va_A [(h0, .inr (12, [.ref o0, .int 0, .ref g0, .ref o2, .ref o3, .ref o4, .ref o5, .int 0, .ref o6])), (g0, .inr (8, [.ref g1, .ref g2, .ref g3, .ref g4, .ref g5, .ref g6, .int 0, .int 0, .int 0, .int 0]))] sz) := by
  refine vx_ofW (cc := cX5_undo) (maxL := 1) (ret := (some .int)) (by decide +kernel) rfl ?_
  intro p e s m args below meth c s₁ B hml htab hv
  obtain ⟨rfl, hsz, hP, hK, hD0, hE⟩ := hv
  have hx := B.exec
  have hb := B.bytes
  have hr := B.returns
  have hts := atoms_spec (ws := wm_c_X5_undo) B.pre
  have hown : s.vm.findClass RX5 = some m.cls := findClass_of_methodNamed B.named
  have hlocks := B.notSynchronized
  have iRX5 : ∀ w ∈ u_ws RX5 TX5 9, w ∈ wm_c_X5_undo := by decide +kernel
  have iRX1 : ∀ w ∈ u_ws RX1 TX1 10, w ∈ wm_c_X5_undo := by decide +kernel
  subst hsz
  have hD := hD0.self (sz := s.heap.size)
  generalize hAe : va_A [(h0, .inr (12, [.ref o0, .int 0, .ref g0, .ref o2, .ref o3, .ref o4, .ref o5, .int 0, .ref o6])), (g0, .inr (8, [.ref g1, .ref g2, .ref g3, .ref g4, .ref g5, .ref g6, .int 0, .int 0, .int 0, .int 0]))] s.heap.size = A at hD hE ⊢
  have hA : ∀ q : Nat, s.heap.size ≤ q → A q := fun q h => by rw [← hAe]; exact Or.inr h
  have hS : va_S A s.heap s.heap [] := va_S.rf
  have hl := lv_entry ([.ref h0]) (n := 1) (Nat.le_of_ble_eq_true rfl)
  rw [lg_entry_eq]
  generalize (lg_sl ([.ref h0]) ++ List.replicate (1 - (lg_sl ([.ref h0])).length) Slot.unset).toArray = ls at hl ⊢
  have hl : lv_has ls 1 [(0, .ref h0)] := hl
  refine lv_aload_n hx hb dX5_undo_0 rfl (lv_at hl 0 rfl) ?_
  refine va_get (D := D) (ci := 12) (v := .ref g0) (C := RX5) (T := TX5) (N := 9) hx hb hts iRX5 hown hK hP 0 rfl rfl 2 (by decide) (hts (.fieldLink RX5 19 "Sowingcourt" "game" "LSowingcourt$Game;") (by decide +kernel)) (fun _ h9 => h9) rfl dX5_undo_1 ?_
  refine va_get (D := D) (ci := 8) (v := .int 0) (C := RX1) (T := TX1) (N := 10) hx hb hts iRX1 hown hK hP 1 rfl rfl 7 (by decide) (hts (.fieldLink RX5 179 "Sowingcourt$Game" "begun" "Z") (by decide +kernel)) (fun _ h9 => h9) rfl dX5_undo_4 ?_
  refine lv_if_eq (tgt := 20) hx hb dX5_undo_7 (by decide) (fun _ => ?_) (fun c_7 => absurd (by decide) c_7)
  exact thS hx hb hl0 (own := RX5) (cls := "java/lang/UnsupportedOperationException") (text := "there is no move") (ik := 150) (is := 182) (ic := 154) hown (by decide +kernel) (hts (.classLink RX5 150 "java/lang/UnsupportedOperationException") (by decide +kernel)) (hts (.initialized "java/lang/UnsupportedOperationException") (by decide +kernel)) hE.st182 (fun w h => hts w ((by decide +kernel : ∀ w ∈ (vx_atS RX5 154 "java/lang/UnsupportedOperationException" supX).filter goodWord, w ∈ wm_c_X5_undo) w h)) (by decide +kernel) hE.ca4 (by decide +kernel) hE hS (by rw [hml]; exact hl.1) dX5_undo_20 dX5_undo_23 dX5_undo_24 dX5_undo_26 dX5_undo_29 htab (Nat.le_of_ble_eq_true rfl) (Nat.le_of_ble_eq_true rfl) (Nat.le_of_ble_eq_true rfl) (Nat.le_of_ble_eq_true rfl) hlocks hP hK hD [0, 1] rfl (by decide) [] rfl (Nat.le_of_ble_eq_true rfl) (Nat.le_of_ble_eq_true rfl)

def wm_c_X5_meanUnlike : List Cond := .code yX5_meanUnlike cX5_meanUnlike 3 (some .double) :: ([.fieldLink RX5 80 "Sowingcourt" "kindCount" "I", .classLink RX5 297 "java/lang/ArithmeticException", .initialized "java/lang/ArithmeticException"] ++ wsX50 ++ (vx_atS RX5 301 "java/lang/ArithmeticException" supX).filter goodWord)
set_option maxHeartbeats 4000000 in
set_option maxRecDepth 100000 in
theorem c_X5_meanUnlike (l : Launch) (hl0 : l.stackTraces = false) (κ : Nat → Nat) (D : va_G) (sz : Nat) (h0 : Nat) (o0 : Nat) (g0 : Nat) (o2 : Nat) (o3 : Nat) (o4 : Nat) (o5 : Nat) (o6 : Nat)  : vx_Met l yX5_meanUnlike wm_c_X5_meanUnlike ({ frames := 8, cells := 1, slots := 6, locals := 200 }) (va_Pc [.ref h0] (PC κ D [] [(h0, .inr (12, [.ref o0, .int 0, .ref g0, .ref o2, .ref o3, .ref o4, .ref o5, .int 0, .ref o6]))] sz)) (va_Qd (fun (_ : UInt64) (_ : Unit) => False) (fun _ _ => True) (va_A [(h0, .inr (12, [.ref o0, .int 0, .ref g0, .ref o2, .ref o3, .ref o4, .ref o5, .int 0, .ref o6]))] sz)) (XQ "java/lang/ArithmeticException" D [] [(h0, .inr (12, [.ref o0, .int 0, .ref g0, .ref o2, .ref o3, .ref o4, .ref o5, .int 0, .ref o6]))] (va_A [(h0, .inr (12, [.ref o0, .int 0, .ref g0, .ref o2, .ref o3, .ref o4, .ref o5, .int 0, .ref o6]))] sz)) 1 6 (va_A [(h0, .inr (12, [.ref o0, .int 0, .ref g0, .ref o2, .ref o3, .ref o4, .ref o5, .int 0, .ref o6]))] sz) := by
  refine vx_ofW (cc := cX5_meanUnlike) (maxL := 3) (ret := (some .double)) (by decide +kernel) rfl ?_
  intro p e s m args below meth c s₁ B hml htab hv
  obtain ⟨rfl, hsz, hP, hK, hD0, hE⟩ := hv
  have hx := B.exec
  have hb := B.bytes
  have hr := B.returns
  have hts := atoms_spec (ws := wm_c_X5_meanUnlike) B.pre
  have hown : s.vm.findClass RX5 = some m.cls := findClass_of_methodNamed B.named
  have hlocks := B.notSynchronized
  have iRX5 : ∀ w ∈ u_ws RX5 TX5 9, w ∈ wm_c_X5_meanUnlike := by decide +kernel
  subst hsz
  have hD := hD0.self (sz := s.heap.size)
  generalize hAe : va_A [(h0, .inr (12, [.ref o0, .int 0, .ref g0, .ref o2, .ref o3, .ref o4, .ref o5, .int 0, .ref o6]))] s.heap.size = A at hD hE ⊢
  have hA : ∀ q : Nat, s.heap.size ≤ q → A q := fun q h => by rw [← hAe]; exact Or.inr h
  have hS : va_S A s.heap s.heap [] := va_S.rf
  have hl := lv_entry ([.ref h0]) (n := 3) (Nat.le_of_ble_eq_true rfl)
  rw [lg_entry_eq]
  generalize (lg_sl ([.ref h0]) ++ List.replicate (3 - (lg_sl ([.ref h0])).length) Slot.unset).toArray = ls at hl ⊢
  have hl : lv_has ls 3 [(0, .ref h0)] := hl
  refine lv_aload_n hx hb dX5_meanUnlike_0 rfl (lv_at hl 0 rfl) ?_
  refine va_get (D := D) (ci := 12) (v := .int 0) (C := RX5) (T := TX5) (N := 9) hx hb hts iRX5 hown hK hP 0 rfl rfl 1 (by decide) (hts (.fieldLink RX5 80 "Sowingcourt" "kindCount" "I") (by decide +kernel)) (fun _ h9 => h9) rfl dX5_meanUnlike_1 ?_
  refine lv_iconst (v := 2) hx hb dX5_meanUnlike_4 (by decide) ?_
  refine lv_icmp_ge (tgt := 19) hx hb dX5_meanUnlike_5 (by decide) (fun c_5 => absurd c_5 (by decide)) (fun _ => ?_)
  exact thSW hx hb hl0 (own := RX5) (cls := "java/lang/ArithmeticException") (text := "no kind has a parent") (ik := 297) (is := 299) (ic := 301) hown (by decide +kernel) (hts (.classLink RX5 297 "java/lang/ArithmeticException") (by decide +kernel)) (hts (.initialized "java/lang/ArithmeticException") (by decide +kernel)) hE.st299 (fun w h => hts w ((by decide +kernel : ∀ w ∈ (vx_atS RX5 301 "java/lang/ArithmeticException" supX).filter goodWord, w ∈ wm_c_X5_meanUnlike) w h)) (by decide +kernel) hE.ca5 (by decide +kernel) hE hS (by rw [hml]; exact hl.1) dX5_meanUnlike_8 dX5_meanUnlike_11 dX5_meanUnlike_12 dX5_meanUnlike_15 dX5_meanUnlike_18 htab (Nat.le_of_ble_eq_true rfl) (Nat.le_of_ble_eq_true rfl) (Nat.le_of_ble_eq_true rfl) (Nat.le_of_ble_eq_true rfl) hlocks hP hK hD [0] rfl (by decide) [] rfl (Nat.le_of_ble_eq_true rfl) (Nat.le_of_ble_eq_true rfl)

def wm_c_X5_rule : List Cond := .code yX5_rule cX5_rule 6 (some .boolean) :: ([.code yX5_needKind cX5_needKind 2 none, .classLink RX5 193 "java/lang/IndexOutOfBoundsException", .initialized "java/lang/IndexOutOfBoundsException", .fieldLink RX5 80 "Sowingcourt" "kindCount" "I", .methodLink RX5 97 yX5_needKind, .instanceMethod yX5_needKind, .selects RX5 yX5_needKind yX5_needKind, .initialized RX5] ++ (vx_atS RX5 197 "java/lang/IndexOutOfBoundsException" supX).filter goodWord ++ wsX50)
set_option maxRecDepth 20000 in
theorem gd_c_X5_rule_2 : GoodIn wm_c_X5_rule (wsV RX5 97 RX5 yX5_needKind wm_c_X5_needKind) := goodIn_of _ (by decide +kernel)
set_option maxHeartbeats 4000000 in
set_option maxRecDepth 100000 in
theorem c_X5_rule (l : Launch) (hl0 : l.stackTraces = false) (κ : Nat → Nat) (D : va_G) (sz : Nat) (h0 : Nat) (o0 : Nat) (g0 : Nat) (o2 : Nat) (o3 : Nat) (o4 : Nat) (o5 : Nat) (o6 : Nat) (p0 : Int32) (p1 : Int32) (p2 : Int32)  : vx_Met l yX5_rule wm_c_X5_rule ({ frames := 9, cells := 1, slots := 6, locals := 260 }) (va_Pc [.ref h0, .int p0, .int p1, .int p2] (PC κ D [] [(h0, .inr (12, [.ref o0, .int 0, .ref g0, .ref o2, .ref o3, .ref o4, .ref o5, .int 0, .ref o6]))] sz)) (va_Qi (fun (_ : Int32) (_ : Unit) => False) (fun _ _ => True) (va_A [(h0, .inr (12, [.ref o0, .int 0, .ref g0, .ref o2, .ref o3, .ref o4, .ref o5, .int 0, .ref o6]))] sz)) (XQ "java/lang/IndexOutOfBoundsException" D [] [(h0, .inr (12, [.ref o0, .int 0, .ref g0, .ref o2, .ref o3, .ref o4, .ref o5, .int 0, .ref o6]))] (va_A [(h0, .inr (12, [.ref o0, .int 0, .ref g0, .ref o2, .ref o3, .ref o4, .ref o5, .int 0, .ref o6]))] sz)) 1 6 (va_A [(h0, .inr (12, [.ref o0, .int 0, .ref g0, .ref o2, .ref o3, .ref o4, .ref o5, .int 0, .ref o6]))] sz) := by
  refine vx_ofW (cc := cX5_rule) (maxL := 6) (ret := (some .boolean)) (by decide +kernel) rfl ?_
  intro p e s m args below meth c s₁ B hml htab hv
  obtain ⟨rfl, hsz, hP, hK, hD0, hE⟩ := hv
  have hx := B.exec
  have hb := B.bytes
  have hr := B.returns
  have hts := atoms_spec (ws := wm_c_X5_rule) B.pre
  have hown : s.vm.findClass RX5 = some m.cls := findClass_of_methodNamed B.named
  have hlocks := B.notSynchronized
  have iRX5 : ∀ w ∈ u_ws RX5 TX5 9, w ∈ wm_c_X5_rule := by decide +kernel
  subst hsz
  have hD := hD0.self (sz := s.heap.size)
  generalize hAe : va_A [(h0, .inr (12, [.ref o0, .int 0, .ref g0, .ref o2, .ref o3, .ref o4, .ref o5, .int 0, .ref o6]))] s.heap.size = A at hD hE ⊢
  have hA : ∀ q : Nat, s.heap.size ≤ q → A q := fun q h => by rw [← hAe]; exact Or.inr h
  have hS : va_S A s.heap s.heap [] := va_S.rf
  have hl := lv_entry ([.ref h0, .int p0, .int p1, .int p2]) (n := 6) (Nat.le_of_ble_eq_true rfl)
  rw [lg_entry_eq]
  generalize (lg_sl ([.ref h0, .int p0, .int p1, .int p2]) ++ List.replicate (6 - (lg_sl ([.ref h0, .int p0, .int p1, .int p2])).length) Slot.unset).toArray = ls at hl ⊢
  have hl : lv_has ls 6 [(0, .ref h0), (1, .int p0), (2, .int p1), (3, .int p2)] := hl
  refine lv_aload_n hx hb dX5_rule_0 rfl (lv_at hl 0 rfl) ?_
  refine lv_iload_n hx hb dX5_rule_1 rfl (lv_at hl 1 rfl) ?_
  have hS0 := hS
  have hFc := va_free (wc := [(h0, .inr (12, [.ref o0, .int 0, .ref g0, .ref o2, .ref o3, .ref o4, .ref o5, .int 0, .ref o6]))]) hD hS hA [0] rfl
  refine vx_callv (vx_runV (As := [.int p0]) (rest := []) ⟨hx, hb, hml, hown, hts⟩ (c_X5_needKind l hl0 κ D (s.heap).size (h0) (o0) (g0) (o2) (o3) (o4) (o5) (o6) (p0) ) (cwV 1 hts gd_c_X5_rule_2 rfl rfl rfl (by decide +kernel) ⟨(Nat.le_of_ble_eq_true rfl), (Nat.le_of_ble_eq_true rfl)⟩) (preV hE hK hP hD hS hA [0] rfl (by decide) [] rfl (va_recv hK hP (ci := 12) (q0 := 0) rfl rfl)) rfl rfl hl.1 rfl (lv_room (Nat.le_of_ble_eq_true rfl)) dX5_rule_2 ⟨(Nat.le_of_ble_eq_true rfl), (Nat.le_of_ble_eq_true rfl)⟩) hS (fun q _ h => hFc q h) hFc (fun q _ h => hFc q h) (fun E9 ce q9 u9 t H1 locs ht hvm _ hB hz1 hk1 hS hce hcv hcl => ?_) (fun _ _ _ _ _ _ hw => hw.elim)
  obtain ⟨rfl, hB⟩ := hB
  obtain ⟨hP, hD, hK⟩ := jn (wc := [(h0, .inr (12, [.ref o0, .int 0, .ref g0, .ref o2, .ref o3, .ref o4, .ref o5, .int 0, .ref o6]))]) (wr := []) (w1 := [(h0, .inr (12, [.ref o0, .int 0, .ref g0, .ref o2, .ref o3, .ref o4, .ref o5, .int 0, .ref o6]))]) (t1 := []) hP hD hK hS0 hA [0] [] rfl rfl (by decide) (by decide) ht hvm hk1 hB
  generalize H1 = H at hP hS hce ⊢
  have hP : va_P D vwCl ([(h0, .inr (12, [.ref o0, .int 0, .ref g0, .ref o2, .ref o3, .ref o4, .ref o5, .int 0, .ref o6]))]) H := hP
  have hD : va_D A ([(h0, .inr (12, [.ref o0, .int 0, .ref g0, .ref o2, .ref o3, .ref o4, .ref o5, .int 0, .ref o6]))]) := hD
  have hK : va_K D vwCl [] s := hK
  refine vx_widen (k := 1) (n := 6) (Nat.le_of_ble_eq_true rfl) (Nat.le_of_ble_eq_true rfl) ?_
  exact vx_out (fun x hx => (htab x hx).elim) hlocks hce hcv hcl (fun t ht hal => ⟨(), trivial, ⟨rfl, PB.at hP hK hD hal ht [0] rfl (by decide) [] rfl⟩, hS.F ht⟩) hS.2.2 (Nat.le_of_ble_eq_true rfl) (Nat.le_of_ble_eq_true rfl)

def wm_c_X5_holds : List Cond := .code yX5_holds cX5_holds 3 (some .boolean) :: ([.code yX5_needKind cX5_needKind 2 none, .classLink RX5 193 "java/lang/IndexOutOfBoundsException", .initialized "java/lang/IndexOutOfBoundsException", .fieldLink RX5 80 "Sowingcourt" "kindCount" "I", .methodLink RX5 97 yX5_needKind, .instanceMethod yX5_needKind, .selects RX5 yX5_needKind yX5_needKind, .initialized RX5] ++ (vx_atS RX5 197 "java/lang/IndexOutOfBoundsException" supX).filter goodWord ++ wsX50)
set_option maxRecDepth 20000 in
theorem gd_c_X5_holds_2 : GoodIn wm_c_X5_holds (wsV RX5 97 RX5 yX5_needKind wm_c_X5_needKind) := goodIn_of _ (by decide +kernel)
set_option maxHeartbeats 4000000 in
set_option maxRecDepth 100000 in
theorem c_X5_holds (l : Launch) (hl0 : l.stackTraces = false) (κ : Nat → Nat) (D : va_G) (sz : Nat) (h0 : Nat) (o0 : Nat) (g0 : Nat) (o2 : Nat) (o3 : Nat) (o4 : Nat) (o5 : Nat) (o6 : Nat) (p0 : Int32) (p1 : Int32)  : vx_Met l yX5_holds wm_c_X5_holds ({ frames := 9, cells := 1, slots := 6, locals := 260 }) (va_Pc [.ref h0, .int p0, .int p1] (PC κ D [] [(h0, .inr (12, [.ref o0, .int 0, .ref g0, .ref o2, .ref o3, .ref o4, .ref o5, .int 0, .ref o6]))] sz)) (va_Qi (fun (_ : Int32) (_ : Unit) => False) (fun _ _ => True) (va_A [(h0, .inr (12, [.ref o0, .int 0, .ref g0, .ref o2, .ref o3, .ref o4, .ref o5, .int 0, .ref o6]))] sz)) (XQ "java/lang/IndexOutOfBoundsException" D [] [(h0, .inr (12, [.ref o0, .int 0, .ref g0, .ref o2, .ref o3, .ref o4, .ref o5, .int 0, .ref o6]))] (va_A [(h0, .inr (12, [.ref o0, .int 0, .ref g0, .ref o2, .ref o3, .ref o4, .ref o5, .int 0, .ref o6]))] sz)) 1 6 (va_A [(h0, .inr (12, [.ref o0, .int 0, .ref g0, .ref o2, .ref o3, .ref o4, .ref o5, .int 0, .ref o6]))] sz) := by
  refine vx_ofW (cc := cX5_holds) (maxL := 3) (ret := (some .boolean)) (by decide +kernel) rfl ?_
  intro p e s m args below meth c s₁ B hml htab hv
  obtain ⟨rfl, hsz, hP, hK, hD0, hE⟩ := hv
  have hx := B.exec
  have hb := B.bytes
  have hr := B.returns
  have hts := atoms_spec (ws := wm_c_X5_holds) B.pre
  have hown : s.vm.findClass RX5 = some m.cls := findClass_of_methodNamed B.named
  have hlocks := B.notSynchronized
  have iRX5 : ∀ w ∈ u_ws RX5 TX5 9, w ∈ wm_c_X5_holds := by decide +kernel
  subst hsz
  have hD := hD0.self (sz := s.heap.size)
  generalize hAe : va_A [(h0, .inr (12, [.ref o0, .int 0, .ref g0, .ref o2, .ref o3, .ref o4, .ref o5, .int 0, .ref o6]))] s.heap.size = A at hD hE ⊢
  have hA : ∀ q : Nat, s.heap.size ≤ q → A q := fun q h => by rw [← hAe]; exact Or.inr h
  have hS : va_S A s.heap s.heap [] := va_S.rf
  have hl := lv_entry ([.ref h0, .int p0, .int p1]) (n := 3) (Nat.le_of_ble_eq_true rfl)
  rw [lg_entry_eq]
  generalize (lg_sl ([.ref h0, .int p0, .int p1]) ++ List.replicate (3 - (lg_sl ([.ref h0, .int p0, .int p1])).length) Slot.unset).toArray = ls at hl ⊢
  have hl : lv_has ls 3 [(0, .ref h0), (1, .int p0), (2, .int p1)] := hl
  refine lv_aload_n hx hb dX5_holds_0 rfl (lv_at hl 0 rfl) ?_
  refine lv_iload_n hx hb dX5_holds_1 rfl (lv_at hl 1 rfl) ?_
  have hS0 := hS
  have hFc := va_free (wc := [(h0, .inr (12, [.ref o0, .int 0, .ref g0, .ref o2, .ref o3, .ref o4, .ref o5, .int 0, .ref o6]))]) hD hS hA [0] rfl
  refine vx_callv (vx_runV (As := [.int p0]) (rest := []) ⟨hx, hb, hml, hown, hts⟩ (c_X5_needKind l hl0 κ D (s.heap).size (h0) (o0) (g0) (o2) (o3) (o4) (o5) (o6) (p0) ) (cwV 1 hts gd_c_X5_holds_2 rfl rfl rfl (by decide +kernel) ⟨(Nat.le_of_ble_eq_true rfl), (Nat.le_of_ble_eq_true rfl)⟩) (preV hE hK hP hD hS hA [0] rfl (by decide) [] rfl (va_recv hK hP (ci := 12) (q0 := 0) rfl rfl)) rfl rfl hl.1 rfl (lv_room (Nat.le_of_ble_eq_true rfl)) dX5_holds_2 ⟨(Nat.le_of_ble_eq_true rfl), (Nat.le_of_ble_eq_true rfl)⟩) hS (fun q _ h => hFc q h) hFc (fun q _ h => hFc q h) (fun E9 ce q9 u9 t H1 locs ht hvm _ hB hz1 hk1 hS hce hcv hcl => ?_) (fun _ _ _ _ _ _ hw => hw.elim)
  obtain ⟨rfl, hB⟩ := hB
  obtain ⟨hP, hD, hK⟩ := jn (wc := [(h0, .inr (12, [.ref o0, .int 0, .ref g0, .ref o2, .ref o3, .ref o4, .ref o5, .int 0, .ref o6]))]) (wr := []) (w1 := [(h0, .inr (12, [.ref o0, .int 0, .ref g0, .ref o2, .ref o3, .ref o4, .ref o5, .int 0, .ref o6]))]) (t1 := []) hP hD hK hS0 hA [0] [] rfl rfl (by decide) (by decide) ht hvm hk1 hB
  generalize H1 = H at hP hS hce ⊢
  have hP : va_P D vwCl ([(h0, .inr (12, [.ref o0, .int 0, .ref g0, .ref o2, .ref o3, .ref o4, .ref o5, .int 0, .ref o6]))]) H := hP
  have hD : va_D A ([(h0, .inr (12, [.ref o0, .int 0, .ref g0, .ref o2, .ref o3, .ref o4, .ref o5, .int 0, .ref o6]))]) := hD
  have hK : va_K D vwCl [] s := hK
  refine vx_widen (k := 1) (n := 6) (Nat.le_of_ble_eq_true rfl) (Nat.le_of_ble_eq_true rfl) ?_
  exact vx_out (fun x hx => (htab x hx).elim) hlocks hce hcv hcl (fun t ht hal => ⟨(), trivial, ⟨rfl, PB.at hP hK hD hal ht [0] rfl (by decide) [] rfl⟩, hS.F ht⟩) hS.2.2 (Nat.le_of_ble_eq_true rfl) (Nat.le_of_ble_eq_true rfl)

def wm_c_X5_copy : List Cond := .code yX5_copy cX5_copy 2 (some .int) :: ([.code yX5_needKind cX5_needKind 2 none, .classLink RX5 193 "java/lang/IndexOutOfBoundsException", .initialized "java/lang/IndexOutOfBoundsException", .fieldLink RX5 80 "Sowingcourt" "kindCount" "I", .methodLink RX5 97 yX5_needKind, .instanceMethod yX5_needKind, .selects RX5 yX5_needKind yX5_needKind, .initialized RX5] ++ (vx_atS RX5 197 "java/lang/IndexOutOfBoundsException" supX).filter goodWord ++ wsX50)
set_option maxRecDepth 20000 in
theorem gd_c_X5_copy_2 : GoodIn wm_c_X5_copy (wsV RX5 97 RX5 yX5_needKind wm_c_X5_needKind) := goodIn_of _ (by decide +kernel)
set_option maxHeartbeats 4000000 in
set_option maxRecDepth 100000 in
theorem c_X5_copy (l : Launch) (hl0 : l.stackTraces = false) (κ : Nat → Nat) (D : va_G) (sz : Nat) (h0 : Nat) (o0 : Nat) (g0 : Nat) (o2 : Nat) (o3 : Nat) (o4 : Nat) (o5 : Nat) (o6 : Nat) (p0 : Int32)  : vx_Met l yX5_copy wm_c_X5_copy ({ frames := 9, cells := 1, slots := 6, locals := 260 }) (va_Pc [.ref h0, .int p0] (PC κ D [] [(h0, .inr (12, [.ref o0, .int 0, .ref g0, .ref o2, .ref o3, .ref o4, .ref o5, .int 0, .ref o6]))] sz)) (va_Qi (fun (_ : Int32) (_ : Unit) => False) (fun _ _ => True) (va_A [(h0, .inr (12, [.ref o0, .int 0, .ref g0, .ref o2, .ref o3, .ref o4, .ref o5, .int 0, .ref o6]))] sz)) (XQ "java/lang/IndexOutOfBoundsException" D [] [(h0, .inr (12, [.ref o0, .int 0, .ref g0, .ref o2, .ref o3, .ref o4, .ref o5, .int 0, .ref o6]))] (va_A [(h0, .inr (12, [.ref o0, .int 0, .ref g0, .ref o2, .ref o3, .ref o4, .ref o5, .int 0, .ref o6]))] sz)) 1 6 (va_A [(h0, .inr (12, [.ref o0, .int 0, .ref g0, .ref o2, .ref o3, .ref o4, .ref o5, .int 0, .ref o6]))] sz) := by
  refine vx_ofW (cc := cX5_copy) (maxL := 2) (ret := (some .int)) (by decide +kernel) rfl ?_
  intro p e s m args below meth c s₁ B hml htab hv
  obtain ⟨rfl, hsz, hP, hK, hD0, hE⟩ := hv
  have hx := B.exec
  have hb := B.bytes
  have hr := B.returns
  have hts := atoms_spec (ws := wm_c_X5_copy) B.pre
  have hown : s.vm.findClass RX5 = some m.cls := findClass_of_methodNamed B.named
  have hlocks := B.notSynchronized
  have iRX5 : ∀ w ∈ u_ws RX5 TX5 9, w ∈ wm_c_X5_copy := by decide +kernel
  subst hsz
  have hD := hD0.self (sz := s.heap.size)
  generalize hAe : va_A [(h0, .inr (12, [.ref o0, .int 0, .ref g0, .ref o2, .ref o3, .ref o4, .ref o5, .int 0, .ref o6]))] s.heap.size = A at hD hE ⊢
  have hA : ∀ q : Nat, s.heap.size ≤ q → A q := fun q h => by rw [← hAe]; exact Or.inr h
  have hS : va_S A s.heap s.heap [] := va_S.rf
  have hl := lv_entry ([.ref h0, .int p0]) (n := 2) (Nat.le_of_ble_eq_true rfl)
  rw [lg_entry_eq]
  generalize (lg_sl ([.ref h0, .int p0]) ++ List.replicate (2 - (lg_sl ([.ref h0, .int p0])).length) Slot.unset).toArray = ls at hl ⊢
  have hl : lv_has ls 2 [(0, .ref h0), (1, .int p0)] := hl
  refine lv_aload_n hx hb dX5_copy_0 rfl (lv_at hl 0 rfl) ?_
  refine lv_iload_n hx hb dX5_copy_1 rfl (lv_at hl 1 rfl) ?_
  have hS0 := hS
  have hFc := va_free (wc := [(h0, .inr (12, [.ref o0, .int 0, .ref g0, .ref o2, .ref o3, .ref o4, .ref o5, .int 0, .ref o6]))]) hD hS hA [0] rfl
  refine vx_callv (vx_runV (As := [.int p0]) (rest := []) ⟨hx, hb, hml, hown, hts⟩ (c_X5_needKind l hl0 κ D (s.heap).size (h0) (o0) (g0) (o2) (o3) (o4) (o5) (o6) (p0) ) (cwV 1 hts gd_c_X5_copy_2 rfl rfl rfl (by decide +kernel) ⟨(Nat.le_of_ble_eq_true rfl), (Nat.le_of_ble_eq_true rfl)⟩) (preV hE hK hP hD hS hA [0] rfl (by decide) [] rfl (va_recv hK hP (ci := 12) (q0 := 0) rfl rfl)) rfl rfl hl.1 rfl (lv_room (Nat.le_of_ble_eq_true rfl)) dX5_copy_2 ⟨(Nat.le_of_ble_eq_true rfl), (Nat.le_of_ble_eq_true rfl)⟩) hS (fun q _ h => hFc q h) hFc (fun q _ h => hFc q h) (fun E9 ce q9 u9 t H1 locs ht hvm _ hB hz1 hk1 hS hce hcv hcl => ?_) (fun _ _ _ _ _ _ hw => hw.elim)
  obtain ⟨rfl, hB⟩ := hB
  obtain ⟨hP, hD, hK⟩ := jn (wc := [(h0, .inr (12, [.ref o0, .int 0, .ref g0, .ref o2, .ref o3, .ref o4, .ref o5, .int 0, .ref o6]))]) (wr := []) (w1 := [(h0, .inr (12, [.ref o0, .int 0, .ref g0, .ref o2, .ref o3, .ref o4, .ref o5, .int 0, .ref o6]))]) (t1 := []) hP hD hK hS0 hA [0] [] rfl rfl (by decide) (by decide) ht hvm hk1 hB
  generalize H1 = H at hP hS hce ⊢
  have hP : va_P D vwCl ([(h0, .inr (12, [.ref o0, .int 0, .ref g0, .ref o2, .ref o3, .ref o4, .ref o5, .int 0, .ref o6]))]) H := hP
  have hD : va_D A ([(h0, .inr (12, [.ref o0, .int 0, .ref g0, .ref o2, .ref o3, .ref o4, .ref o5, .int 0, .ref o6]))]) := hD
  have hK : va_K D vwCl [] s := hK
  refine vx_widen (k := 1) (n := 6) (Nat.le_of_ble_eq_true rfl) (Nat.le_of_ble_eq_true rfl) ?_
  exact vx_out (fun x hx => (htab x hx).elim) hlocks hce hcv hcl (fun t ht hal => ⟨(), trivial, ⟨rfl, PB.at hP hK hD hal ht [0] rfl (by decide) [] rfl⟩, hS.F ht⟩) hS.2.2 (Nat.le_of_ble_eq_true rfl) (Nat.le_of_ble_eq_true rfl)

def wm_c_X5_unlike : List Cond := .code yX5_unlike cX5_unlike 3 (some .int) :: ([.code yX5_needKind cX5_needKind 2 none, .classLink RX5 193 "java/lang/IndexOutOfBoundsException", .initialized "java/lang/IndexOutOfBoundsException", .fieldLink RX5 80 "Sowingcourt" "kindCount" "I", .methodLink RX5 97 yX5_needKind, .instanceMethod yX5_needKind, .selects RX5 yX5_needKind yX5_needKind, .initialized RX5] ++ (vx_atS RX5 197 "java/lang/IndexOutOfBoundsException" supX).filter goodWord ++ wsX50)
set_option maxRecDepth 20000 in
theorem gd_c_X5_unlike_2 : GoodIn wm_c_X5_unlike (wsV RX5 97 RX5 yX5_needKind wm_c_X5_needKind) := goodIn_of _ (by decide +kernel)
set_option maxHeartbeats 4000000 in
set_option maxRecDepth 100000 in
theorem c_X5_unlike (l : Launch) (hl0 : l.stackTraces = false) (κ : Nat → Nat) (D : va_G) (sz : Nat) (h0 : Nat) (o0 : Nat) (g0 : Nat) (o2 : Nat) (o3 : Nat) (o4 : Nat) (o5 : Nat) (o6 : Nat) (p0 : Int32) (p1 : Int32)  : vx_Met l yX5_unlike wm_c_X5_unlike ({ frames := 9, cells := 1, slots := 6, locals := 260 }) (va_Pc [.ref h0, .int p0, .int p1] (PC κ D [] [(h0, .inr (12, [.ref o0, .int 0, .ref g0, .ref o2, .ref o3, .ref o4, .ref o5, .int 0, .ref o6]))] sz)) (va_Qi (fun (_ : Int32) (_ : Unit) => False) (fun _ _ => True) (va_A [(h0, .inr (12, [.ref o0, .int 0, .ref g0, .ref o2, .ref o3, .ref o4, .ref o5, .int 0, .ref o6]))] sz)) (XQ "java/lang/IndexOutOfBoundsException" D [] [(h0, .inr (12, [.ref o0, .int 0, .ref g0, .ref o2, .ref o3, .ref o4, .ref o5, .int 0, .ref o6]))] (va_A [(h0, .inr (12, [.ref o0, .int 0, .ref g0, .ref o2, .ref o3, .ref o4, .ref o5, .int 0, .ref o6]))] sz)) 1 6 (va_A [(h0, .inr (12, [.ref o0, .int 0, .ref g0, .ref o2, .ref o3, .ref o4, .ref o5, .int 0, .ref o6]))] sz) := by
  refine vx_ofW (cc := cX5_unlike) (maxL := 3) (ret := (some .int)) (by decide +kernel) rfl ?_
  intro p e s m args below meth c s₁ B hml htab hv
  obtain ⟨rfl, hsz, hP, hK, hD0, hE⟩ := hv
  have hx := B.exec
  have hb := B.bytes
  have hr := B.returns
  have hts := atoms_spec (ws := wm_c_X5_unlike) B.pre
  have hown : s.vm.findClass RX5 = some m.cls := findClass_of_methodNamed B.named
  have hlocks := B.notSynchronized
  have iRX5 : ∀ w ∈ u_ws RX5 TX5 9, w ∈ wm_c_X5_unlike := by decide +kernel
  subst hsz
  have hD := hD0.self (sz := s.heap.size)
  generalize hAe : va_A [(h0, .inr (12, [.ref o0, .int 0, .ref g0, .ref o2, .ref o3, .ref o4, .ref o5, .int 0, .ref o6]))] s.heap.size = A at hD hE ⊢
  have hA : ∀ q : Nat, s.heap.size ≤ q → A q := fun q h => by rw [← hAe]; exact Or.inr h
  have hS : va_S A s.heap s.heap [] := va_S.rf
  have hl := lv_entry ([.ref h0, .int p0, .int p1]) (n := 3) (Nat.le_of_ble_eq_true rfl)
  rw [lg_entry_eq]
  generalize (lg_sl ([.ref h0, .int p0, .int p1]) ++ List.replicate (3 - (lg_sl ([.ref h0, .int p0, .int p1])).length) Slot.unset).toArray = ls at hl ⊢
  have hl : lv_has ls 3 [(0, .ref h0), (1, .int p0), (2, .int p1)] := hl
  refine lv_aload_n hx hb dX5_unlike_0 rfl (lv_at hl 0 rfl) ?_
  refine lv_iload_n hx hb dX5_unlike_1 rfl (lv_at hl 1 rfl) ?_
  have hS0 := hS
  have hFc := va_free (wc := [(h0, .inr (12, [.ref o0, .int 0, .ref g0, .ref o2, .ref o3, .ref o4, .ref o5, .int 0, .ref o6]))]) hD hS hA [0] rfl
  refine vx_callv (vx_runV (As := [.int p0]) (rest := []) ⟨hx, hb, hml, hown, hts⟩ (c_X5_needKind l hl0 κ D (s.heap).size (h0) (o0) (g0) (o2) (o3) (o4) (o5) (o6) (p0) ) (cwV 1 hts gd_c_X5_unlike_2 rfl rfl rfl (by decide +kernel) ⟨(Nat.le_of_ble_eq_true rfl), (Nat.le_of_ble_eq_true rfl)⟩) (preV hE hK hP hD hS hA [0] rfl (by decide) [] rfl (va_recv hK hP (ci := 12) (q0 := 0) rfl rfl)) rfl rfl hl.1 rfl (lv_room (Nat.le_of_ble_eq_true rfl)) dX5_unlike_2 ⟨(Nat.le_of_ble_eq_true rfl), (Nat.le_of_ble_eq_true rfl)⟩) hS (fun q _ h => hFc q h) hFc (fun q _ h => hFc q h) (fun E9 ce q9 u9 t H1 locs ht hvm _ hB hz1 hk1 hS hce hcv hcl => ?_) (fun _ _ _ _ _ _ hw => hw.elim)
  obtain ⟨rfl, hB⟩ := hB
  obtain ⟨hP, hD, hK⟩ := jn (wc := [(h0, .inr (12, [.ref o0, .int 0, .ref g0, .ref o2, .ref o3, .ref o4, .ref o5, .int 0, .ref o6]))]) (wr := []) (w1 := [(h0, .inr (12, [.ref o0, .int 0, .ref g0, .ref o2, .ref o3, .ref o4, .ref o5, .int 0, .ref o6]))]) (t1 := []) hP hD hK hS0 hA [0] [] rfl rfl (by decide) (by decide) ht hvm hk1 hB
  generalize H1 = H at hP hS hce ⊢
  have hP : va_P D vwCl ([(h0, .inr (12, [.ref o0, .int 0, .ref g0, .ref o2, .ref o3, .ref o4, .ref o5, .int 0, .ref o6]))]) H := hP
  have hD : va_D A ([(h0, .inr (12, [.ref o0, .int 0, .ref g0, .ref o2, .ref o3, .ref o4, .ref o5, .int 0, .ref o6]))]) := hD
  have hK : va_K D vwCl [] s := hK
  refine vx_widen (k := 1) (n := 6) (Nat.le_of_ble_eq_true rfl) (Nat.le_of_ble_eq_true rfl) ?_
  exact vx_out (fun x hx => (htab x hx).elim) hlocks hce hcv hcl (fun t ht hal => ⟨(), trivial, ⟨rfl, PB.at hP hK hD hal ht [0] rfl (by decide) [] rfl⟩, hS.F ht⟩) hS.2.2 (Nat.le_of_ble_eq_true rfl) (Nat.le_of_ble_eq_true rfl)

def wm_c_X5_parent : List Cond := .code yX5_parent cX5_parent 2 (some .int) :: ([.code yX5_needKind cX5_needKind 2 none, .classLink RX5 193 "java/lang/IndexOutOfBoundsException", .initialized "java/lang/IndexOutOfBoundsException", .fieldLink RX5 80 "Sowingcourt" "kindCount" "I", .methodLink RX5 97 yX5_needKind, .instanceMethod yX5_needKind, .selects RX5 yX5_needKind yX5_needKind, .initialized RX5] ++ (vx_atS RX5 197 "java/lang/IndexOutOfBoundsException" supX).filter goodWord ++ wsX50)
set_option maxRecDepth 20000 in
theorem gd_c_X5_parent_2 : GoodIn wm_c_X5_parent (wsV RX5 97 RX5 yX5_needKind wm_c_X5_needKind) := goodIn_of _ (by decide +kernel)
set_option maxHeartbeats 4000000 in
set_option maxRecDepth 100000 in
theorem c_X5_parent (l : Launch) (hl0 : l.stackTraces = false) (κ : Nat → Nat) (D : va_G) (sz : Nat) (h0 : Nat) (o0 : Nat) (g0 : Nat) (o2 : Nat) (o3 : Nat) (o4 : Nat) (o5 : Nat) (o6 : Nat) (p0 : Int32)  : vx_Met l yX5_parent wm_c_X5_parent ({ frames := 9, cells := 1, slots := 6, locals := 260 }) (va_Pc [.ref h0, .int p0] (PC κ D [] [(h0, .inr (12, [.ref o0, .int 0, .ref g0, .ref o2, .ref o3, .ref o4, .ref o5, .int 0, .ref o6]))] sz)) (va_Qi (fun (_ : Int32) (_ : Unit) => False) (fun _ _ => True) (va_A [(h0, .inr (12, [.ref o0, .int 0, .ref g0, .ref o2, .ref o3, .ref o4, .ref o5, .int 0, .ref o6]))] sz)) (XQ "java/lang/IndexOutOfBoundsException" D [] [(h0, .inr (12, [.ref o0, .int 0, .ref g0, .ref o2, .ref o3, .ref o4, .ref o5, .int 0, .ref o6]))] (va_A [(h0, .inr (12, [.ref o0, .int 0, .ref g0, .ref o2, .ref o3, .ref o4, .ref o5, .int 0, .ref o6]))] sz)) 1 6 (va_A [(h0, .inr (12, [.ref o0, .int 0, .ref g0, .ref o2, .ref o3, .ref o4, .ref o5, .int 0, .ref o6]))] sz) := by
  refine vx_ofW (cc := cX5_parent) (maxL := 2) (ret := (some .int)) (by decide +kernel) rfl ?_
  intro p e s m args below meth c s₁ B hml htab hv
  obtain ⟨rfl, hsz, hP, hK, hD0, hE⟩ := hv
  have hx := B.exec
  have hb := B.bytes
  have hr := B.returns
  have hts := atoms_spec (ws := wm_c_X5_parent) B.pre
  have hown : s.vm.findClass RX5 = some m.cls := findClass_of_methodNamed B.named
  have hlocks := B.notSynchronized
  have iRX5 : ∀ w ∈ u_ws RX5 TX5 9, w ∈ wm_c_X5_parent := by decide +kernel
  subst hsz
  have hD := hD0.self (sz := s.heap.size)
  generalize hAe : va_A [(h0, .inr (12, [.ref o0, .int 0, .ref g0, .ref o2, .ref o3, .ref o4, .ref o5, .int 0, .ref o6]))] s.heap.size = A at hD hE ⊢
  have hA : ∀ q : Nat, s.heap.size ≤ q → A q := fun q h => by rw [← hAe]; exact Or.inr h
  have hS : va_S A s.heap s.heap [] := va_S.rf
  have hl := lv_entry ([.ref h0, .int p0]) (n := 2) (Nat.le_of_ble_eq_true rfl)
  rw [lg_entry_eq]
  generalize (lg_sl ([.ref h0, .int p0]) ++ List.replicate (2 - (lg_sl ([.ref h0, .int p0])).length) Slot.unset).toArray = ls at hl ⊢
  have hl : lv_has ls 2 [(0, .ref h0), (1, .int p0)] := hl
  refine lv_aload_n hx hb dX5_parent_0 rfl (lv_at hl 0 rfl) ?_
  refine lv_iload_n hx hb dX5_parent_1 rfl (lv_at hl 1 rfl) ?_
  have hS0 := hS
  have hFc := va_free (wc := [(h0, .inr (12, [.ref o0, .int 0, .ref g0, .ref o2, .ref o3, .ref o4, .ref o5, .int 0, .ref o6]))]) hD hS hA [0] rfl
  refine vx_callv (vx_runV (As := [.int p0]) (rest := []) ⟨hx, hb, hml, hown, hts⟩ (c_X5_needKind l hl0 κ D (s.heap).size (h0) (o0) (g0) (o2) (o3) (o4) (o5) (o6) (p0) ) (cwV 1 hts gd_c_X5_parent_2 rfl rfl rfl (by decide +kernel) ⟨(Nat.le_of_ble_eq_true rfl), (Nat.le_of_ble_eq_true rfl)⟩) (preV hE hK hP hD hS hA [0] rfl (by decide) [] rfl (va_recv hK hP (ci := 12) (q0 := 0) rfl rfl)) rfl rfl hl.1 rfl (lv_room (Nat.le_of_ble_eq_true rfl)) dX5_parent_2 ⟨(Nat.le_of_ble_eq_true rfl), (Nat.le_of_ble_eq_true rfl)⟩) hS (fun q _ h => hFc q h) hFc (fun q _ h => hFc q h) (fun E9 ce q9 u9 t H1 locs ht hvm _ hB hz1 hk1 hS hce hcv hcl => ?_) (fun _ _ _ _ _ _ hw => hw.elim)
  obtain ⟨rfl, hB⟩ := hB
  obtain ⟨hP, hD, hK⟩ := jn (wc := [(h0, .inr (12, [.ref o0, .int 0, .ref g0, .ref o2, .ref o3, .ref o4, .ref o5, .int 0, .ref o6]))]) (wr := []) (w1 := [(h0, .inr (12, [.ref o0, .int 0, .ref g0, .ref o2, .ref o3, .ref o4, .ref o5, .int 0, .ref o6]))]) (t1 := []) hP hD hK hS0 hA [0] [] rfl rfl (by decide) (by decide) ht hvm hk1 hB
  generalize H1 = H at hP hS hce ⊢
  have hP : va_P D vwCl ([(h0, .inr (12, [.ref o0, .int 0, .ref g0, .ref o2, .ref o3, .ref o4, .ref o5, .int 0, .ref o6]))]) H := hP
  have hD : va_D A ([(h0, .inr (12, [.ref o0, .int 0, .ref g0, .ref o2, .ref o3, .ref o4, .ref o5, .int 0, .ref o6]))]) := hD
  have hK : va_K D vwCl [] s := hK
  refine vx_widen (k := 1) (n := 6) (Nat.le_of_ble_eq_true rfl) (Nat.le_of_ble_eq_true rfl) ?_
  exact vx_out (fun x hx => (htab x hx).elim) hlocks hce hcv hcl (fun t ht hal => ⟨(), trivial, ⟨rfl, PB.at hP hK hD hal ht [0] rfl (by decide) [] rfl⟩, hS.F ht⟩) hS.2.2 (Nat.le_of_ble_eq_true rfl) (Nat.le_of_ble_eq_true rfl)

def wm_c_X5_start : List Cond := .code yX5_start cX5_start 2 (some .int) :: ([.code yX5_needKind cX5_needKind 2 none, .classLink RX5 193 "java/lang/IndexOutOfBoundsException", .initialized "java/lang/IndexOutOfBoundsException", .fieldLink RX5 80 "Sowingcourt" "kindCount" "I", .methodLink RX5 97 yX5_needKind, .instanceMethod yX5_needKind, .selects RX5 yX5_needKind yX5_needKind, .initialized RX5] ++ (vx_atS RX5 197 "java/lang/IndexOutOfBoundsException" supX).filter goodWord ++ wsX50)
set_option maxRecDepth 20000 in
theorem gd_c_X5_start_2 : GoodIn wm_c_X5_start (wsV RX5 97 RX5 yX5_needKind wm_c_X5_needKind) := goodIn_of _ (by decide +kernel)
set_option maxHeartbeats 4000000 in
set_option maxRecDepth 100000 in
theorem c_X5_start (l : Launch) (hl0 : l.stackTraces = false) (κ : Nat → Nat) (D : va_G) (sz : Nat) (h0 : Nat) (o0 : Nat) (g0 : Nat) (o2 : Nat) (o3 : Nat) (o4 : Nat) (o5 : Nat) (o6 : Nat) (p0 : Int32)  : vx_Met l yX5_start wm_c_X5_start ({ frames := 9, cells := 1, slots := 6, locals := 260 }) (va_Pc [.ref h0, .int p0] (PC κ D [] [(h0, .inr (12, [.ref o0, .int 0, .ref g0, .ref o2, .ref o3, .ref o4, .ref o5, .int 0, .ref o6]))] sz)) (va_Qi (fun (_ : Int32) (_ : Unit) => False) (fun _ _ => True) (va_A [(h0, .inr (12, [.ref o0, .int 0, .ref g0, .ref o2, .ref o3, .ref o4, .ref o5, .int 0, .ref o6]))] sz)) (XQ "java/lang/IndexOutOfBoundsException" D [] [(h0, .inr (12, [.ref o0, .int 0, .ref g0, .ref o2, .ref o3, .ref o4, .ref o5, .int 0, .ref o6]))] (va_A [(h0, .inr (12, [.ref o0, .int 0, .ref g0, .ref o2, .ref o3, .ref o4, .ref o5, .int 0, .ref o6]))] sz)) 1 6 (va_A [(h0, .inr (12, [.ref o0, .int 0, .ref g0, .ref o2, .ref o3, .ref o4, .ref o5, .int 0, .ref o6]))] sz) := by
  refine vx_ofW (cc := cX5_start) (maxL := 2) (ret := (some .int)) (by decide +kernel) rfl ?_
  intro p e s m args below meth c s₁ B hml htab hv
  obtain ⟨rfl, hsz, hP, hK, hD0, hE⟩ := hv
  have hx := B.exec
  have hb := B.bytes
  have hr := B.returns
  have hts := atoms_spec (ws := wm_c_X5_start) B.pre
  have hown : s.vm.findClass RX5 = some m.cls := findClass_of_methodNamed B.named
  have hlocks := B.notSynchronized
  have iRX5 : ∀ w ∈ u_ws RX5 TX5 9, w ∈ wm_c_X5_start := by decide +kernel
  subst hsz
  have hD := hD0.self (sz := s.heap.size)
  generalize hAe : va_A [(h0, .inr (12, [.ref o0, .int 0, .ref g0, .ref o2, .ref o3, .ref o4, .ref o5, .int 0, .ref o6]))] s.heap.size = A at hD hE ⊢
  have hA : ∀ q : Nat, s.heap.size ≤ q → A q := fun q h => by rw [← hAe]; exact Or.inr h
  have hS : va_S A s.heap s.heap [] := va_S.rf
  have hl := lv_entry ([.ref h0, .int p0]) (n := 2) (Nat.le_of_ble_eq_true rfl)
  rw [lg_entry_eq]
  generalize (lg_sl ([.ref h0, .int p0]) ++ List.replicate (2 - (lg_sl ([.ref h0, .int p0])).length) Slot.unset).toArray = ls at hl ⊢
  have hl : lv_has ls 2 [(0, .ref h0), (1, .int p0)] := hl
  refine lv_aload_n hx hb dX5_start_0 rfl (lv_at hl 0 rfl) ?_
  refine lv_iload_n hx hb dX5_start_1 rfl (lv_at hl 1 rfl) ?_
  have hS0 := hS
  have hFc := va_free (wc := [(h0, .inr (12, [.ref o0, .int 0, .ref g0, .ref o2, .ref o3, .ref o4, .ref o5, .int 0, .ref o6]))]) hD hS hA [0] rfl
  refine vx_callv (vx_runV (As := [.int p0]) (rest := []) ⟨hx, hb, hml, hown, hts⟩ (c_X5_needKind l hl0 κ D (s.heap).size (h0) (o0) (g0) (o2) (o3) (o4) (o5) (o6) (p0) ) (cwV 1 hts gd_c_X5_start_2 rfl rfl rfl (by decide +kernel) ⟨(Nat.le_of_ble_eq_true rfl), (Nat.le_of_ble_eq_true rfl)⟩) (preV hE hK hP hD hS hA [0] rfl (by decide) [] rfl (va_recv hK hP (ci := 12) (q0 := 0) rfl rfl)) rfl rfl hl.1 rfl (lv_room (Nat.le_of_ble_eq_true rfl)) dX5_start_2 ⟨(Nat.le_of_ble_eq_true rfl), (Nat.le_of_ble_eq_true rfl)⟩) hS (fun q _ h => hFc q h) hFc (fun q _ h => hFc q h) (fun E9 ce q9 u9 t H1 locs ht hvm _ hB hz1 hk1 hS hce hcv hcl => ?_) (fun _ _ _ _ _ _ hw => hw.elim)
  obtain ⟨rfl, hB⟩ := hB
  obtain ⟨hP, hD, hK⟩ := jn (wc := [(h0, .inr (12, [.ref o0, .int 0, .ref g0, .ref o2, .ref o3, .ref o4, .ref o5, .int 0, .ref o6]))]) (wr := []) (w1 := [(h0, .inr (12, [.ref o0, .int 0, .ref g0, .ref o2, .ref o3, .ref o4, .ref o5, .int 0, .ref o6]))]) (t1 := []) hP hD hK hS0 hA [0] [] rfl rfl (by decide) (by decide) ht hvm hk1 hB
  generalize H1 = H at hP hS hce ⊢
  have hP : va_P D vwCl ([(h0, .inr (12, [.ref o0, .int 0, .ref g0, .ref o2, .ref o3, .ref o4, .ref o5, .int 0, .ref o6]))]) H := hP
  have hD : va_D A ([(h0, .inr (12, [.ref o0, .int 0, .ref g0, .ref o2, .ref o3, .ref o4, .ref o5, .int 0, .ref o6]))]) := hD
  have hK : va_K D vwCl [] s := hK
  refine vx_widen (k := 1) (n := 6) (Nat.le_of_ble_eq_true rfl) (Nat.le_of_ble_eq_true rfl) ?_
  exact vx_out (fun x hx => (htab x hx).elim) hlocks hce hcv hcl (fun t ht hal => ⟨(), trivial, ⟨rfl, PB.at hP hK hD hal ht [0] rfl (by decide) [] rfl⟩, hS.F ht⟩) hS.2.2 (Nat.le_of_ble_eq_true rfl) (Nat.le_of_ble_eq_true rfl)

def wm_c_X5_play : List Cond := .code yX5_play cX5_play 4 (some .int) :: ([.code yX5_needKind cX5_needKind 2 none, .classLink RX5 193 "java/lang/IndexOutOfBoundsException", .initialized "java/lang/IndexOutOfBoundsException", .fieldLink RX5 80 "Sowingcourt" "kindCount" "I", .methodLink RX5 97 yX5_needKind, .instanceMethod yX5_needKind, .selects RX5 yX5_needKind yX5_needKind, .initialized RX5] ++ (vx_atS RX5 197 "java/lang/IndexOutOfBoundsException" supX).filter goodWord ++ wsX50)
set_option maxRecDepth 20000 in
theorem gd_c_X5_play_2 : GoodIn wm_c_X5_play (wsV RX5 97 RX5 yX5_needKind wm_c_X5_needKind) := goodIn_of _ (by decide +kernel)
set_option maxHeartbeats 4000000 in
set_option maxRecDepth 100000 in
theorem c_X5_play (l : Launch) (hl0 : l.stackTraces = false) (κ : Nat → Nat) (D : va_G) (sz : Nat) (h0 : Nat) (o0 : Nat) (g0 : Nat) (o2 : Nat) (o3 : Nat) (o4 : Nat) (o5 : Nat) (o6 : Nat) (p0 : Int32) (p1 : Int32)  : vx_Met l yX5_play wm_c_X5_play ({ frames := 9, cells := 1, slots := 6, locals := 260 }) (va_Pc [.ref h0, .int p0, .int p1] (PC κ D [] [(h0, .inr (12, [.ref o0, .int 0, .ref g0, .ref o2, .ref o3, .ref o4, .ref o5, .int 0, .ref o6]))] sz)) (va_Qi (fun (_ : Int32) (_ : Unit) => False) (fun _ _ => True) (va_A [(h0, .inr (12, [.ref o0, .int 0, .ref g0, .ref o2, .ref o3, .ref o4, .ref o5, .int 0, .ref o6]))] sz)) (XQ "java/lang/IndexOutOfBoundsException" D [] [(h0, .inr (12, [.ref o0, .int 0, .ref g0, .ref o2, .ref o3, .ref o4, .ref o5, .int 0, .ref o6]))] (va_A [(h0, .inr (12, [.ref o0, .int 0, .ref g0, .ref o2, .ref o3, .ref o4, .ref o5, .int 0, .ref o6]))] sz)) 1 6 (va_A [(h0, .inr (12, [.ref o0, .int 0, .ref g0, .ref o2, .ref o3, .ref o4, .ref o5, .int 0, .ref o6]))] sz) := by
  refine vx_ofW (cc := cX5_play) (maxL := 4) (ret := (some .int)) (by decide +kernel) rfl ?_
  intro p e s m args below meth c s₁ B hml htab hv
  obtain ⟨rfl, hsz, hP, hK, hD0, hE⟩ := hv
  have hx := B.exec
  have hb := B.bytes
  have hr := B.returns
  have hts := atoms_spec (ws := wm_c_X5_play) B.pre
  have hown : s.vm.findClass RX5 = some m.cls := findClass_of_methodNamed B.named
  have hlocks := B.notSynchronized
  have iRX5 : ∀ w ∈ u_ws RX5 TX5 9, w ∈ wm_c_X5_play := by decide +kernel
  subst hsz
  have hD := hD0.self (sz := s.heap.size)
  generalize hAe : va_A [(h0, .inr (12, [.ref o0, .int 0, .ref g0, .ref o2, .ref o3, .ref o4, .ref o5, .int 0, .ref o6]))] s.heap.size = A at hD hE ⊢
  have hA : ∀ q : Nat, s.heap.size ≤ q → A q := fun q h => by rw [← hAe]; exact Or.inr h
  have hS : va_S A s.heap s.heap [] := va_S.rf
  have hl := lv_entry ([.ref h0, .int p0, .int p1]) (n := 4) (Nat.le_of_ble_eq_true rfl)
  rw [lg_entry_eq]
  generalize (lg_sl ([.ref h0, .int p0, .int p1]) ++ List.replicate (4 - (lg_sl ([.ref h0, .int p0, .int p1])).length) Slot.unset).toArray = ls at hl ⊢
  have hl : lv_has ls 4 [(0, .ref h0), (1, .int p0), (2, .int p1)] := hl
  refine lv_aload_n hx hb dX5_play_0 rfl (lv_at hl 0 rfl) ?_
  refine lv_iload_n hx hb dX5_play_1 rfl (lv_at hl 1 rfl) ?_
  have hS0 := hS
  have hFc := va_free (wc := [(h0, .inr (12, [.ref o0, .int 0, .ref g0, .ref o2, .ref o3, .ref o4, .ref o5, .int 0, .ref o6]))]) hD hS hA [0] rfl
  refine vx_callv (vx_runV (As := [.int p0]) (rest := []) ⟨hx, hb, hml, hown, hts⟩ (c_X5_needKind l hl0 κ D (s.heap).size (h0) (o0) (g0) (o2) (o3) (o4) (o5) (o6) (p0) ) (cwV 1 hts gd_c_X5_play_2 rfl rfl rfl (by decide +kernel) ⟨(Nat.le_of_ble_eq_true rfl), (Nat.le_of_ble_eq_true rfl)⟩) (preV hE hK hP hD hS hA [0] rfl (by decide) [] rfl (va_recv hK hP (ci := 12) (q0 := 0) rfl rfl)) rfl rfl hl.1 rfl (lv_room (Nat.le_of_ble_eq_true rfl)) dX5_play_2 ⟨(Nat.le_of_ble_eq_true rfl), (Nat.le_of_ble_eq_true rfl)⟩) hS (fun q _ h => hFc q h) hFc (fun q _ h => hFc q h) (fun E9 ce q9 u9 t H1 locs ht hvm _ hB hz1 hk1 hS hce hcv hcl => ?_) (fun _ _ _ _ _ _ hw => hw.elim)
  obtain ⟨rfl, hB⟩ := hB
  obtain ⟨hP, hD, hK⟩ := jn (wc := [(h0, .inr (12, [.ref o0, .int 0, .ref g0, .ref o2, .ref o3, .ref o4, .ref o5, .int 0, .ref o6]))]) (wr := []) (w1 := [(h0, .inr (12, [.ref o0, .int 0, .ref g0, .ref o2, .ref o3, .ref o4, .ref o5, .int 0, .ref o6]))]) (t1 := []) hP hD hK hS0 hA [0] [] rfl rfl (by decide) (by decide) ht hvm hk1 hB
  generalize H1 = H at hP hS hce ⊢
  have hP : va_P D vwCl ([(h0, .inr (12, [.ref o0, .int 0, .ref g0, .ref o2, .ref o3, .ref o4, .ref o5, .int 0, .ref o6]))]) H := hP
  have hD : va_D A ([(h0, .inr (12, [.ref o0, .int 0, .ref g0, .ref o2, .ref o3, .ref o4, .ref o5, .int 0, .ref o6]))]) := hD
  have hK : va_K D vwCl [] s := hK
  refine vx_widen (k := 1) (n := 6) (Nat.le_of_ble_eq_true rfl) (Nat.le_of_ble_eq_true rfl) ?_
  exact vx_out (fun x hx => (htab x hx).elim) hlocks hce hcv hcl (fun t ht hal => ⟨(), trivial, ⟨rfl, PB.at hP hK hD hal ht [0] rfl (by decide) [] rfl⟩, hS.F ht⟩) hS.2.2 (Nat.le_of_ble_eq_true rfl) (Nat.le_of_ble_eq_true rfl)

def wm_c_X5_explains : List Cond := .code yX5_explains cX5_explains 2 (some .int) :: ([.code yX5_needKind cX5_needKind 2 none, .classLink RX5 193 "java/lang/IndexOutOfBoundsException", .initialized "java/lang/IndexOutOfBoundsException", .fieldLink RX5 80 "Sowingcourt" "kindCount" "I", .methodLink RX5 97 yX5_needKind, .instanceMethod yX5_needKind, .selects RX5 yX5_needKind yX5_needKind, .initialized RX5] ++ (vx_atS RX5 197 "java/lang/IndexOutOfBoundsException" supX).filter goodWord ++ wsX50)
set_option maxRecDepth 20000 in
theorem gd_c_X5_explains_2 : GoodIn wm_c_X5_explains (wsV RX5 97 RX5 yX5_needKind wm_c_X5_needKind) := goodIn_of _ (by decide +kernel)
set_option maxHeartbeats 4000000 in
set_option maxRecDepth 100000 in
theorem c_X5_explains (l : Launch) (hl0 : l.stackTraces = false) (κ : Nat → Nat) (D : va_G) (sz : Nat) (h0 : Nat) (o0 : Nat) (g0 : Nat) (o2 : Nat) (o3 : Nat) (o4 : Nat) (o5 : Nat) (o6 : Nat) (p0 : Int32)  : vx_Met l yX5_explains wm_c_X5_explains ({ frames := 9, cells := 1, slots := 6, locals := 260 }) (va_Pc [.ref h0, .int p0] (PC κ D [] [(h0, .inr (12, [.ref o0, .int 0, .ref g0, .ref o2, .ref o3, .ref o4, .ref o5, .int 0, .ref o6]))] sz)) (va_Qi (fun (_ : Int32) (_ : Unit) => False) (fun _ _ => True) (va_A [(h0, .inr (12, [.ref o0, .int 0, .ref g0, .ref o2, .ref o3, .ref o4, .ref o5, .int 0, .ref o6]))] sz)) (XQ "java/lang/IndexOutOfBoundsException" D [] [(h0, .inr (12, [.ref o0, .int 0, .ref g0, .ref o2, .ref o3, .ref o4, .ref o5, .int 0, .ref o6]))] (va_A [(h0, .inr (12, [.ref o0, .int 0, .ref g0, .ref o2, .ref o3, .ref o4, .ref o5, .int 0, .ref o6]))] sz)) 1 6 (va_A [(h0, .inr (12, [.ref o0, .int 0, .ref g0, .ref o2, .ref o3, .ref o4, .ref o5, .int 0, .ref o6]))] sz) := by
  refine vx_ofW (cc := cX5_explains) (maxL := 2) (ret := (some .int)) (by decide +kernel) rfl ?_
  intro p e s m args below meth c s₁ B hml htab hv
  obtain ⟨rfl, hsz, hP, hK, hD0, hE⟩ := hv
  have hx := B.exec
  have hb := B.bytes
  have hr := B.returns
  have hts := atoms_spec (ws := wm_c_X5_explains) B.pre
  have hown : s.vm.findClass RX5 = some m.cls := findClass_of_methodNamed B.named
  have hlocks := B.notSynchronized
  have iRX5 : ∀ w ∈ u_ws RX5 TX5 9, w ∈ wm_c_X5_explains := by decide +kernel
  subst hsz
  have hD := hD0.self (sz := s.heap.size)
  generalize hAe : va_A [(h0, .inr (12, [.ref o0, .int 0, .ref g0, .ref o2, .ref o3, .ref o4, .ref o5, .int 0, .ref o6]))] s.heap.size = A at hD hE ⊢
  have hA : ∀ q : Nat, s.heap.size ≤ q → A q := fun q h => by rw [← hAe]; exact Or.inr h
  have hS : va_S A s.heap s.heap [] := va_S.rf
  have hl := lv_entry ([.ref h0, .int p0]) (n := 2) (Nat.le_of_ble_eq_true rfl)
  rw [lg_entry_eq]
  generalize (lg_sl ([.ref h0, .int p0]) ++ List.replicate (2 - (lg_sl ([.ref h0, .int p0])).length) Slot.unset).toArray = ls at hl ⊢
  have hl : lv_has ls 2 [(0, .ref h0), (1, .int p0)] := hl
  refine lv_aload_n hx hb dX5_explains_0 rfl (lv_at hl 0 rfl) ?_
  refine lv_iload_n hx hb dX5_explains_1 rfl (lv_at hl 1 rfl) ?_
  have hS0 := hS
  have hFc := va_free (wc := [(h0, .inr (12, [.ref o0, .int 0, .ref g0, .ref o2, .ref o3, .ref o4, .ref o5, .int 0, .ref o6]))]) hD hS hA [0] rfl
  refine vx_callv (vx_runV (As := [.int p0]) (rest := []) ⟨hx, hb, hml, hown, hts⟩ (c_X5_needKind l hl0 κ D (s.heap).size (h0) (o0) (g0) (o2) (o3) (o4) (o5) (o6) (p0) ) (cwV 1 hts gd_c_X5_explains_2 rfl rfl rfl (by decide +kernel) ⟨(Nat.le_of_ble_eq_true rfl), (Nat.le_of_ble_eq_true rfl)⟩) (preV hE hK hP hD hS hA [0] rfl (by decide) [] rfl (va_recv hK hP (ci := 12) (q0 := 0) rfl rfl)) rfl rfl hl.1 rfl (lv_room (Nat.le_of_ble_eq_true rfl)) dX5_explains_2 ⟨(Nat.le_of_ble_eq_true rfl), (Nat.le_of_ble_eq_true rfl)⟩) hS (fun q _ h => hFc q h) hFc (fun q _ h => hFc q h) (fun E9 ce q9 u9 t H1 locs ht hvm _ hB hz1 hk1 hS hce hcv hcl => ?_) (fun _ _ _ _ _ _ hw => hw.elim)
  obtain ⟨rfl, hB⟩ := hB
  obtain ⟨hP, hD, hK⟩ := jn (wc := [(h0, .inr (12, [.ref o0, .int 0, .ref g0, .ref o2, .ref o3, .ref o4, .ref o5, .int 0, .ref o6]))]) (wr := []) (w1 := [(h0, .inr (12, [.ref o0, .int 0, .ref g0, .ref o2, .ref o3, .ref o4, .ref o5, .int 0, .ref o6]))]) (t1 := []) hP hD hK hS0 hA [0] [] rfl rfl (by decide) (by decide) ht hvm hk1 hB
  generalize H1 = H at hP hS hce ⊢
  have hP : va_P D vwCl ([(h0, .inr (12, [.ref o0, .int 0, .ref g0, .ref o2, .ref o3, .ref o4, .ref o5, .int 0, .ref o6]))]) H := hP
  have hD : va_D A ([(h0, .inr (12, [.ref o0, .int 0, .ref g0, .ref o2, .ref o3, .ref o4, .ref o5, .int 0, .ref o6]))]) := hD
  have hK : va_K D vwCl [] s := hK
  refine vx_widen (k := 1) (n := 6) (Nat.le_of_ble_eq_true rfl) (Nat.le_of_ble_eq_true rfl) ?_
  exact vx_out (fun x hx => (htab x hx).elim) hlocks hce hcv hcl (fun t ht hal => ⟨(), trivial, ⟨rfl, PB.at hP hK hD hal ht [0] rfl (by decide) [] rfl⟩, hS.F ht⟩) hS.2.2 (Nat.le_of_ble_eq_true rfl) (Nat.le_of_ble_eq_true rfl)

def wm_c_X5_give : List Cond := .code yX5_give cX5_give 3 (some .int) :: ([.code yX5_needGameOn cX5_needGameOn 1 none, .fieldLink RX5 19 "Sowingcourt" "game" "LSowingcourt$Game;", .fieldLink RX5 179 "Sowingcourt$Game" "begun" "Z", .classLink RX5 162 "java/lang/IllegalStateException", .initialized "java/lang/IllegalStateException", .methodLink RX5 138 yX5_needGameOn, .instanceMethod yX5_needGameOn, .selects RX5 yX5_needGameOn yX5_needGameOn, .initialized RX5] ++ wsX50 ++ wsX10 ++ (vx_atS RX5 166 "java/lang/IllegalStateException" supX).filter goodWord)
set_option maxRecDepth 20000 in
theorem gd_c_X5_give_1 : GoodIn wm_c_X5_give (wsV RX5 138 RX5 yX5_needGameOn wm_c_X5_needGameOn) := goodIn_of _ (by decide +kernel)
set_option maxHeartbeats 4000000 in
set_option maxRecDepth 100000 in
theorem c_X5_give (l : Launch) (hl0 : l.stackTraces = false) (κ : Nat → Nat) (D : va_G) (sz : Nat) (h0 : Nat) (o0 : Nat) (g0 : Nat) (o2 : Nat) (o3 : Nat) (o4 : Nat) (o5 : Nat) (o6 : Nat) (g1 : Nat) (g2 : Nat) (g3 : Nat) (g4 : Nat) (g5 : Nat) (g6 : Nat) (p0 : Int32) (p1 : Int32)  : vx_Met l yX5_give wm_c_X5_give ({ frames := 9, cells := 1, slots := 6, locals := 260 }) (va_Pc [.ref h0, .int p0, .int p1] (PC κ D [] [(h0, .inr (12, [.ref o0, .int 0, .ref g0, .ref o2, .ref o3, .ref o4, .ref o5, .int 0, .ref o6])), (g0, .inr (8, [.ref g1, .ref g2, .ref g3, .ref g4, .ref g5, .ref g6, .int 0, .int 0, .int 0, .int 0]))] sz)) (va_Qi (fun (_ : Int32) (_ : Unit) => False) (fun _ _ => True) (va_A [(h0, .inr (12, [.ref o0, .int 0, .ref g0, .ref o2, .ref o3, .ref o4, .ref o5, .int 0, .ref o6])), (g0, .inr (8, [.ref g1, .ref g2, .ref g3, .ref g4, .ref g5, .ref g6, .int 0, .int 0, .int 0, .int 0]))] sz)) (XQ "java/lang/IllegalStateException" D [] [(h0, .inr (12, [.ref o0, .int 0, .ref g0, .ref o2, .ref o3, .ref o4, .ref o5, .int 0, .ref o6])), (g0, .inr (8, [.ref g1, .ref g2, .ref g3, .ref g4, .ref g5, .ref g6, .int 0, .int 0, .int 0, .int 0]))] (va_A [(h0, .inr (12, [.ref o0, .int 0, .ref g0, .ref o2, .ref o3, .ref o4, .ref o5, .int 0, .ref o6])), (g0, .inr (8, [.ref g1, .ref g2, .ref g3, .ref g4, .ref g5, .ref g6, .int 0, .int 0, .int 0, .int 0]))] sz)) 1 6 (va_A [(h0, .inr (12, [.ref o0, .int 0, .ref g0, .ref o2, .ref o3, .ref o4, .ref o5, .int 0, .ref o6])), (g0, .inr (8, [.ref g1, .ref g2, .ref g3, .ref g4, .ref g5, .ref g6, .int 0, .int 0, .int 0, .int 0]))] sz) := by
  refine vx_ofW (cc := cX5_give) (maxL := 3) (ret := (some .int)) (by decide +kernel) rfl ?_
  intro p e s m args below meth c s₁ B hml htab hv
  obtain ⟨rfl, hsz, hP, hK, hD0, hE⟩ := hv
  have hx := B.exec
  have hb := B.bytes
  have hr := B.returns
  have hts := atoms_spec (ws := wm_c_X5_give) B.pre
  have hown : s.vm.findClass RX5 = some m.cls := findClass_of_methodNamed B.named
  have hlocks := B.notSynchronized
  have iRX5 : ∀ w ∈ u_ws RX5 TX5 9, w ∈ wm_c_X5_give := by decide +kernel
  have iRX1 : ∀ w ∈ u_ws RX1 TX1 10, w ∈ wm_c_X5_give := by decide +kernel
  subst hsz
  have hD := hD0.self (sz := s.heap.size)
  generalize hAe : va_A [(h0, .inr (12, [.ref o0, .int 0, .ref g0, .ref o2, .ref o3, .ref o4, .ref o5, .int 0, .ref o6])), (g0, .inr (8, [.ref g1, .ref g2, .ref g3, .ref g4, .ref g5, .ref g6, .int 0, .int 0, .int 0, .int 0]))] s.heap.size = A at hD hE ⊢
  have hA : ∀ q : Nat, s.heap.size ≤ q → A q := fun q h => by rw [← hAe]; exact Or.inr h
  have hS : va_S A s.heap s.heap [] := va_S.rf
  have hl := lv_entry ([.ref h0, .int p0, .int p1]) (n := 3) (Nat.le_of_ble_eq_true rfl)
  rw [lg_entry_eq]
  generalize (lg_sl ([.ref h0, .int p0, .int p1]) ++ List.replicate (3 - (lg_sl ([.ref h0, .int p0, .int p1])).length) Slot.unset).toArray = ls at hl ⊢
  have hl : lv_has ls 3 [(0, .ref h0), (1, .int p0), (2, .int p1)] := hl
  refine lv_aload_n hx hb dX5_give_0 rfl (lv_at hl 0 rfl) ?_
  have hS0 := hS
  have hFc := va_free (wc := [(h0, .inr (12, [.ref o0, .int 0, .ref g0, .ref o2, .ref o3, .ref o4, .ref o5, .int 0, .ref o6])), (g0, .inr (8, [.ref g1, .ref g2, .ref g3, .ref g4, .ref g5, .ref g6, .int 0, .int 0, .int 0, .int 0]))]) hD hS hA [0, 1] rfl
  refine vx_callv (vx_runV (As := []) (rest := []) ⟨hx, hb, hml, hown, hts⟩ (c_X5_needGameOn l hl0 κ D (s.heap).size (h0) (o0) (g0) (o2) (o3) (o4) (o5) (o6) (g1) (g2) (g3) (g4) (g5) (g6) ) (cwV 0 hts gd_c_X5_give_1 rfl rfl rfl (by decide +kernel) ⟨(Nat.le_of_ble_eq_true rfl), (Nat.le_of_ble_eq_true rfl)⟩) (preV hE hK hP hD hS hA [0, 1] rfl (by decide) [] rfl (va_recv hK hP (ci := 12) (q0 := 0) rfl rfl)) rfl rfl hl.1 rfl (lv_room (Nat.le_of_ble_eq_true rfl)) dX5_give_1 ⟨(Nat.le_of_ble_eq_true rfl), (Nat.le_of_ble_eq_true rfl)⟩) hS (fun q _ h => hFc q h) hFc (fun q _ h => hFc q h) (fun E9 ce q9 u9 t H1 locs ht hvm _ hB hz1 hk1 hS hce hcv hcl => ?_) (fun _ _ _ _ _ _ hw => hw.elim)
  obtain ⟨rfl, hB⟩ := hB
  obtain ⟨hP, hD, hK⟩ := jn (wc := [(h0, .inr (12, [.ref o0, .int 0, .ref g0, .ref o2, .ref o3, .ref o4, .ref o5, .int 0, .ref o6])), (g0, .inr (8, [.ref g1, .ref g2, .ref g3, .ref g4, .ref g5, .ref g6, .int 0, .int 0, .int 0, .int 0]))]) (wr := []) (w1 := [(h0, .inr (12, [.ref o0, .int 0, .ref g0, .ref o2, .ref o3, .ref o4, .ref o5, .int 0, .ref o6])), (g0, .inr (8, [.ref g1, .ref g2, .ref g3, .ref g4, .ref g5, .ref g6, .int 0, .int 0, .int 0, .int 0]))]) (t1 := []) hP hD hK hS0 hA [0, 1] [] rfl rfl (by decide) (by decide) ht hvm hk1 hB
  generalize H1 = H at hP hS hce ⊢
  have hP : va_P D vwCl ([(h0, .inr (12, [.ref o0, .int 0, .ref g0, .ref o2, .ref o3, .ref o4, .ref o5, .int 0, .ref o6])), (g0, .inr (8, [.ref g1, .ref g2, .ref g3, .ref g4, .ref g5, .ref g6, .int 0, .int 0, .int 0, .int 0]))]) H := hP
  have hD : va_D A ([(h0, .inr (12, [.ref o0, .int 0, .ref g0, .ref o2, .ref o3, .ref o4, .ref o5, .int 0, .ref o6])), (g0, .inr (8, [.ref g1, .ref g2, .ref g3, .ref g4, .ref g5, .ref g6, .int 0, .int 0, .int 0, .int 0]))]) := hD
  have hK : va_K D vwCl [] s := hK
  refine vx_widen (k := 1) (n := 6) (Nat.le_of_ble_eq_true rfl) (Nat.le_of_ble_eq_true rfl) ?_
  exact vx_out (fun x hx => (htab x hx).elim) hlocks hce hcv hcl (fun t ht hal => ⟨(), trivial, ⟨rfl, PB.at hP hK hD hal ht [0, 1] rfl (by decide) [] rfl⟩, hS.F ht⟩) hS.2.2 (Nat.le_of_ble_eq_true rfl) (Nat.le_of_ble_eq_true rfl)

def wm_c_X5_move : List Cond := .code yX5_move cX5_move 3 (some .int) :: ([.code yX5_needGameOn cX5_needGameOn 1 none, .fieldLink RX5 19 "Sowingcourt" "game" "LSowingcourt$Game;", .fieldLink RX5 179 "Sowingcourt$Game" "begun" "Z", .classLink RX5 162 "java/lang/IllegalStateException", .initialized "java/lang/IllegalStateException", .methodLink RX5 138 yX5_needGameOn, .instanceMethod yX5_needGameOn, .selects RX5 yX5_needGameOn yX5_needGameOn, .initialized RX5] ++ wsX50 ++ wsX10 ++ (vx_atS RX5 166 "java/lang/IllegalStateException" supX).filter goodWord)
set_option maxRecDepth 20000 in
theorem gd_c_X5_move_1 : GoodIn wm_c_X5_move (wsV RX5 138 RX5 yX5_needGameOn wm_c_X5_needGameOn) := goodIn_of _ (by decide +kernel)
set_option maxHeartbeats 4000000 in
set_option maxRecDepth 100000 in
theorem c_X5_move (l : Launch) (hl0 : l.stackTraces = false) (κ : Nat → Nat) (D : va_G) (sz : Nat) (h0 : Nat) (o0 : Nat) (g0 : Nat) (o2 : Nat) (o3 : Nat) (o4 : Nat) (o5 : Nat) (o6 : Nat) (g1 : Nat) (g2 : Nat) (g3 : Nat) (g4 : Nat) (g5 : Nat) (g6 : Nat) (p0 : Int32)  : vx_Met l yX5_move wm_c_X5_move ({ frames := 9, cells := 1, slots := 6, locals := 260 }) (va_Pc [.ref h0, .int p0] (PC κ D [] [(h0, .inr (12, [.ref o0, .int 0, .ref g0, .ref o2, .ref o3, .ref o4, .ref o5, .int 0, .ref o6])), (g0, .inr (8, [.ref g1, .ref g2, .ref g3, .ref g4, .ref g5, .ref g6, .int 0, .int 0, .int 0, .int 0]))] sz)) (va_Qi (fun (_ : Int32) (_ : Unit) => False) (fun _ _ => True) (va_A [(h0, .inr (12, [.ref o0, .int 0, .ref g0, .ref o2, .ref o3, .ref o4, .ref o5, .int 0, .ref o6])), (g0, .inr (8, [.ref g1, .ref g2, .ref g3, .ref g4, .ref g5, .ref g6, .int 0, .int 0, .int 0, .int 0]))] sz)) (XQ "java/lang/IllegalStateException" D [] [(h0, .inr (12, [.ref o0, .int 0, .ref g0, .ref o2, .ref o3, .ref o4, .ref o5, .int 0, .ref o6])), (g0, .inr (8, [.ref g1, .ref g2, .ref g3, .ref g4, .ref g5, .ref g6, .int 0, .int 0, .int 0, .int 0]))] (va_A [(h0, .inr (12, [.ref o0, .int 0, .ref g0, .ref o2, .ref o3, .ref o4, .ref o5, .int 0, .ref o6])), (g0, .inr (8, [.ref g1, .ref g2, .ref g3, .ref g4, .ref g5, .ref g6, .int 0, .int 0, .int 0, .int 0]))] sz)) 1 6 (va_A [(h0, .inr (12, [.ref o0, .int 0, .ref g0, .ref o2, .ref o3, .ref o4, .ref o5, .int 0, .ref o6])), (g0, .inr (8, [.ref g1, .ref g2, .ref g3, .ref g4, .ref g5, .ref g6, .int 0, .int 0, .int 0, .int 0]))] sz) := by
  refine vx_ofW (cc := cX5_move) (maxL := 3) (ret := (some .int)) (by decide +kernel) rfl ?_
  intro p e s m args below meth c s₁ B hml htab hv
  obtain ⟨rfl, hsz, hP, hK, hD0, hE⟩ := hv
  have hx := B.exec
  have hb := B.bytes
  have hr := B.returns
  have hts := atoms_spec (ws := wm_c_X5_move) B.pre
  have hown : s.vm.findClass RX5 = some m.cls := findClass_of_methodNamed B.named
  have hlocks := B.notSynchronized
  have iRX5 : ∀ w ∈ u_ws RX5 TX5 9, w ∈ wm_c_X5_move := by decide +kernel
  have iRX1 : ∀ w ∈ u_ws RX1 TX1 10, w ∈ wm_c_X5_move := by decide +kernel
  subst hsz
  have hD := hD0.self (sz := s.heap.size)
  generalize hAe : va_A [(h0, .inr (12, [.ref o0, .int 0, .ref g0, .ref o2, .ref o3, .ref o4, .ref o5, .int 0, .ref o6])), (g0, .inr (8, [.ref g1, .ref g2, .ref g3, .ref g4, .ref g5, .ref g6, .int 0, .int 0, .int 0, .int 0]))] s.heap.size = A at hD hE ⊢
  have hA : ∀ q : Nat, s.heap.size ≤ q → A q := fun q h => by rw [← hAe]; exact Or.inr h
  have hS : va_S A s.heap s.heap [] := va_S.rf
  have hl := lv_entry ([.ref h0, .int p0]) (n := 3) (Nat.le_of_ble_eq_true rfl)
  rw [lg_entry_eq]
  generalize (lg_sl ([.ref h0, .int p0]) ++ List.replicate (3 - (lg_sl ([.ref h0, .int p0])).length) Slot.unset).toArray = ls at hl ⊢
  have hl : lv_has ls 3 [(0, .ref h0), (1, .int p0)] := hl
  refine lv_aload_n hx hb dX5_move_0 rfl (lv_at hl 0 rfl) ?_
  have hS0 := hS
  have hFc := va_free (wc := [(h0, .inr (12, [.ref o0, .int 0, .ref g0, .ref o2, .ref o3, .ref o4, .ref o5, .int 0, .ref o6])), (g0, .inr (8, [.ref g1, .ref g2, .ref g3, .ref g4, .ref g5, .ref g6, .int 0, .int 0, .int 0, .int 0]))]) hD hS hA [0, 1] rfl
  refine vx_callv (vx_runV (As := []) (rest := []) ⟨hx, hb, hml, hown, hts⟩ (c_X5_needGameOn l hl0 κ D (s.heap).size (h0) (o0) (g0) (o2) (o3) (o4) (o5) (o6) (g1) (g2) (g3) (g4) (g5) (g6) ) (cwV 0 hts gd_c_X5_move_1 rfl rfl rfl (by decide +kernel) ⟨(Nat.le_of_ble_eq_true rfl), (Nat.le_of_ble_eq_true rfl)⟩) (preV hE hK hP hD hS hA [0, 1] rfl (by decide) [] rfl (va_recv hK hP (ci := 12) (q0 := 0) rfl rfl)) rfl rfl hl.1 rfl (lv_room (Nat.le_of_ble_eq_true rfl)) dX5_move_1 ⟨(Nat.le_of_ble_eq_true rfl), (Nat.le_of_ble_eq_true rfl)⟩) hS (fun q _ h => hFc q h) hFc (fun q _ h => hFc q h) (fun E9 ce q9 u9 t H1 locs ht hvm _ hB hz1 hk1 hS hce hcv hcl => ?_) (fun _ _ _ _ _ _ hw => hw.elim)
  obtain ⟨rfl, hB⟩ := hB
  obtain ⟨hP, hD, hK⟩ := jn (wc := [(h0, .inr (12, [.ref o0, .int 0, .ref g0, .ref o2, .ref o3, .ref o4, .ref o5, .int 0, .ref o6])), (g0, .inr (8, [.ref g1, .ref g2, .ref g3, .ref g4, .ref g5, .ref g6, .int 0, .int 0, .int 0, .int 0]))]) (wr := []) (w1 := [(h0, .inr (12, [.ref o0, .int 0, .ref g0, .ref o2, .ref o3, .ref o4, .ref o5, .int 0, .ref o6])), (g0, .inr (8, [.ref g1, .ref g2, .ref g3, .ref g4, .ref g5, .ref g6, .int 0, .int 0, .int 0, .int 0]))]) (t1 := []) hP hD hK hS0 hA [0, 1] [] rfl rfl (by decide) (by decide) ht hvm hk1 hB
  generalize H1 = H at hP hS hce ⊢
  have hP : va_P D vwCl ([(h0, .inr (12, [.ref o0, .int 0, .ref g0, .ref o2, .ref o3, .ref o4, .ref o5, .int 0, .ref o6])), (g0, .inr (8, [.ref g1, .ref g2, .ref g3, .ref g4, .ref g5, .ref g6, .int 0, .int 0, .int 0, .int 0]))]) H := hP
  have hD : va_D A ([(h0, .inr (12, [.ref o0, .int 0, .ref g0, .ref o2, .ref o3, .ref o4, .ref o5, .int 0, .ref o6])), (g0, .inr (8, [.ref g1, .ref g2, .ref g3, .ref g4, .ref g5, .ref g6, .int 0, .int 0, .int 0, .int 0]))]) := hD
  have hK : va_K D vwCl [] s := hK
  refine vx_widen (k := 1) (n := 6) (Nat.le_of_ble_eq_true rfl) (Nat.le_of_ble_eq_true rfl) ?_
  exact vx_out (fun x hx => (htab x hx).elim) hlocks hce hcv hcl (fun t ht hal => ⟨(), trivial, ⟨rfl, PB.at hP hK hD hal ht [0, 1] rfl (by decide) [] rfl⟩, hS.F ht⟩) hS.2.2 (Nat.le_of_ble_eq_true rfl) (Nat.le_of_ble_eq_true rfl)

def wm_c_X5_barred : List Cond := .code yX5_barred cX5_barred 2 (some .char) :: ([.code yX5_needGameOn cX5_needGameOn 1 none, .fieldLink RX5 19 "Sowingcourt" "game" "LSowingcourt$Game;", .fieldLink RX5 179 "Sowingcourt$Game" "begun" "Z", .classLink RX5 162 "java/lang/IllegalStateException", .initialized "java/lang/IllegalStateException", .methodLink RX5 138 yX5_needGameOn, .instanceMethod yX5_needGameOn, .selects RX5 yX5_needGameOn yX5_needGameOn, .initialized RX5] ++ wsX50 ++ wsX10 ++ (vx_atS RX5 166 "java/lang/IllegalStateException" supX).filter goodWord)
set_option maxRecDepth 20000 in
theorem gd_c_X5_barred_1 : GoodIn wm_c_X5_barred (wsV RX5 138 RX5 yX5_needGameOn wm_c_X5_needGameOn) := goodIn_of _ (by decide +kernel)
set_option maxHeartbeats 4000000 in
set_option maxRecDepth 100000 in
theorem c_X5_barred (l : Launch) (hl0 : l.stackTraces = false) (κ : Nat → Nat) (D : va_G) (sz : Nat) (h0 : Nat) (o0 : Nat) (g0 : Nat) (o2 : Nat) (o3 : Nat) (o4 : Nat) (o5 : Nat) (o6 : Nat) (g1 : Nat) (g2 : Nat) (g3 : Nat) (g4 : Nat) (g5 : Nat) (g6 : Nat) (p0 : Int32)  : vx_Met l yX5_barred wm_c_X5_barred ({ frames := 9, cells := 1, slots := 6, locals := 260 }) (va_Pc [.ref h0, .int p0] (PC κ D [] [(h0, .inr (12, [.ref o0, .int 0, .ref g0, .ref o2, .ref o3, .ref o4, .ref o5, .int 0, .ref o6])), (g0, .inr (8, [.ref g1, .ref g2, .ref g3, .ref g4, .ref g5, .ref g6, .int 0, .int 0, .int 0, .int 0]))] sz)) (va_Qi (fun (_ : Int32) (_ : Unit) => False) (fun _ _ => True) (va_A [(h0, .inr (12, [.ref o0, .int 0, .ref g0, .ref o2, .ref o3, .ref o4, .ref o5, .int 0, .ref o6])), (g0, .inr (8, [.ref g1, .ref g2, .ref g3, .ref g4, .ref g5, .ref g6, .int 0, .int 0, .int 0, .int 0]))] sz)) (XQ "java/lang/IllegalStateException" D [] [(h0, .inr (12, [.ref o0, .int 0, .ref g0, .ref o2, .ref o3, .ref o4, .ref o5, .int 0, .ref o6])), (g0, .inr (8, [.ref g1, .ref g2, .ref g3, .ref g4, .ref g5, .ref g6, .int 0, .int 0, .int 0, .int 0]))] (va_A [(h0, .inr (12, [.ref o0, .int 0, .ref g0, .ref o2, .ref o3, .ref o4, .ref o5, .int 0, .ref o6])), (g0, .inr (8, [.ref g1, .ref g2, .ref g3, .ref g4, .ref g5, .ref g6, .int 0, .int 0, .int 0, .int 0]))] sz)) 1 6 (va_A [(h0, .inr (12, [.ref o0, .int 0, .ref g0, .ref o2, .ref o3, .ref o4, .ref o5, .int 0, .ref o6])), (g0, .inr (8, [.ref g1, .ref g2, .ref g3, .ref g4, .ref g5, .ref g6, .int 0, .int 0, .int 0, .int 0]))] sz) := by
  refine vx_ofW (cc := cX5_barred) (maxL := 2) (ret := (some .char)) (by decide +kernel) rfl ?_
  intro p e s m args below meth c s₁ B hml htab hv
  obtain ⟨rfl, hsz, hP, hK, hD0, hE⟩ := hv
  have hx := B.exec
  have hb := B.bytes
  have hr := B.returns
  have hts := atoms_spec (ws := wm_c_X5_barred) B.pre
  have hown : s.vm.findClass RX5 = some m.cls := findClass_of_methodNamed B.named
  have hlocks := B.notSynchronized
  have iRX5 : ∀ w ∈ u_ws RX5 TX5 9, w ∈ wm_c_X5_barred := by decide +kernel
  have iRX1 : ∀ w ∈ u_ws RX1 TX1 10, w ∈ wm_c_X5_barred := by decide +kernel
  subst hsz
  have hD := hD0.self (sz := s.heap.size)
  generalize hAe : va_A [(h0, .inr (12, [.ref o0, .int 0, .ref g0, .ref o2, .ref o3, .ref o4, .ref o5, .int 0, .ref o6])), (g0, .inr (8, [.ref g1, .ref g2, .ref g3, .ref g4, .ref g5, .ref g6, .int 0, .int 0, .int 0, .int 0]))] s.heap.size = A at hD hE ⊢
  have hA : ∀ q : Nat, s.heap.size ≤ q → A q := fun q h => by rw [← hAe]; exact Or.inr h
  have hS : va_S A s.heap s.heap [] := va_S.rf
  have hl := lv_entry ([.ref h0, .int p0]) (n := 2) (Nat.le_of_ble_eq_true rfl)
  rw [lg_entry_eq]
  generalize (lg_sl ([.ref h0, .int p0]) ++ List.replicate (2 - (lg_sl ([.ref h0, .int p0])).length) Slot.unset).toArray = ls at hl ⊢
  have hl : lv_has ls 2 [(0, .ref h0), (1, .int p0)] := hl
  refine lv_aload_n hx hb dX5_barred_0 rfl (lv_at hl 0 rfl) ?_
  have hS0 := hS
  have hFc := va_free (wc := [(h0, .inr (12, [.ref o0, .int 0, .ref g0, .ref o2, .ref o3, .ref o4, .ref o5, .int 0, .ref o6])), (g0, .inr (8, [.ref g1, .ref g2, .ref g3, .ref g4, .ref g5, .ref g6, .int 0, .int 0, .int 0, .int 0]))]) hD hS hA [0, 1] rfl
  refine vx_callv (vx_runV (As := []) (rest := []) ⟨hx, hb, hml, hown, hts⟩ (c_X5_needGameOn l hl0 κ D (s.heap).size (h0) (o0) (g0) (o2) (o3) (o4) (o5) (o6) (g1) (g2) (g3) (g4) (g5) (g6) ) (cwV 0 hts gd_c_X5_barred_1 rfl rfl rfl (by decide +kernel) ⟨(Nat.le_of_ble_eq_true rfl), (Nat.le_of_ble_eq_true rfl)⟩) (preV hE hK hP hD hS hA [0, 1] rfl (by decide) [] rfl (va_recv hK hP (ci := 12) (q0 := 0) rfl rfl)) rfl rfl hl.1 rfl (lv_room (Nat.le_of_ble_eq_true rfl)) dX5_barred_1 ⟨(Nat.le_of_ble_eq_true rfl), (Nat.le_of_ble_eq_true rfl)⟩) hS (fun q _ h => hFc q h) hFc (fun q _ h => hFc q h) (fun E9 ce q9 u9 t H1 locs ht hvm _ hB hz1 hk1 hS hce hcv hcl => ?_) (fun _ _ _ _ _ _ hw => hw.elim)
  obtain ⟨rfl, hB⟩ := hB
  obtain ⟨hP, hD, hK⟩ := jn (wc := [(h0, .inr (12, [.ref o0, .int 0, .ref g0, .ref o2, .ref o3, .ref o4, .ref o5, .int 0, .ref o6])), (g0, .inr (8, [.ref g1, .ref g2, .ref g3, .ref g4, .ref g5, .ref g6, .int 0, .int 0, .int 0, .int 0]))]) (wr := []) (w1 := [(h0, .inr (12, [.ref o0, .int 0, .ref g0, .ref o2, .ref o3, .ref o4, .ref o5, .int 0, .ref o6])), (g0, .inr (8, [.ref g1, .ref g2, .ref g3, .ref g4, .ref g5, .ref g6, .int 0, .int 0, .int 0, .int 0]))]) (t1 := []) hP hD hK hS0 hA [0, 1] [] rfl rfl (by decide) (by decide) ht hvm hk1 hB
  generalize H1 = H at hP hS hce ⊢
  have hP : va_P D vwCl ([(h0, .inr (12, [.ref o0, .int 0, .ref g0, .ref o2, .ref o3, .ref o4, .ref o5, .int 0, .ref o6])), (g0, .inr (8, [.ref g1, .ref g2, .ref g3, .ref g4, .ref g5, .ref g6, .int 0, .int 0, .int 0, .int 0]))]) H := hP
  have hD : va_D A ([(h0, .inr (12, [.ref o0, .int 0, .ref g0, .ref o2, .ref o3, .ref o4, .ref o5, .int 0, .ref o6])), (g0, .inr (8, [.ref g1, .ref g2, .ref g3, .ref g4, .ref g5, .ref g6, .int 0, .int 0, .int 0, .int 0]))]) := hD
  have hK : va_K D vwCl [] s := hK
  refine vx_widen (k := 1) (n := 6) (Nat.le_of_ble_eq_true rfl) (Nat.le_of_ble_eq_true rfl) ?_
  exact vx_out (fun x hx => (htab x hx).elim) hlocks hce hcv hcl (fun t ht hal => ⟨(), trivial, ⟨rfl, PB.at hP hK hD hal ht [0, 1] rfl (by decide) [] rfl⟩, hS.F ht⟩) hS.2.2 (Nat.le_of_ble_eq_true rfl) (Nat.le_of_ble_eq_true rfl)

def wm_c_X5_moves : List Cond := .code yX5_moves cX5_moves 3 (some .int) :: ([.code yX5_needGameOn cX5_needGameOn 1 none, .fieldLink RX5 19 "Sowingcourt" "game" "LSowingcourt$Game;", .fieldLink RX5 179 "Sowingcourt$Game" "begun" "Z", .classLink RX5 162 "java/lang/IllegalStateException", .initialized "java/lang/IllegalStateException", .methodLink RX5 138 yX5_needGameOn, .instanceMethod yX5_needGameOn, .selects RX5 yX5_needGameOn yX5_needGameOn, .initialized RX5] ++ wsX50 ++ wsX10 ++ (vx_atS RX5 166 "java/lang/IllegalStateException" supX).filter goodWord)
set_option maxRecDepth 20000 in
theorem gd_c_X5_moves_1 : GoodIn wm_c_X5_moves (wsV RX5 138 RX5 yX5_needGameOn wm_c_X5_needGameOn) := goodIn_of _ (by decide +kernel)
set_option maxHeartbeats 4000000 in
set_option maxRecDepth 100000 in
theorem c_X5_moves (l : Launch) (hl0 : l.stackTraces = false) (κ : Nat → Nat) (D : va_G) (sz : Nat) (h0 : Nat) (o0 : Nat) (g0 : Nat) (o2 : Nat) (o3 : Nat) (o4 : Nat) (o5 : Nat) (o6 : Nat) (g1 : Nat) (g2 : Nat) (g3 : Nat) (g4 : Nat) (g5 : Nat) (g6 : Nat)  : vx_Met l yX5_moves wm_c_X5_moves ({ frames := 9, cells := 1, slots := 6, locals := 260 }) (va_Pc [.ref h0] (PC κ D [] [(h0, .inr (12, [.ref o0, .int 0, .ref g0, .ref o2, .ref o3, .ref o4, .ref o5, .int 0, .ref o6])), (g0, .inr (8, [.ref g1, .ref g2, .ref g3, .ref g4, .ref g5, .ref g6, .int 0, .int 0, .int 0, .int 0]))] sz)) (va_Qi (fun (_ : Int32) (_ : Unit) => False) (fun _ _ => True) (va_A [(h0, .inr (12, [.ref o0, .int 0, .ref g0, .ref o2, .ref o3, .ref o4, .ref o5, .int 0, .ref o6])), (g0, .inr (8, [.ref g1, .ref g2, .ref g3, .ref g4, .ref g5, .ref g6, .int 0, .int 0, .int 0, .int 0]))] sz)) (XQ "java/lang/IllegalStateException" D [] [(h0, .inr (12, [.ref o0, .int 0, .ref g0, .ref o2, .ref o3, .ref o4, .ref o5, .int 0, .ref o6])), (g0, .inr (8, [.ref g1, .ref g2, .ref g3, .ref g4, .ref g5, .ref g6, .int 0, .int 0, .int 0, .int 0]))] (va_A [(h0, .inr (12, [.ref o0, .int 0, .ref g0, .ref o2, .ref o3, .ref o4, .ref o5, .int 0, .ref o6])), (g0, .inr (8, [.ref g1, .ref g2, .ref g3, .ref g4, .ref g5, .ref g6, .int 0, .int 0, .int 0, .int 0]))] sz)) 1 6 (va_A [(h0, .inr (12, [.ref o0, .int 0, .ref g0, .ref o2, .ref o3, .ref o4, .ref o5, .int 0, .ref o6])), (g0, .inr (8, [.ref g1, .ref g2, .ref g3, .ref g4, .ref g5, .ref g6, .int 0, .int 0, .int 0, .int 0]))] sz) := by
  refine vx_ofW (cc := cX5_moves) (maxL := 3) (ret := (some .int)) (by decide +kernel) rfl ?_
  intro p e s m args below meth c s₁ B hml htab hv
  obtain ⟨rfl, hsz, hP, hK, hD0, hE⟩ := hv
  have hx := B.exec
  have hb := B.bytes
  have hr := B.returns
  have hts := atoms_spec (ws := wm_c_X5_moves) B.pre
  have hown : s.vm.findClass RX5 = some m.cls := findClass_of_methodNamed B.named
  have hlocks := B.notSynchronized
  have iRX5 : ∀ w ∈ u_ws RX5 TX5 9, w ∈ wm_c_X5_moves := by decide +kernel
  have iRX1 : ∀ w ∈ u_ws RX1 TX1 10, w ∈ wm_c_X5_moves := by decide +kernel
  subst hsz
  have hD := hD0.self (sz := s.heap.size)
  generalize hAe : va_A [(h0, .inr (12, [.ref o0, .int 0, .ref g0, .ref o2, .ref o3, .ref o4, .ref o5, .int 0, .ref o6])), (g0, .inr (8, [.ref g1, .ref g2, .ref g3, .ref g4, .ref g5, .ref g6, .int 0, .int 0, .int 0, .int 0]))] s.heap.size = A at hD hE ⊢
  have hA : ∀ q : Nat, s.heap.size ≤ q → A q := fun q h => by rw [← hAe]; exact Or.inr h
  have hS : va_S A s.heap s.heap [] := va_S.rf
  have hl := lv_entry ([.ref h0]) (n := 3) (Nat.le_of_ble_eq_true rfl)
  rw [lg_entry_eq]
  generalize (lg_sl ([.ref h0]) ++ List.replicate (3 - (lg_sl ([.ref h0])).length) Slot.unset).toArray = ls at hl ⊢
  have hl : lv_has ls 3 [(0, .ref h0)] := hl
  refine lv_aload_n hx hb dX5_moves_0 rfl (lv_at hl 0 rfl) ?_
  have hS0 := hS
  have hFc := va_free (wc := [(h0, .inr (12, [.ref o0, .int 0, .ref g0, .ref o2, .ref o3, .ref o4, .ref o5, .int 0, .ref o6])), (g0, .inr (8, [.ref g1, .ref g2, .ref g3, .ref g4, .ref g5, .ref g6, .int 0, .int 0, .int 0, .int 0]))]) hD hS hA [0, 1] rfl
  refine vx_callv (vx_runV (As := []) (rest := []) ⟨hx, hb, hml, hown, hts⟩ (c_X5_needGameOn l hl0 κ D (s.heap).size (h0) (o0) (g0) (o2) (o3) (o4) (o5) (o6) (g1) (g2) (g3) (g4) (g5) (g6) ) (cwV 0 hts gd_c_X5_moves_1 rfl rfl rfl (by decide +kernel) ⟨(Nat.le_of_ble_eq_true rfl), (Nat.le_of_ble_eq_true rfl)⟩) (preV hE hK hP hD hS hA [0, 1] rfl (by decide) [] rfl (va_recv hK hP (ci := 12) (q0 := 0) rfl rfl)) rfl rfl hl.1 rfl (lv_room (Nat.le_of_ble_eq_true rfl)) dX5_moves_1 ⟨(Nat.le_of_ble_eq_true rfl), (Nat.le_of_ble_eq_true rfl)⟩) hS (fun q _ h => hFc q h) hFc (fun q _ h => hFc q h) (fun E9 ce q9 u9 t H1 locs ht hvm _ hB hz1 hk1 hS hce hcv hcl => ?_) (fun _ _ _ _ _ _ hw => hw.elim)
  obtain ⟨rfl, hB⟩ := hB
  obtain ⟨hP, hD, hK⟩ := jn (wc := [(h0, .inr (12, [.ref o0, .int 0, .ref g0, .ref o2, .ref o3, .ref o4, .ref o5, .int 0, .ref o6])), (g0, .inr (8, [.ref g1, .ref g2, .ref g3, .ref g4, .ref g5, .ref g6, .int 0, .int 0, .int 0, .int 0]))]) (wr := []) (w1 := [(h0, .inr (12, [.ref o0, .int 0, .ref g0, .ref o2, .ref o3, .ref o4, .ref o5, .int 0, .ref o6])), (g0, .inr (8, [.ref g1, .ref g2, .ref g3, .ref g4, .ref g5, .ref g6, .int 0, .int 0, .int 0, .int 0]))]) (t1 := []) hP hD hK hS0 hA [0, 1] [] rfl rfl (by decide) (by decide) ht hvm hk1 hB
  generalize H1 = H at hP hS hce ⊢
  have hP : va_P D vwCl ([(h0, .inr (12, [.ref o0, .int 0, .ref g0, .ref o2, .ref o3, .ref o4, .ref o5, .int 0, .ref o6])), (g0, .inr (8, [.ref g1, .ref g2, .ref g3, .ref g4, .ref g5, .ref g6, .int 0, .int 0, .int 0, .int 0]))]) H := hP
  have hD : va_D A ([(h0, .inr (12, [.ref o0, .int 0, .ref g0, .ref o2, .ref o3, .ref o4, .ref o5, .int 0, .ref o6])), (g0, .inr (8, [.ref g1, .ref g2, .ref g3, .ref g4, .ref g5, .ref g6, .int 0, .int 0, .int 0, .int 0]))]) := hD
  have hK : va_K D vwCl [] s := hK
  refine vx_widen (k := 1) (n := 6) (Nat.le_of_ble_eq_true rfl) (Nat.le_of_ble_eq_true rfl) ?_
  exact vx_out (fun x hx => (htab x hx).elim) hlocks hce hcv hcl (fun t ht hal => ⟨(), trivial, ⟨rfl, PB.at hP hK hD hal ht [0, 1] rfl (by decide) [] rfl⟩, hS.F ht⟩) hS.2.2 (Nat.le_of_ble_eq_true rfl) (Nat.le_of_ble_eq_true rfl)

def wm_c_X5_turn : List Cond := .code yX5_turn cX5_turn 1 (some .int) :: ([.code yX5_needGameOn cX5_needGameOn 1 none, .fieldLink RX5 19 "Sowingcourt" "game" "LSowingcourt$Game;", .fieldLink RX5 179 "Sowingcourt$Game" "begun" "Z", .classLink RX5 162 "java/lang/IllegalStateException", .initialized "java/lang/IllegalStateException", .methodLink RX5 138 yX5_needGameOn, .instanceMethod yX5_needGameOn, .selects RX5 yX5_needGameOn yX5_needGameOn, .initialized RX5] ++ wsX50 ++ wsX10 ++ (vx_atS RX5 166 "java/lang/IllegalStateException" supX).filter goodWord)
set_option maxRecDepth 20000 in
theorem gd_c_X5_turn_1 : GoodIn wm_c_X5_turn (wsV RX5 138 RX5 yX5_needGameOn wm_c_X5_needGameOn) := goodIn_of _ (by decide +kernel)
set_option maxHeartbeats 4000000 in
set_option maxRecDepth 100000 in
theorem c_X5_turn (l : Launch) (hl0 : l.stackTraces = false) (κ : Nat → Nat) (D : va_G) (sz : Nat) (h0 : Nat) (o0 : Nat) (g0 : Nat) (o2 : Nat) (o3 : Nat) (o4 : Nat) (o5 : Nat) (o6 : Nat) (g1 : Nat) (g2 : Nat) (g3 : Nat) (g4 : Nat) (g5 : Nat) (g6 : Nat)  : vx_Met l yX5_turn wm_c_X5_turn ({ frames := 9, cells := 1, slots := 6, locals := 260 }) (va_Pc [.ref h0] (PC κ D [] [(h0, .inr (12, [.ref o0, .int 0, .ref g0, .ref o2, .ref o3, .ref o4, .ref o5, .int 0, .ref o6])), (g0, .inr (8, [.ref g1, .ref g2, .ref g3, .ref g4, .ref g5, .ref g6, .int 0, .int 0, .int 0, .int 0]))] sz)) (va_Qi (fun (_ : Int32) (_ : Unit) => False) (fun _ _ => True) (va_A [(h0, .inr (12, [.ref o0, .int 0, .ref g0, .ref o2, .ref o3, .ref o4, .ref o5, .int 0, .ref o6])), (g0, .inr (8, [.ref g1, .ref g2, .ref g3, .ref g4, .ref g5, .ref g6, .int 0, .int 0, .int 0, .int 0]))] sz)) (XQ "java/lang/IllegalStateException" D [] [(h0, .inr (12, [.ref o0, .int 0, .ref g0, .ref o2, .ref o3, .ref o4, .ref o5, .int 0, .ref o6])), (g0, .inr (8, [.ref g1, .ref g2, .ref g3, .ref g4, .ref g5, .ref g6, .int 0, .int 0, .int 0, .int 0]))] (va_A [(h0, .inr (12, [.ref o0, .int 0, .ref g0, .ref o2, .ref o3, .ref o4, .ref o5, .int 0, .ref o6])), (g0, .inr (8, [.ref g1, .ref g2, .ref g3, .ref g4, .ref g5, .ref g6, .int 0, .int 0, .int 0, .int 0]))] sz)) 1 6 (va_A [(h0, .inr (12, [.ref o0, .int 0, .ref g0, .ref o2, .ref o3, .ref o4, .ref o5, .int 0, .ref o6])), (g0, .inr (8, [.ref g1, .ref g2, .ref g3, .ref g4, .ref g5, .ref g6, .int 0, .int 0, .int 0, .int 0]))] sz) := by
  refine vx_ofW (cc := cX5_turn) (maxL := 1) (ret := (some .int)) (by decide +kernel) rfl ?_
  intro p e s m args below meth c s₁ B hml htab hv
  obtain ⟨rfl, hsz, hP, hK, hD0, hE⟩ := hv
  have hx := B.exec
  have hb := B.bytes
  have hr := B.returns
  have hts := atoms_spec (ws := wm_c_X5_turn) B.pre
  have hown : s.vm.findClass RX5 = some m.cls := findClass_of_methodNamed B.named
  have hlocks := B.notSynchronized
  have iRX5 : ∀ w ∈ u_ws RX5 TX5 9, w ∈ wm_c_X5_turn := by decide +kernel
  have iRX1 : ∀ w ∈ u_ws RX1 TX1 10, w ∈ wm_c_X5_turn := by decide +kernel
  subst hsz
  have hD := hD0.self (sz := s.heap.size)
  generalize hAe : va_A [(h0, .inr (12, [.ref o0, .int 0, .ref g0, .ref o2, .ref o3, .ref o4, .ref o5, .int 0, .ref o6])), (g0, .inr (8, [.ref g1, .ref g2, .ref g3, .ref g4, .ref g5, .ref g6, .int 0, .int 0, .int 0, .int 0]))] s.heap.size = A at hD hE ⊢
  have hA : ∀ q : Nat, s.heap.size ≤ q → A q := fun q h => by rw [← hAe]; exact Or.inr h
  have hS : va_S A s.heap s.heap [] := va_S.rf
  have hl := lv_entry ([.ref h0]) (n := 1) (Nat.le_of_ble_eq_true rfl)
  rw [lg_entry_eq]
  generalize (lg_sl ([.ref h0]) ++ List.replicate (1 - (lg_sl ([.ref h0])).length) Slot.unset).toArray = ls at hl ⊢
  have hl : lv_has ls 1 [(0, .ref h0)] := hl
  refine lv_aload_n hx hb dX5_turn_0 rfl (lv_at hl 0 rfl) ?_
  have hS0 := hS
  have hFc := va_free (wc := [(h0, .inr (12, [.ref o0, .int 0, .ref g0, .ref o2, .ref o3, .ref o4, .ref o5, .int 0, .ref o6])), (g0, .inr (8, [.ref g1, .ref g2, .ref g3, .ref g4, .ref g5, .ref g6, .int 0, .int 0, .int 0, .int 0]))]) hD hS hA [0, 1] rfl
  refine vx_callv (vx_runV (As := []) (rest := []) ⟨hx, hb, hml, hown, hts⟩ (c_X5_needGameOn l hl0 κ D (s.heap).size (h0) (o0) (g0) (o2) (o3) (o4) (o5) (o6) (g1) (g2) (g3) (g4) (g5) (g6) ) (cwV 0 hts gd_c_X5_turn_1 rfl rfl rfl (by decide +kernel) ⟨(Nat.le_of_ble_eq_true rfl), (Nat.le_of_ble_eq_true rfl)⟩) (preV hE hK hP hD hS hA [0, 1] rfl (by decide) [] rfl (va_recv hK hP (ci := 12) (q0 := 0) rfl rfl)) rfl rfl hl.1 rfl (lv_room (Nat.le_of_ble_eq_true rfl)) dX5_turn_1 ⟨(Nat.le_of_ble_eq_true rfl), (Nat.le_of_ble_eq_true rfl)⟩) hS (fun q _ h => hFc q h) hFc (fun q _ h => hFc q h) (fun E9 ce q9 u9 t H1 locs ht hvm _ hB hz1 hk1 hS hce hcv hcl => ?_) (fun _ _ _ _ _ _ hw => hw.elim)
  obtain ⟨rfl, hB⟩ := hB
  obtain ⟨hP, hD, hK⟩ := jn (wc := [(h0, .inr (12, [.ref o0, .int 0, .ref g0, .ref o2, .ref o3, .ref o4, .ref o5, .int 0, .ref o6])), (g0, .inr (8, [.ref g1, .ref g2, .ref g3, .ref g4, .ref g5, .ref g6, .int 0, .int 0, .int 0, .int 0]))]) (wr := []) (w1 := [(h0, .inr (12, [.ref o0, .int 0, .ref g0, .ref o2, .ref o3, .ref o4, .ref o5, .int 0, .ref o6])), (g0, .inr (8, [.ref g1, .ref g2, .ref g3, .ref g4, .ref g5, .ref g6, .int 0, .int 0, .int 0, .int 0]))]) (t1 := []) hP hD hK hS0 hA [0, 1] [] rfl rfl (by decide) (by decide) ht hvm hk1 hB
  generalize H1 = H at hP hS hce ⊢
  have hP : va_P D vwCl ([(h0, .inr (12, [.ref o0, .int 0, .ref g0, .ref o2, .ref o3, .ref o4, .ref o5, .int 0, .ref o6])), (g0, .inr (8, [.ref g1, .ref g2, .ref g3, .ref g4, .ref g5, .ref g6, .int 0, .int 0, .int 0, .int 0]))]) H := hP
  have hD : va_D A ([(h0, .inr (12, [.ref o0, .int 0, .ref g0, .ref o2, .ref o3, .ref o4, .ref o5, .int 0, .ref o6])), (g0, .inr (8, [.ref g1, .ref g2, .ref g3, .ref g4, .ref g5, .ref g6, .int 0, .int 0, .int 0, .int 0]))]) := hD
  have hK : va_K D vwCl [] s := hK
  refine vx_widen (k := 1) (n := 6) (Nat.le_of_ble_eq_true rfl) (Nat.le_of_ble_eq_true rfl) ?_
  exact vx_out (fun x hx => (htab x hx).elim) hlocks hce hcv hcl (fun t ht hal => ⟨(), trivial, ⟨rfl, PB.at hP hK hD hal ht [0, 1] rfl (by decide) [] rfl⟩, hS.F ht⟩) hS.2.2 (Nat.le_of_ble_eq_true rfl) (Nat.le_of_ble_eq_true rfl)

def wm_c_X5_value : List Cond := .code yX5_value cX5_value 2 (some .int) :: ([.code yX5_needGameOn cX5_needGameOn 1 none, .fieldLink RX5 19 "Sowingcourt" "game" "LSowingcourt$Game;", .fieldLink RX5 179 "Sowingcourt$Game" "begun" "Z", .classLink RX5 162 "java/lang/IllegalStateException", .initialized "java/lang/IllegalStateException", .methodLink RX5 138 yX5_needGameOn, .instanceMethod yX5_needGameOn, .selects RX5 yX5_needGameOn yX5_needGameOn, .initialized RX5] ++ wsX50 ++ wsX10 ++ (vx_atS RX5 166 "java/lang/IllegalStateException" supX).filter goodWord)
set_option maxRecDepth 20000 in
theorem gd_c_X5_value_1 : GoodIn wm_c_X5_value (wsV RX5 138 RX5 yX5_needGameOn wm_c_X5_needGameOn) := goodIn_of _ (by decide +kernel)
set_option maxHeartbeats 4000000 in
set_option maxRecDepth 100000 in
theorem c_X5_value (l : Launch) (hl0 : l.stackTraces = false) (κ : Nat → Nat) (D : va_G) (sz : Nat) (h0 : Nat) (o0 : Nat) (g0 : Nat) (o2 : Nat) (o3 : Nat) (o4 : Nat) (o5 : Nat) (o6 : Nat) (g1 : Nat) (g2 : Nat) (g3 : Nat) (g4 : Nat) (g5 : Nat) (g6 : Nat) (p0 : Int32)  : vx_Met l yX5_value wm_c_X5_value ({ frames := 9, cells := 1, slots := 6, locals := 260 }) (va_Pc [.ref h0, .int p0] (PC κ D [] [(h0, .inr (12, [.ref o0, .int 0, .ref g0, .ref o2, .ref o3, .ref o4, .ref o5, .int 0, .ref o6])), (g0, .inr (8, [.ref g1, .ref g2, .ref g3, .ref g4, .ref g5, .ref g6, .int 0, .int 0, .int 0, .int 0]))] sz)) (va_Qi (fun (_ : Int32) (_ : Unit) => False) (fun _ _ => True) (va_A [(h0, .inr (12, [.ref o0, .int 0, .ref g0, .ref o2, .ref o3, .ref o4, .ref o5, .int 0, .ref o6])), (g0, .inr (8, [.ref g1, .ref g2, .ref g3, .ref g4, .ref g5, .ref g6, .int 0, .int 0, .int 0, .int 0]))] sz)) (XQ "java/lang/IllegalStateException" D [] [(h0, .inr (12, [.ref o0, .int 0, .ref g0, .ref o2, .ref o3, .ref o4, .ref o5, .int 0, .ref o6])), (g0, .inr (8, [.ref g1, .ref g2, .ref g3, .ref g4, .ref g5, .ref g6, .int 0, .int 0, .int 0, .int 0]))] (va_A [(h0, .inr (12, [.ref o0, .int 0, .ref g0, .ref o2, .ref o3, .ref o4, .ref o5, .int 0, .ref o6])), (g0, .inr (8, [.ref g1, .ref g2, .ref g3, .ref g4, .ref g5, .ref g6, .int 0, .int 0, .int 0, .int 0]))] sz)) 1 6 (va_A [(h0, .inr (12, [.ref o0, .int 0, .ref g0, .ref o2, .ref o3, .ref o4, .ref o5, .int 0, .ref o6])), (g0, .inr (8, [.ref g1, .ref g2, .ref g3, .ref g4, .ref g5, .ref g6, .int 0, .int 0, .int 0, .int 0]))] sz) := by
  refine vx_ofW (cc := cX5_value) (maxL := 2) (ret := (some .int)) (by decide +kernel) rfl ?_
  intro p e s m args below meth c s₁ B hml htab hv
  obtain ⟨rfl, hsz, hP, hK, hD0, hE⟩ := hv
  have hx := B.exec
  have hb := B.bytes
  have hr := B.returns
  have hts := atoms_spec (ws := wm_c_X5_value) B.pre
  have hown : s.vm.findClass RX5 = some m.cls := findClass_of_methodNamed B.named
  have hlocks := B.notSynchronized
  have iRX5 : ∀ w ∈ u_ws RX5 TX5 9, w ∈ wm_c_X5_value := by decide +kernel
  have iRX1 : ∀ w ∈ u_ws RX1 TX1 10, w ∈ wm_c_X5_value := by decide +kernel
  subst hsz
  have hD := hD0.self (sz := s.heap.size)
  generalize hAe : va_A [(h0, .inr (12, [.ref o0, .int 0, .ref g0, .ref o2, .ref o3, .ref o4, .ref o5, .int 0, .ref o6])), (g0, .inr (8, [.ref g1, .ref g2, .ref g3, .ref g4, .ref g5, .ref g6, .int 0, .int 0, .int 0, .int 0]))] s.heap.size = A at hD hE ⊢
  have hA : ∀ q : Nat, s.heap.size ≤ q → A q := fun q h => by rw [← hAe]; exact Or.inr h
  have hS : va_S A s.heap s.heap [] := va_S.rf
  have hl := lv_entry ([.ref h0, .int p0]) (n := 2) (Nat.le_of_ble_eq_true rfl)
  rw [lg_entry_eq]
  generalize (lg_sl ([.ref h0, .int p0]) ++ List.replicate (2 - (lg_sl ([.ref h0, .int p0])).length) Slot.unset).toArray = ls at hl ⊢
  have hl : lv_has ls 2 [(0, .ref h0), (1, .int p0)] := hl
  refine lv_aload_n hx hb dX5_value_0 rfl (lv_at hl 0 rfl) ?_
  have hS0 := hS
  have hFc := va_free (wc := [(h0, .inr (12, [.ref o0, .int 0, .ref g0, .ref o2, .ref o3, .ref o4, .ref o5, .int 0, .ref o6])), (g0, .inr (8, [.ref g1, .ref g2, .ref g3, .ref g4, .ref g5, .ref g6, .int 0, .int 0, .int 0, .int 0]))]) hD hS hA [0, 1] rfl
  refine vx_callv (vx_runV (As := []) (rest := []) ⟨hx, hb, hml, hown, hts⟩ (c_X5_needGameOn l hl0 κ D (s.heap).size (h0) (o0) (g0) (o2) (o3) (o4) (o5) (o6) (g1) (g2) (g3) (g4) (g5) (g6) ) (cwV 0 hts gd_c_X5_value_1 rfl rfl rfl (by decide +kernel) ⟨(Nat.le_of_ble_eq_true rfl), (Nat.le_of_ble_eq_true rfl)⟩) (preV hE hK hP hD hS hA [0, 1] rfl (by decide) [] rfl (va_recv hK hP (ci := 12) (q0 := 0) rfl rfl)) rfl rfl hl.1 rfl (lv_room (Nat.le_of_ble_eq_true rfl)) dX5_value_1 ⟨(Nat.le_of_ble_eq_true rfl), (Nat.le_of_ble_eq_true rfl)⟩) hS (fun q _ h => hFc q h) hFc (fun q _ h => hFc q h) (fun E9 ce q9 u9 t H1 locs ht hvm _ hB hz1 hk1 hS hce hcv hcl => ?_) (fun _ _ _ _ _ _ hw => hw.elim)
  obtain ⟨rfl, hB⟩ := hB
  obtain ⟨hP, hD, hK⟩ := jn (wc := [(h0, .inr (12, [.ref o0, .int 0, .ref g0, .ref o2, .ref o3, .ref o4, .ref o5, .int 0, .ref o6])), (g0, .inr (8, [.ref g1, .ref g2, .ref g3, .ref g4, .ref g5, .ref g6, .int 0, .int 0, .int 0, .int 0]))]) (wr := []) (w1 := [(h0, .inr (12, [.ref o0, .int 0, .ref g0, .ref o2, .ref o3, .ref o4, .ref o5, .int 0, .ref o6])), (g0, .inr (8, [.ref g1, .ref g2, .ref g3, .ref g4, .ref g5, .ref g6, .int 0, .int 0, .int 0, .int 0]))]) (t1 := []) hP hD hK hS0 hA [0, 1] [] rfl rfl (by decide) (by decide) ht hvm hk1 hB
  generalize H1 = H at hP hS hce ⊢
  have hP : va_P D vwCl ([(h0, .inr (12, [.ref o0, .int 0, .ref g0, .ref o2, .ref o3, .ref o4, .ref o5, .int 0, .ref o6])), (g0, .inr (8, [.ref g1, .ref g2, .ref g3, .ref g4, .ref g5, .ref g6, .int 0, .int 0, .int 0, .int 0]))]) H := hP
  have hD : va_D A ([(h0, .inr (12, [.ref o0, .int 0, .ref g0, .ref o2, .ref o3, .ref o4, .ref o5, .int 0, .ref o6])), (g0, .inr (8, [.ref g1, .ref g2, .ref g3, .ref g4, .ref g5, .ref g6, .int 0, .int 0, .int 0, .int 0]))]) := hD
  have hK : va_K D vwCl [] s := hK
  refine vx_widen (k := 1) (n := 6) (Nat.le_of_ble_eq_true rfl) (Nat.le_of_ble_eq_true rfl) ?_
  exact vx_out (fun x hx => (htab x hx).elim) hlocks hce hcv hcl (fun t ht hal => ⟨(), trivial, ⟨rfl, PB.at hP hK hD hal ht [0, 1] rfl (by decide) [] rfl⟩, hS.F ht⟩) hS.2.2 (Nat.le_of_ble_eq_true rfl) (Nat.le_of_ble_eq_true rfl)

def wm_c_X5_best : List Cond := .code yX5_best cX5_best 2 (some .int) :: ([.code yX5_needGameOn cX5_needGameOn 1 none, .fieldLink RX5 19 "Sowingcourt" "game" "LSowingcourt$Game;", .fieldLink RX5 179 "Sowingcourt$Game" "begun" "Z", .classLink RX5 162 "java/lang/IllegalStateException", .initialized "java/lang/IllegalStateException", .methodLink RX5 138 yX5_needGameOn, .instanceMethod yX5_needGameOn, .selects RX5 yX5_needGameOn yX5_needGameOn, .initialized RX5] ++ wsX50 ++ wsX10 ++ (vx_atS RX5 166 "java/lang/IllegalStateException" supX).filter goodWord)
set_option maxRecDepth 20000 in
theorem gd_c_X5_best_1 : GoodIn wm_c_X5_best (wsV RX5 138 RX5 yX5_needGameOn wm_c_X5_needGameOn) := goodIn_of _ (by decide +kernel)
set_option maxHeartbeats 4000000 in
set_option maxRecDepth 100000 in
theorem c_X5_best (l : Launch) (hl0 : l.stackTraces = false) (κ : Nat → Nat) (D : va_G) (sz : Nat) (h0 : Nat) (o0 : Nat) (g0 : Nat) (o2 : Nat) (o3 : Nat) (o4 : Nat) (o5 : Nat) (o6 : Nat) (g1 : Nat) (g2 : Nat) (g3 : Nat) (g4 : Nat) (g5 : Nat) (g6 : Nat) (p0 : Int32)  : vx_Met l yX5_best wm_c_X5_best ({ frames := 9, cells := 1, slots := 6, locals := 260 }) (va_Pc [.ref h0, .int p0] (PC κ D [] [(h0, .inr (12, [.ref o0, .int 0, .ref g0, .ref o2, .ref o3, .ref o4, .ref o5, .int 0, .ref o6])), (g0, .inr (8, [.ref g1, .ref g2, .ref g3, .ref g4, .ref g5, .ref g6, .int 0, .int 0, .int 0, .int 0]))] sz)) (va_Qi (fun (_ : Int32) (_ : Unit) => False) (fun _ _ => True) (va_A [(h0, .inr (12, [.ref o0, .int 0, .ref g0, .ref o2, .ref o3, .ref o4, .ref o5, .int 0, .ref o6])), (g0, .inr (8, [.ref g1, .ref g2, .ref g3, .ref g4, .ref g5, .ref g6, .int 0, .int 0, .int 0, .int 0]))] sz)) (XQ "java/lang/IllegalStateException" D [] [(h0, .inr (12, [.ref o0, .int 0, .ref g0, .ref o2, .ref o3, .ref o4, .ref o5, .int 0, .ref o6])), (g0, .inr (8, [.ref g1, .ref g2, .ref g3, .ref g4, .ref g5, .ref g6, .int 0, .int 0, .int 0, .int 0]))] (va_A [(h0, .inr (12, [.ref o0, .int 0, .ref g0, .ref o2, .ref o3, .ref o4, .ref o5, .int 0, .ref o6])), (g0, .inr (8, [.ref g1, .ref g2, .ref g3, .ref g4, .ref g5, .ref g6, .int 0, .int 0, .int 0, .int 0]))] sz)) 1 6 (va_A [(h0, .inr (12, [.ref o0, .int 0, .ref g0, .ref o2, .ref o3, .ref o4, .ref o5, .int 0, .ref o6])), (g0, .inr (8, [.ref g1, .ref g2, .ref g3, .ref g4, .ref g5, .ref g6, .int 0, .int 0, .int 0, .int 0]))] sz) := by
  refine vx_ofW (cc := cX5_best) (maxL := 2) (ret := (some .int)) (by decide +kernel) rfl ?_
  intro p e s m args below meth c s₁ B hml htab hv
  obtain ⟨rfl, hsz, hP, hK, hD0, hE⟩ := hv
  have hx := B.exec
  have hb := B.bytes
  have hr := B.returns
  have hts := atoms_spec (ws := wm_c_X5_best) B.pre
  have hown : s.vm.findClass RX5 = some m.cls := findClass_of_methodNamed B.named
  have hlocks := B.notSynchronized
  have iRX5 : ∀ w ∈ u_ws RX5 TX5 9, w ∈ wm_c_X5_best := by decide +kernel
  have iRX1 : ∀ w ∈ u_ws RX1 TX1 10, w ∈ wm_c_X5_best := by decide +kernel
  subst hsz
  have hD := hD0.self (sz := s.heap.size)
  generalize hAe : va_A [(h0, .inr (12, [.ref o0, .int 0, .ref g0, .ref o2, .ref o3, .ref o4, .ref o5, .int 0, .ref o6])), (g0, .inr (8, [.ref g1, .ref g2, .ref g3, .ref g4, .ref g5, .ref g6, .int 0, .int 0, .int 0, .int 0]))] s.heap.size = A at hD hE ⊢
  have hA : ∀ q : Nat, s.heap.size ≤ q → A q := fun q h => by rw [← hAe]; exact Or.inr h
  have hS : va_S A s.heap s.heap [] := va_S.rf
  have hl := lv_entry ([.ref h0, .int p0]) (n := 2) (Nat.le_of_ble_eq_true rfl)
  rw [lg_entry_eq]
  generalize (lg_sl ([.ref h0, .int p0]) ++ List.replicate (2 - (lg_sl ([.ref h0, .int p0])).length) Slot.unset).toArray = ls at hl ⊢
  have hl : lv_has ls 2 [(0, .ref h0), (1, .int p0)] := hl
  refine lv_aload_n hx hb dX5_best_0 rfl (lv_at hl 0 rfl) ?_
  have hS0 := hS
  have hFc := va_free (wc := [(h0, .inr (12, [.ref o0, .int 0, .ref g0, .ref o2, .ref o3, .ref o4, .ref o5, .int 0, .ref o6])), (g0, .inr (8, [.ref g1, .ref g2, .ref g3, .ref g4, .ref g5, .ref g6, .int 0, .int 0, .int 0, .int 0]))]) hD hS hA [0, 1] rfl
  refine vx_callv (vx_runV (As := []) (rest := []) ⟨hx, hb, hml, hown, hts⟩ (c_X5_needGameOn l hl0 κ D (s.heap).size (h0) (o0) (g0) (o2) (o3) (o4) (o5) (o6) (g1) (g2) (g3) (g4) (g5) (g6) ) (cwV 0 hts gd_c_X5_best_1 rfl rfl rfl (by decide +kernel) ⟨(Nat.le_of_ble_eq_true rfl), (Nat.le_of_ble_eq_true rfl)⟩) (preV hE hK hP hD hS hA [0, 1] rfl (by decide) [] rfl (va_recv hK hP (ci := 12) (q0 := 0) rfl rfl)) rfl rfl hl.1 rfl (lv_room (Nat.le_of_ble_eq_true rfl)) dX5_best_1 ⟨(Nat.le_of_ble_eq_true rfl), (Nat.le_of_ble_eq_true rfl)⟩) hS (fun q _ h => hFc q h) hFc (fun q _ h => hFc q h) (fun E9 ce q9 u9 t H1 locs ht hvm _ hB hz1 hk1 hS hce hcv hcl => ?_) (fun _ _ _ _ _ _ hw => hw.elim)
  obtain ⟨rfl, hB⟩ := hB
  obtain ⟨hP, hD, hK⟩ := jn (wc := [(h0, .inr (12, [.ref o0, .int 0, .ref g0, .ref o2, .ref o3, .ref o4, .ref o5, .int 0, .ref o6])), (g0, .inr (8, [.ref g1, .ref g2, .ref g3, .ref g4, .ref g5, .ref g6, .int 0, .int 0, .int 0, .int 0]))]) (wr := []) (w1 := [(h0, .inr (12, [.ref o0, .int 0, .ref g0, .ref o2, .ref o3, .ref o4, .ref o5, .int 0, .ref o6])), (g0, .inr (8, [.ref g1, .ref g2, .ref g3, .ref g4, .ref g5, .ref g6, .int 0, .int 0, .int 0, .int 0]))]) (t1 := []) hP hD hK hS0 hA [0, 1] [] rfl rfl (by decide) (by decide) ht hvm hk1 hB
  generalize H1 = H at hP hS hce ⊢
  have hP : va_P D vwCl ([(h0, .inr (12, [.ref o0, .int 0, .ref g0, .ref o2, .ref o3, .ref o4, .ref o5, .int 0, .ref o6])), (g0, .inr (8, [.ref g1, .ref g2, .ref g3, .ref g4, .ref g5, .ref g6, .int 0, .int 0, .int 0, .int 0]))]) H := hP
  have hD : va_D A ([(h0, .inr (12, [.ref o0, .int 0, .ref g0, .ref o2, .ref o3, .ref o4, .ref o5, .int 0, .ref o6])), (g0, .inr (8, [.ref g1, .ref g2, .ref g3, .ref g4, .ref g5, .ref g6, .int 0, .int 0, .int 0, .int 0]))]) := hD
  have hK : va_K D vwCl [] s := hK
  refine vx_widen (k := 1) (n := 6) (Nat.le_of_ble_eq_true rfl) (Nat.le_of_ble_eq_true rfl) ?_
  exact vx_out (fun x hx => (htab x hx).elim) hlocks hce hcv hcl (fun t ht hal => ⟨(), trivial, ⟨rfl, PB.at hP hK hD hal ht [0, 1] rfl (by decide) [] rfl⟩, hS.F ht⟩) hS.2.2 (Nat.le_of_ble_eq_true rfl) (Nat.le_of_ble_eq_true rfl)

def wm_c_X5_blunder : List Cond := .code yX5_blunder cX5_blunder 3 (some .int) :: ([.code yX5_needGameOn cX5_needGameOn 1 none, .fieldLink RX5 19 "Sowingcourt" "game" "LSowingcourt$Game;", .fieldLink RX5 179 "Sowingcourt$Game" "begun" "Z", .classLink RX5 162 "java/lang/IllegalStateException", .initialized "java/lang/IllegalStateException", .methodLink RX5 138 yX5_needGameOn, .instanceMethod yX5_needGameOn, .selects RX5 yX5_needGameOn yX5_needGameOn, .initialized RX5] ++ wsX50 ++ wsX10 ++ (vx_atS RX5 166 "java/lang/IllegalStateException" supX).filter goodWord)
set_option maxRecDepth 20000 in
theorem gd_c_X5_blunder_1 : GoodIn wm_c_X5_blunder (wsV RX5 138 RX5 yX5_needGameOn wm_c_X5_needGameOn) := goodIn_of _ (by decide +kernel)
set_option maxHeartbeats 4000000 in
set_option maxRecDepth 100000 in
theorem c_X5_blunder (l : Launch) (hl0 : l.stackTraces = false) (κ : Nat → Nat) (D : va_G) (sz : Nat) (h0 : Nat) (o0 : Nat) (g0 : Nat) (o2 : Nat) (o3 : Nat) (o4 : Nat) (o5 : Nat) (o6 : Nat) (g1 : Nat) (g2 : Nat) (g3 : Nat) (g4 : Nat) (g5 : Nat) (g6 : Nat) (p0 : Int32) (p1 : Int32)  : vx_Met l yX5_blunder wm_c_X5_blunder ({ frames := 9, cells := 1, slots := 6, locals := 260 }) (va_Pc [.ref h0, .int p0, .int p1] (PC κ D [] [(h0, .inr (12, [.ref o0, .int 0, .ref g0, .ref o2, .ref o3, .ref o4, .ref o5, .int 0, .ref o6])), (g0, .inr (8, [.ref g1, .ref g2, .ref g3, .ref g4, .ref g5, .ref g6, .int 0, .int 0, .int 0, .int 0]))] sz)) (va_Qi (fun (_ : Int32) (_ : Unit) => False) (fun _ _ => True) (va_A [(h0, .inr (12, [.ref o0, .int 0, .ref g0, .ref o2, .ref o3, .ref o4, .ref o5, .int 0, .ref o6])), (g0, .inr (8, [.ref g1, .ref g2, .ref g3, .ref g4, .ref g5, .ref g6, .int 0, .int 0, .int 0, .int 0]))] sz)) (XQ "java/lang/IllegalStateException" D [] [(h0, .inr (12, [.ref o0, .int 0, .ref g0, .ref o2, .ref o3, .ref o4, .ref o5, .int 0, .ref o6])), (g0, .inr (8, [.ref g1, .ref g2, .ref g3, .ref g4, .ref g5, .ref g6, .int 0, .int 0, .int 0, .int 0]))] (va_A [(h0, .inr (12, [.ref o0, .int 0, .ref g0, .ref o2, .ref o3, .ref o4, .ref o5, .int 0, .ref o6])), (g0, .inr (8, [.ref g1, .ref g2, .ref g3, .ref g4, .ref g5, .ref g6, .int 0, .int 0, .int 0, .int 0]))] sz)) 1 6 (va_A [(h0, .inr (12, [.ref o0, .int 0, .ref g0, .ref o2, .ref o3, .ref o4, .ref o5, .int 0, .ref o6])), (g0, .inr (8, [.ref g1, .ref g2, .ref g3, .ref g4, .ref g5, .ref g6, .int 0, .int 0, .int 0, .int 0]))] sz) := by
  refine vx_ofW (cc := cX5_blunder) (maxL := 3) (ret := (some .int)) (by decide +kernel) rfl ?_
  intro p e s m args below meth c s₁ B hml htab hv
  obtain ⟨rfl, hsz, hP, hK, hD0, hE⟩ := hv
  have hx := B.exec
  have hb := B.bytes
  have hr := B.returns
  have hts := atoms_spec (ws := wm_c_X5_blunder) B.pre
  have hown : s.vm.findClass RX5 = some m.cls := findClass_of_methodNamed B.named
  have hlocks := B.notSynchronized
  have iRX5 : ∀ w ∈ u_ws RX5 TX5 9, w ∈ wm_c_X5_blunder := by decide +kernel
  have iRX1 : ∀ w ∈ u_ws RX1 TX1 10, w ∈ wm_c_X5_blunder := by decide +kernel
  subst hsz
  have hD := hD0.self (sz := s.heap.size)
  generalize hAe : va_A [(h0, .inr (12, [.ref o0, .int 0, .ref g0, .ref o2, .ref o3, .ref o4, .ref o5, .int 0, .ref o6])), (g0, .inr (8, [.ref g1, .ref g2, .ref g3, .ref g4, .ref g5, .ref g6, .int 0, .int 0, .int 0, .int 0]))] s.heap.size = A at hD hE ⊢
  have hA : ∀ q : Nat, s.heap.size ≤ q → A q := fun q h => by rw [← hAe]; exact Or.inr h
  have hS : va_S A s.heap s.heap [] := va_S.rf
  have hl := lv_entry ([.ref h0, .int p0, .int p1]) (n := 3) (Nat.le_of_ble_eq_true rfl)
  rw [lg_entry_eq]
  generalize (lg_sl ([.ref h0, .int p0, .int p1]) ++ List.replicate (3 - (lg_sl ([.ref h0, .int p0, .int p1])).length) Slot.unset).toArray = ls at hl ⊢
  have hl : lv_has ls 3 [(0, .ref h0), (1, .int p0), (2, .int p1)] := hl
  refine lv_aload_n hx hb dX5_blunder_0 rfl (lv_at hl 0 rfl) ?_
  have hS0 := hS
  have hFc := va_free (wc := [(h0, .inr (12, [.ref o0, .int 0, .ref g0, .ref o2, .ref o3, .ref o4, .ref o5, .int 0, .ref o6])), (g0, .inr (8, [.ref g1, .ref g2, .ref g3, .ref g4, .ref g5, .ref g6, .int 0, .int 0, .int 0, .int 0]))]) hD hS hA [0, 1] rfl
  refine vx_callv (vx_runV (As := []) (rest := []) ⟨hx, hb, hml, hown, hts⟩ (c_X5_needGameOn l hl0 κ D (s.heap).size (h0) (o0) (g0) (o2) (o3) (o4) (o5) (o6) (g1) (g2) (g3) (g4) (g5) (g6) ) (cwV 0 hts gd_c_X5_blunder_1 rfl rfl rfl (by decide +kernel) ⟨(Nat.le_of_ble_eq_true rfl), (Nat.le_of_ble_eq_true rfl)⟩) (preV hE hK hP hD hS hA [0, 1] rfl (by decide) [] rfl (va_recv hK hP (ci := 12) (q0 := 0) rfl rfl)) rfl rfl hl.1 rfl (lv_room (Nat.le_of_ble_eq_true rfl)) dX5_blunder_1 ⟨(Nat.le_of_ble_eq_true rfl), (Nat.le_of_ble_eq_true rfl)⟩) hS (fun q _ h => hFc q h) hFc (fun q _ h => hFc q h) (fun E9 ce q9 u9 t H1 locs ht hvm _ hB hz1 hk1 hS hce hcv hcl => ?_) (fun _ _ _ _ _ _ hw => hw.elim)
  obtain ⟨rfl, hB⟩ := hB
  obtain ⟨hP, hD, hK⟩ := jn (wc := [(h0, .inr (12, [.ref o0, .int 0, .ref g0, .ref o2, .ref o3, .ref o4, .ref o5, .int 0, .ref o6])), (g0, .inr (8, [.ref g1, .ref g2, .ref g3, .ref g4, .ref g5, .ref g6, .int 0, .int 0, .int 0, .int 0]))]) (wr := []) (w1 := [(h0, .inr (12, [.ref o0, .int 0, .ref g0, .ref o2, .ref o3, .ref o4, .ref o5, .int 0, .ref o6])), (g0, .inr (8, [.ref g1, .ref g2, .ref g3, .ref g4, .ref g5, .ref g6, .int 0, .int 0, .int 0, .int 0]))]) (t1 := []) hP hD hK hS0 hA [0, 1] [] rfl rfl (by decide) (by decide) ht hvm hk1 hB
  generalize H1 = H at hP hS hce ⊢
  have hP : va_P D vwCl ([(h0, .inr (12, [.ref o0, .int 0, .ref g0, .ref o2, .ref o3, .ref o4, .ref o5, .int 0, .ref o6])), (g0, .inr (8, [.ref g1, .ref g2, .ref g3, .ref g4, .ref g5, .ref g6, .int 0, .int 0, .int 0, .int 0]))]) H := hP
  have hD : va_D A ([(h0, .inr (12, [.ref o0, .int 0, .ref g0, .ref o2, .ref o3, .ref o4, .ref o5, .int 0, .ref o6])), (g0, .inr (8, [.ref g1, .ref g2, .ref g3, .ref g4, .ref g5, .ref g6, .int 0, .int 0, .int 0, .int 0]))]) := hD
  have hK : va_K D vwCl [] s := hK
  refine vx_widen (k := 1) (n := 6) (Nat.le_of_ble_eq_true rfl) (Nat.le_of_ble_eq_true rfl) ?_
  exact vx_out (fun x hx => (htab x hx).elim) hlocks hce hcv hcl (fun t ht hal => ⟨(), trivial, ⟨rfl, PB.at hP hK hD hal ht [0, 1] rfl (by decide) [] rfl⟩, hS.F ht⟩) hS.2.2 (Nat.le_of_ble_eq_true rfl) (Nat.le_of_ble_eq_true rfl)

def wm_c_X5_isPuzzle : List Cond := .code yX5_isPuzzle cX5_isPuzzle 2 (some .boolean) :: ([.code yX5_needGameOn cX5_needGameOn 1 none, .fieldLink RX5 19 "Sowingcourt" "game" "LSowingcourt$Game;", .fieldLink RX5 179 "Sowingcourt$Game" "begun" "Z", .classLink RX5 162 "java/lang/IllegalStateException", .initialized "java/lang/IllegalStateException", .methodLink RX5 138 yX5_needGameOn, .instanceMethod yX5_needGameOn, .selects RX5 yX5_needGameOn yX5_needGameOn, .initialized RX5] ++ wsX50 ++ wsX10 ++ (vx_atS RX5 166 "java/lang/IllegalStateException" supX).filter goodWord)
set_option maxRecDepth 20000 in
theorem gd_c_X5_isPuzzle_1 : GoodIn wm_c_X5_isPuzzle (wsV RX5 138 RX5 yX5_needGameOn wm_c_X5_needGameOn) := goodIn_of _ (by decide +kernel)
set_option maxHeartbeats 4000000 in
set_option maxRecDepth 100000 in
theorem c_X5_isPuzzle (l : Launch) (hl0 : l.stackTraces = false) (κ : Nat → Nat) (D : va_G) (sz : Nat) (h0 : Nat) (o0 : Nat) (g0 : Nat) (o2 : Nat) (o3 : Nat) (o4 : Nat) (o5 : Nat) (o6 : Nat) (g1 : Nat) (g2 : Nat) (g3 : Nat) (g4 : Nat) (g5 : Nat) (g6 : Nat) (p0 : Int32)  : vx_Met l yX5_isPuzzle wm_c_X5_isPuzzle ({ frames := 9, cells := 1, slots := 6, locals := 260 }) (va_Pc [.ref h0, .int p0] (PC κ D [] [(h0, .inr (12, [.ref o0, .int 0, .ref g0, .ref o2, .ref o3, .ref o4, .ref o5, .int 0, .ref o6])), (g0, .inr (8, [.ref g1, .ref g2, .ref g3, .ref g4, .ref g5, .ref g6, .int 0, .int 0, .int 0, .int 0]))] sz)) (va_Qi (fun (_ : Int32) (_ : Unit) => False) (fun _ _ => True) (va_A [(h0, .inr (12, [.ref o0, .int 0, .ref g0, .ref o2, .ref o3, .ref o4, .ref o5, .int 0, .ref o6])), (g0, .inr (8, [.ref g1, .ref g2, .ref g3, .ref g4, .ref g5, .ref g6, .int 0, .int 0, .int 0, .int 0]))] sz)) (XQ "java/lang/IllegalStateException" D [] [(h0, .inr (12, [.ref o0, .int 0, .ref g0, .ref o2, .ref o3, .ref o4, .ref o5, .int 0, .ref o6])), (g0, .inr (8, [.ref g1, .ref g2, .ref g3, .ref g4, .ref g5, .ref g6, .int 0, .int 0, .int 0, .int 0]))] (va_A [(h0, .inr (12, [.ref o0, .int 0, .ref g0, .ref o2, .ref o3, .ref o4, .ref o5, .int 0, .ref o6])), (g0, .inr (8, [.ref g1, .ref g2, .ref g3, .ref g4, .ref g5, .ref g6, .int 0, .int 0, .int 0, .int 0]))] sz)) 1 6 (va_A [(h0, .inr (12, [.ref o0, .int 0, .ref g0, .ref o2, .ref o3, .ref o4, .ref o5, .int 0, .ref o6])), (g0, .inr (8, [.ref g1, .ref g2, .ref g3, .ref g4, .ref g5, .ref g6, .int 0, .int 0, .int 0, .int 0]))] sz) := by
  refine vx_ofW (cc := cX5_isPuzzle) (maxL := 2) (ret := (some .boolean)) (by decide +kernel) rfl ?_
  intro p e s m args below meth c s₁ B hml htab hv
  obtain ⟨rfl, hsz, hP, hK, hD0, hE⟩ := hv
  have hx := B.exec
  have hb := B.bytes
  have hr := B.returns
  have hts := atoms_spec (ws := wm_c_X5_isPuzzle) B.pre
  have hown : s.vm.findClass RX5 = some m.cls := findClass_of_methodNamed B.named
  have hlocks := B.notSynchronized
  have iRX5 : ∀ w ∈ u_ws RX5 TX5 9, w ∈ wm_c_X5_isPuzzle := by decide +kernel
  have iRX1 : ∀ w ∈ u_ws RX1 TX1 10, w ∈ wm_c_X5_isPuzzle := by decide +kernel
  subst hsz
  have hD := hD0.self (sz := s.heap.size)
  generalize hAe : va_A [(h0, .inr (12, [.ref o0, .int 0, .ref g0, .ref o2, .ref o3, .ref o4, .ref o5, .int 0, .ref o6])), (g0, .inr (8, [.ref g1, .ref g2, .ref g3, .ref g4, .ref g5, .ref g6, .int 0, .int 0, .int 0, .int 0]))] s.heap.size = A at hD hE ⊢
  have hA : ∀ q : Nat, s.heap.size ≤ q → A q := fun q h => by rw [← hAe]; exact Or.inr h
  have hS : va_S A s.heap s.heap [] := va_S.rf
  have hl := lv_entry ([.ref h0, .int p0]) (n := 2) (Nat.le_of_ble_eq_true rfl)
  rw [lg_entry_eq]
  generalize (lg_sl ([.ref h0, .int p0]) ++ List.replicate (2 - (lg_sl ([.ref h0, .int p0])).length) Slot.unset).toArray = ls at hl ⊢
  have hl : lv_has ls 2 [(0, .ref h0), (1, .int p0)] := hl
  refine lv_aload_n hx hb dX5_isPuzzle_0 rfl (lv_at hl 0 rfl) ?_
  have hS0 := hS
  have hFc := va_free (wc := [(h0, .inr (12, [.ref o0, .int 0, .ref g0, .ref o2, .ref o3, .ref o4, .ref o5, .int 0, .ref o6])), (g0, .inr (8, [.ref g1, .ref g2, .ref g3, .ref g4, .ref g5, .ref g6, .int 0, .int 0, .int 0, .int 0]))]) hD hS hA [0, 1] rfl
  refine vx_callv (vx_runV (As := []) (rest := []) ⟨hx, hb, hml, hown, hts⟩ (c_X5_needGameOn l hl0 κ D (s.heap).size (h0) (o0) (g0) (o2) (o3) (o4) (o5) (o6) (g1) (g2) (g3) (g4) (g5) (g6) ) (cwV 0 hts gd_c_X5_isPuzzle_1 rfl rfl rfl (by decide +kernel) ⟨(Nat.le_of_ble_eq_true rfl), (Nat.le_of_ble_eq_true rfl)⟩) (preV hE hK hP hD hS hA [0, 1] rfl (by decide) [] rfl (va_recv hK hP (ci := 12) (q0 := 0) rfl rfl)) rfl rfl hl.1 rfl (lv_room (Nat.le_of_ble_eq_true rfl)) dX5_isPuzzle_1 ⟨(Nat.le_of_ble_eq_true rfl), (Nat.le_of_ble_eq_true rfl)⟩) hS (fun q _ h => hFc q h) hFc (fun q _ h => hFc q h) (fun E9 ce q9 u9 t H1 locs ht hvm _ hB hz1 hk1 hS hce hcv hcl => ?_) (fun _ _ _ _ _ _ hw => hw.elim)
  obtain ⟨rfl, hB⟩ := hB
  obtain ⟨hP, hD, hK⟩ := jn (wc := [(h0, .inr (12, [.ref o0, .int 0, .ref g0, .ref o2, .ref o3, .ref o4, .ref o5, .int 0, .ref o6])), (g0, .inr (8, [.ref g1, .ref g2, .ref g3, .ref g4, .ref g5, .ref g6, .int 0, .int 0, .int 0, .int 0]))]) (wr := []) (w1 := [(h0, .inr (12, [.ref o0, .int 0, .ref g0, .ref o2, .ref o3, .ref o4, .ref o5, .int 0, .ref o6])), (g0, .inr (8, [.ref g1, .ref g2, .ref g3, .ref g4, .ref g5, .ref g6, .int 0, .int 0, .int 0, .int 0]))]) (t1 := []) hP hD hK hS0 hA [0, 1] [] rfl rfl (by decide) (by decide) ht hvm hk1 hB
  generalize H1 = H at hP hS hce ⊢
  have hP : va_P D vwCl ([(h0, .inr (12, [.ref o0, .int 0, .ref g0, .ref o2, .ref o3, .ref o4, .ref o5, .int 0, .ref o6])), (g0, .inr (8, [.ref g1, .ref g2, .ref g3, .ref g4, .ref g5, .ref g6, .int 0, .int 0, .int 0, .int 0]))]) H := hP
  have hD : va_D A ([(h0, .inr (12, [.ref o0, .int 0, .ref g0, .ref o2, .ref o3, .ref o4, .ref o5, .int 0, .ref o6])), (g0, .inr (8, [.ref g1, .ref g2, .ref g3, .ref g4, .ref g5, .ref g6, .int 0, .int 0, .int 0, .int 0]))]) := hD
  have hK : va_K D vwCl [] s := hK
  refine vx_widen (k := 1) (n := 6) (Nat.le_of_ble_eq_true rfl) (Nat.le_of_ble_eq_true rfl) ?_
  exact vx_out (fun x hx => (htab x hx).elim) hlocks hce hcv hcl (fun t ht hal => ⟨(), trivial, ⟨rfl, PB.at hP hK hD hal ht [0, 1] rfl (by decide) [] rfl⟩, hS.F ht⟩) hS.2.2 (Nat.le_of_ble_eq_true rfl) (Nat.le_of_ble_eq_true rfl)

def wm_c_X5_freeShare : List Cond := .code yX5_freeShare cX5_freeShare 3 (some .float) :: ([.code yX5_needGameOn cX5_needGameOn 1 none, .fieldLink RX5 19 "Sowingcourt" "game" "LSowingcourt$Game;", .fieldLink RX5 179 "Sowingcourt$Game" "begun" "Z", .classLink RX5 162 "java/lang/IllegalStateException", .initialized "java/lang/IllegalStateException", .methodLink RX5 138 yX5_needGameOn, .instanceMethod yX5_needGameOn, .selects RX5 yX5_needGameOn yX5_needGameOn, .initialized RX5] ++ wsX50 ++ wsX10 ++ (vx_atS RX5 166 "java/lang/IllegalStateException" supX).filter goodWord)
set_option maxRecDepth 20000 in
theorem gd_c_X5_freeShare_1 : GoodIn wm_c_X5_freeShare (wsV RX5 138 RX5 yX5_needGameOn wm_c_X5_needGameOn) := goodIn_of _ (by decide +kernel)
set_option maxHeartbeats 4000000 in
set_option maxRecDepth 100000 in
theorem c_X5_freeShare (l : Launch) (hl0 : l.stackTraces = false) (κ : Nat → Nat) (D : va_G) (sz : Nat) (h0 : Nat) (o0 : Nat) (g0 : Nat) (o2 : Nat) (o3 : Nat) (o4 : Nat) (o5 : Nat) (o6 : Nat) (g1 : Nat) (g2 : Nat) (g3 : Nat) (g4 : Nat) (g5 : Nat) (g6 : Nat)  : vx_Met l yX5_freeShare wm_c_X5_freeShare ({ frames := 9, cells := 1, slots := 6, locals := 260 }) (va_Pc [.ref h0] (PC κ D [] [(h0, .inr (12, [.ref o0, .int 0, .ref g0, .ref o2, .ref o3, .ref o4, .ref o5, .int 0, .ref o6])), (g0, .inr (8, [.ref g1, .ref g2, .ref g3, .ref g4, .ref g5, .ref g6, .int 0, .int 0, .int 0, .int 0]))] sz)) (va_Qf (fun (_ : UInt32) (_ : Unit) => False) (fun _ _ => True) (va_A [(h0, .inr (12, [.ref o0, .int 0, .ref g0, .ref o2, .ref o3, .ref o4, .ref o5, .int 0, .ref o6])), (g0, .inr (8, [.ref g1, .ref g2, .ref g3, .ref g4, .ref g5, .ref g6, .int 0, .int 0, .int 0, .int 0]))] sz)) (XQ "java/lang/IllegalStateException" D [] [(h0, .inr (12, [.ref o0, .int 0, .ref g0, .ref o2, .ref o3, .ref o4, .ref o5, .int 0, .ref o6])), (g0, .inr (8, [.ref g1, .ref g2, .ref g3, .ref g4, .ref g5, .ref g6, .int 0, .int 0, .int 0, .int 0]))] (va_A [(h0, .inr (12, [.ref o0, .int 0, .ref g0, .ref o2, .ref o3, .ref o4, .ref o5, .int 0, .ref o6])), (g0, .inr (8, [.ref g1, .ref g2, .ref g3, .ref g4, .ref g5, .ref g6, .int 0, .int 0, .int 0, .int 0]))] sz)) 1 6 (va_A [(h0, .inr (12, [.ref o0, .int 0, .ref g0, .ref o2, .ref o3, .ref o4, .ref o5, .int 0, .ref o6])), (g0, .inr (8, [.ref g1, .ref g2, .ref g3, .ref g4, .ref g5, .ref g6, .int 0, .int 0, .int 0, .int 0]))] sz) := by
  refine vx_ofW (cc := cX5_freeShare) (maxL := 3) (ret := (some .float)) (by decide +kernel) rfl ?_
  intro p e s m args below meth c s₁ B hml htab hv
  obtain ⟨rfl, hsz, hP, hK, hD0, hE⟩ := hv
  have hx := B.exec
  have hb := B.bytes
  have hr := B.returns
  have hts := atoms_spec (ws := wm_c_X5_freeShare) B.pre
  have hown : s.vm.findClass RX5 = some m.cls := findClass_of_methodNamed B.named
  have hlocks := B.notSynchronized
  have iRX5 : ∀ w ∈ u_ws RX5 TX5 9, w ∈ wm_c_X5_freeShare := by decide +kernel
  have iRX1 : ∀ w ∈ u_ws RX1 TX1 10, w ∈ wm_c_X5_freeShare := by decide +kernel
  subst hsz
  have hD := hD0.self (sz := s.heap.size)
  generalize hAe : va_A [(h0, .inr (12, [.ref o0, .int 0, .ref g0, .ref o2, .ref o3, .ref o4, .ref o5, .int 0, .ref o6])), (g0, .inr (8, [.ref g1, .ref g2, .ref g3, .ref g4, .ref g5, .ref g6, .int 0, .int 0, .int 0, .int 0]))] s.heap.size = A at hD hE ⊢
  have hA : ∀ q : Nat, s.heap.size ≤ q → A q := fun q h => by rw [← hAe]; exact Or.inr h
  have hS : va_S A s.heap s.heap [] := va_S.rf
  have hl := lv_entry ([.ref h0]) (n := 3) (Nat.le_of_ble_eq_true rfl)
  rw [lg_entry_eq]
  generalize (lg_sl ([.ref h0]) ++ List.replicate (3 - (lg_sl ([.ref h0])).length) Slot.unset).toArray = ls at hl ⊢
  have hl : lv_has ls 3 [(0, .ref h0)] := hl
  refine lv_aload_n hx hb dX5_freeShare_0 rfl (lv_at hl 0 rfl) ?_
  have hS0 := hS
  have hFc := va_free (wc := [(h0, .inr (12, [.ref o0, .int 0, .ref g0, .ref o2, .ref o3, .ref o4, .ref o5, .int 0, .ref o6])), (g0, .inr (8, [.ref g1, .ref g2, .ref g3, .ref g4, .ref g5, .ref g6, .int 0, .int 0, .int 0, .int 0]))]) hD hS hA [0, 1] rfl
  refine vx_callv (vx_runV (As := []) (rest := []) ⟨hx, hb, hml, hown, hts⟩ (c_X5_needGameOn l hl0 κ D (s.heap).size (h0) (o0) (g0) (o2) (o3) (o4) (o5) (o6) (g1) (g2) (g3) (g4) (g5) (g6) ) (cwV 0 hts gd_c_X5_freeShare_1 rfl rfl rfl (by decide +kernel) ⟨(Nat.le_of_ble_eq_true rfl), (Nat.le_of_ble_eq_true rfl)⟩) (preV hE hK hP hD hS hA [0, 1] rfl (by decide) [] rfl (va_recv hK hP (ci := 12) (q0 := 0) rfl rfl)) rfl rfl hl.1 rfl (lv_room (Nat.le_of_ble_eq_true rfl)) dX5_freeShare_1 ⟨(Nat.le_of_ble_eq_true rfl), (Nat.le_of_ble_eq_true rfl)⟩) hS (fun q _ h => hFc q h) hFc (fun q _ h => hFc q h) (fun E9 ce q9 u9 t H1 locs ht hvm _ hB hz1 hk1 hS hce hcv hcl => ?_) (fun _ _ _ _ _ _ hw => hw.elim)
  obtain ⟨rfl, hB⟩ := hB
  obtain ⟨hP, hD, hK⟩ := jn (wc := [(h0, .inr (12, [.ref o0, .int 0, .ref g0, .ref o2, .ref o3, .ref o4, .ref o5, .int 0, .ref o6])), (g0, .inr (8, [.ref g1, .ref g2, .ref g3, .ref g4, .ref g5, .ref g6, .int 0, .int 0, .int 0, .int 0]))]) (wr := []) (w1 := [(h0, .inr (12, [.ref o0, .int 0, .ref g0, .ref o2, .ref o3, .ref o4, .ref o5, .int 0, .ref o6])), (g0, .inr (8, [.ref g1, .ref g2, .ref g3, .ref g4, .ref g5, .ref g6, .int 0, .int 0, .int 0, .int 0]))]) (t1 := []) hP hD hK hS0 hA [0, 1] [] rfl rfl (by decide) (by decide) ht hvm hk1 hB
  generalize H1 = H at hP hS hce ⊢
  have hP : va_P D vwCl ([(h0, .inr (12, [.ref o0, .int 0, .ref g0, .ref o2, .ref o3, .ref o4, .ref o5, .int 0, .ref o6])), (g0, .inr (8, [.ref g1, .ref g2, .ref g3, .ref g4, .ref g5, .ref g6, .int 0, .int 0, .int 0, .int 0]))]) H := hP
  have hD : va_D A ([(h0, .inr (12, [.ref o0, .int 0, .ref g0, .ref o2, .ref o3, .ref o4, .ref o5, .int 0, .ref o6])), (g0, .inr (8, [.ref g1, .ref g2, .ref g3, .ref g4, .ref g5, .ref g6, .int 0, .int 0, .int 0, .int 0]))]) := hD
  have hK : va_K D vwCl [] s := hK
  refine vx_widen (k := 1) (n := 6) (Nat.le_of_ble_eq_true rfl) (Nat.le_of_ble_eq_true rfl) ?_
  exact vx_out (fun x hx => (htab x hx).elim) hlocks hce hcv hcl (fun t ht hal => ⟨(), trivial, ⟨rfl, PB.at hP hK hD hal ht [0, 1] rfl (by decide) [] rfl⟩, hS.F ht⟩) hS.2.2 (Nat.le_of_ble_eq_true rfl) (Nat.le_of_ble_eq_true rfl)

def wm_c_X5_seeds : List Cond := .code yX5_seeds cX5_seeds 2 (some .int) :: ([.code yX5_needBegun cX5_needBegun 1 none, .fieldLink RX5 19 "Sowingcourt" "game" "LSowingcourt$Game;", .fieldLink RX5 179 "Sowingcourt$Game" "begun" "Z", .classLink RX5 162 "java/lang/IllegalStateException", .initialized "java/lang/IllegalStateException", .methodLink RX5 187 yX5_needBegun, .instanceMethod yX5_needBegun, .selects RX5 yX5_needBegun yX5_needBegun, .initialized RX5] ++ wsX50 ++ wsX10 ++ (vx_atS RX5 166 "java/lang/IllegalStateException" supX).filter goodWord)
set_option maxRecDepth 20000 in
theorem gd_c_X5_seeds_1 : GoodIn wm_c_X5_seeds (wsV RX5 187 RX5 yX5_needBegun wm_c_X5_needBegun) := goodIn_of _ (by decide +kernel)
set_option maxHeartbeats 4000000 in
set_option maxRecDepth 100000 in
theorem c_X5_seeds (l : Launch) (hl0 : l.stackTraces = false) (κ : Nat → Nat) (D : va_G) (sz : Nat) (h0 : Nat) (o0 : Nat) (g0 : Nat) (o2 : Nat) (o3 : Nat) (o4 : Nat) (o5 : Nat) (o6 : Nat) (g1 : Nat) (g2 : Nat) (g3 : Nat) (g4 : Nat) (g5 : Nat) (g6 : Nat) (p0 : Int32)  : vx_Met l yX5_seeds wm_c_X5_seeds ({ frames := 9, cells := 1, slots := 6, locals := 260 }) (va_Pc [.ref h0, .int p0] (PC κ D [] [(h0, .inr (12, [.ref o0, .int 0, .ref g0, .ref o2, .ref o3, .ref o4, .ref o5, .int 0, .ref o6])), (g0, .inr (8, [.ref g1, .ref g2, .ref g3, .ref g4, .ref g5, .ref g6, .int 0, .int 0, .int 0, .int 0]))] sz)) (va_Qi (fun (_ : Int32) (_ : Unit) => False) (fun _ _ => True) (va_A [(h0, .inr (12, [.ref o0, .int 0, .ref g0, .ref o2, .ref o3, .ref o4, .ref o5, .int 0, .ref o6])), (g0, .inr (8, [.ref g1, .ref g2, .ref g3, .ref g4, .ref g5, .ref g6, .int 0, .int 0, .int 0, .int 0]))] sz)) (XQ "java/lang/IllegalStateException" D [] [(h0, .inr (12, [.ref o0, .int 0, .ref g0, .ref o2, .ref o3, .ref o4, .ref o5, .int 0, .ref o6])), (g0, .inr (8, [.ref g1, .ref g2, .ref g3, .ref g4, .ref g5, .ref g6, .int 0, .int 0, .int 0, .int 0]))] (va_A [(h0, .inr (12, [.ref o0, .int 0, .ref g0, .ref o2, .ref o3, .ref o4, .ref o5, .int 0, .ref o6])), (g0, .inr (8, [.ref g1, .ref g2, .ref g3, .ref g4, .ref g5, .ref g6, .int 0, .int 0, .int 0, .int 0]))] sz)) 1 6 (va_A [(h0, .inr (12, [.ref o0, .int 0, .ref g0, .ref o2, .ref o3, .ref o4, .ref o5, .int 0, .ref o6])), (g0, .inr (8, [.ref g1, .ref g2, .ref g3, .ref g4, .ref g5, .ref g6, .int 0, .int 0, .int 0, .int 0]))] sz) := by
  refine vx_ofW (cc := cX5_seeds) (maxL := 2) (ret := (some .int)) (by decide +kernel) rfl ?_
  intro p e s m args below meth c s₁ B hml htab hv
  obtain ⟨rfl, hsz, hP, hK, hD0, hE⟩ := hv
  have hx := B.exec
  have hb := B.bytes
  have hr := B.returns
  have hts := atoms_spec (ws := wm_c_X5_seeds) B.pre
  have hown : s.vm.findClass RX5 = some m.cls := findClass_of_methodNamed B.named
  have hlocks := B.notSynchronized
  have iRX5 : ∀ w ∈ u_ws RX5 TX5 9, w ∈ wm_c_X5_seeds := by decide +kernel
  have iRX1 : ∀ w ∈ u_ws RX1 TX1 10, w ∈ wm_c_X5_seeds := by decide +kernel
  subst hsz
  have hD := hD0.self (sz := s.heap.size)
  generalize hAe : va_A [(h0, .inr (12, [.ref o0, .int 0, .ref g0, .ref o2, .ref o3, .ref o4, .ref o5, .int 0, .ref o6])), (g0, .inr (8, [.ref g1, .ref g2, .ref g3, .ref g4, .ref g5, .ref g6, .int 0, .int 0, .int 0, .int 0]))] s.heap.size = A at hD hE ⊢
  have hA : ∀ q : Nat, s.heap.size ≤ q → A q := fun q h => by rw [← hAe]; exact Or.inr h
  have hS : va_S A s.heap s.heap [] := va_S.rf
  have hl := lv_entry ([.ref h0, .int p0]) (n := 2) (Nat.le_of_ble_eq_true rfl)
  rw [lg_entry_eq]
  generalize (lg_sl ([.ref h0, .int p0]) ++ List.replicate (2 - (lg_sl ([.ref h0, .int p0])).length) Slot.unset).toArray = ls at hl ⊢
  have hl : lv_has ls 2 [(0, .ref h0), (1, .int p0)] := hl
  refine lv_aload_n hx hb dX5_seeds_0 rfl (lv_at hl 0 rfl) ?_
  have hS0 := hS
  have hFc := va_free (wc := [(h0, .inr (12, [.ref o0, .int 0, .ref g0, .ref o2, .ref o3, .ref o4, .ref o5, .int 0, .ref o6])), (g0, .inr (8, [.ref g1, .ref g2, .ref g3, .ref g4, .ref g5, .ref g6, .int 0, .int 0, .int 0, .int 0]))]) hD hS hA [0, 1] rfl
  refine vx_callv (vx_runV (As := []) (rest := []) ⟨hx, hb, hml, hown, hts⟩ (c_X5_needBegun l hl0 κ D (s.heap).size (h0) (o0) (g0) (o2) (o3) (o4) (o5) (o6) (g1) (g2) (g3) (g4) (g5) (g6) ) (cwV 0 hts gd_c_X5_seeds_1 rfl rfl rfl (by decide +kernel) ⟨(Nat.le_of_ble_eq_true rfl), (Nat.le_of_ble_eq_true rfl)⟩) (preV hE hK hP hD hS hA [0, 1] rfl (by decide) [] rfl (va_recv hK hP (ci := 12) (q0 := 0) rfl rfl)) rfl rfl hl.1 rfl (lv_room (Nat.le_of_ble_eq_true rfl)) dX5_seeds_1 ⟨(Nat.le_of_ble_eq_true rfl), (Nat.le_of_ble_eq_true rfl)⟩) hS (fun q _ h => hFc q h) hFc (fun q _ h => hFc q h) (fun E9 ce q9 u9 t H1 locs ht hvm _ hB hz1 hk1 hS hce hcv hcl => ?_) (fun _ _ _ _ _ _ hw => hw.elim)
  obtain ⟨rfl, hB⟩ := hB
  obtain ⟨hP, hD, hK⟩ := jn (wc := [(h0, .inr (12, [.ref o0, .int 0, .ref g0, .ref o2, .ref o3, .ref o4, .ref o5, .int 0, .ref o6])), (g0, .inr (8, [.ref g1, .ref g2, .ref g3, .ref g4, .ref g5, .ref g6, .int 0, .int 0, .int 0, .int 0]))]) (wr := []) (w1 := [(h0, .inr (12, [.ref o0, .int 0, .ref g0, .ref o2, .ref o3, .ref o4, .ref o5, .int 0, .ref o6])), (g0, .inr (8, [.ref g1, .ref g2, .ref g3, .ref g4, .ref g5, .ref g6, .int 0, .int 0, .int 0, .int 0]))]) (t1 := []) hP hD hK hS0 hA [0, 1] [] rfl rfl (by decide) (by decide) ht hvm hk1 hB
  generalize H1 = H at hP hS hce ⊢
  have hP : va_P D vwCl ([(h0, .inr (12, [.ref o0, .int 0, .ref g0, .ref o2, .ref o3, .ref o4, .ref o5, .int 0, .ref o6])), (g0, .inr (8, [.ref g1, .ref g2, .ref g3, .ref g4, .ref g5, .ref g6, .int 0, .int 0, .int 0, .int 0]))]) H := hP
  have hD : va_D A ([(h0, .inr (12, [.ref o0, .int 0, .ref g0, .ref o2, .ref o3, .ref o4, .ref o5, .int 0, .ref o6])), (g0, .inr (8, [.ref g1, .ref g2, .ref g3, .ref g4, .ref g5, .ref g6, .int 0, .int 0, .int 0, .int 0]))]) := hD
  have hK : va_K D vwCl [] s := hK
  refine vx_widen (k := 1) (n := 6) (Nat.le_of_ble_eq_true rfl) (Nat.le_of_ble_eq_true rfl) ?_
  exact vx_out (fun x hx => (htab x hx).elim) hlocks hce hcv hcl (fun t ht hal => ⟨(), trivial, ⟨rfl, PB.at hP hK hD hal ht [0, 1] rfl (by decide) [] rfl⟩, hS.F ht⟩) hS.2.2 (Nat.le_of_ble_eq_true rfl) (Nat.le_of_ble_eq_true rfl)

def wm_c_X5_store : List Cond := .code yX5_store cX5_store 2 (some .int) :: ([.code yX5_needBegun cX5_needBegun 1 none, .fieldLink RX5 19 "Sowingcourt" "game" "LSowingcourt$Game;", .fieldLink RX5 179 "Sowingcourt$Game" "begun" "Z", .classLink RX5 162 "java/lang/IllegalStateException", .initialized "java/lang/IllegalStateException", .methodLink RX5 187 yX5_needBegun, .instanceMethod yX5_needBegun, .selects RX5 yX5_needBegun yX5_needBegun, .initialized RX5] ++ wsX50 ++ wsX10 ++ (vx_atS RX5 166 "java/lang/IllegalStateException" supX).filter goodWord)
set_option maxRecDepth 20000 in
theorem gd_c_X5_store_1 : GoodIn wm_c_X5_store (wsV RX5 187 RX5 yX5_needBegun wm_c_X5_needBegun) := goodIn_of _ (by decide +kernel)
set_option maxHeartbeats 4000000 in
set_option maxRecDepth 100000 in
theorem c_X5_store (l : Launch) (hl0 : l.stackTraces = false) (κ : Nat → Nat) (D : va_G) (sz : Nat) (h0 : Nat) (o0 : Nat) (g0 : Nat) (o2 : Nat) (o3 : Nat) (o4 : Nat) (o5 : Nat) (o6 : Nat) (g1 : Nat) (g2 : Nat) (g3 : Nat) (g4 : Nat) (g5 : Nat) (g6 : Nat) (p0 : Int32)  : vx_Met l yX5_store wm_c_X5_store ({ frames := 9, cells := 1, slots := 6, locals := 260 }) (va_Pc [.ref h0, .int p0] (PC κ D [] [(h0, .inr (12, [.ref o0, .int 0, .ref g0, .ref o2, .ref o3, .ref o4, .ref o5, .int 0, .ref o6])), (g0, .inr (8, [.ref g1, .ref g2, .ref g3, .ref g4, .ref g5, .ref g6, .int 0, .int 0, .int 0, .int 0]))] sz)) (va_Qi (fun (_ : Int32) (_ : Unit) => False) (fun _ _ => True) (va_A [(h0, .inr (12, [.ref o0, .int 0, .ref g0, .ref o2, .ref o3, .ref o4, .ref o5, .int 0, .ref o6])), (g0, .inr (8, [.ref g1, .ref g2, .ref g3, .ref g4, .ref g5, .ref g6, .int 0, .int 0, .int 0, .int 0]))] sz)) (XQ "java/lang/IllegalStateException" D [] [(h0, .inr (12, [.ref o0, .int 0, .ref g0, .ref o2, .ref o3, .ref o4, .ref o5, .int 0, .ref o6])), (g0, .inr (8, [.ref g1, .ref g2, .ref g3, .ref g4, .ref g5, .ref g6, .int 0, .int 0, .int 0, .int 0]))] (va_A [(h0, .inr (12, [.ref o0, .int 0, .ref g0, .ref o2, .ref o3, .ref o4, .ref o5, .int 0, .ref o6])), (g0, .inr (8, [.ref g1, .ref g2, .ref g3, .ref g4, .ref g5, .ref g6, .int 0, .int 0, .int 0, .int 0]))] sz)) 1 6 (va_A [(h0, .inr (12, [.ref o0, .int 0, .ref g0, .ref o2, .ref o3, .ref o4, .ref o5, .int 0, .ref o6])), (g0, .inr (8, [.ref g1, .ref g2, .ref g3, .ref g4, .ref g5, .ref g6, .int 0, .int 0, .int 0, .int 0]))] sz) := by
  refine vx_ofW (cc := cX5_store) (maxL := 2) (ret := (some .int)) (by decide +kernel) rfl ?_
  intro p e s m args below meth c s₁ B hml htab hv
  obtain ⟨rfl, hsz, hP, hK, hD0, hE⟩ := hv
  have hx := B.exec
  have hb := B.bytes
  have hr := B.returns
  have hts := atoms_spec (ws := wm_c_X5_store) B.pre
  have hown : s.vm.findClass RX5 = some m.cls := findClass_of_methodNamed B.named
  have hlocks := B.notSynchronized
  have iRX5 : ∀ w ∈ u_ws RX5 TX5 9, w ∈ wm_c_X5_store := by decide +kernel
  have iRX1 : ∀ w ∈ u_ws RX1 TX1 10, w ∈ wm_c_X5_store := by decide +kernel
  subst hsz
  have hD := hD0.self (sz := s.heap.size)
  generalize hAe : va_A [(h0, .inr (12, [.ref o0, .int 0, .ref g0, .ref o2, .ref o3, .ref o4, .ref o5, .int 0, .ref o6])), (g0, .inr (8, [.ref g1, .ref g2, .ref g3, .ref g4, .ref g5, .ref g6, .int 0, .int 0, .int 0, .int 0]))] s.heap.size = A at hD hE ⊢
  have hA : ∀ q : Nat, s.heap.size ≤ q → A q := fun q h => by rw [← hAe]; exact Or.inr h
  have hS : va_S A s.heap s.heap [] := va_S.rf
  have hl := lv_entry ([.ref h0, .int p0]) (n := 2) (Nat.le_of_ble_eq_true rfl)
  rw [lg_entry_eq]
  generalize (lg_sl ([.ref h0, .int p0]) ++ List.replicate (2 - (lg_sl ([.ref h0, .int p0])).length) Slot.unset).toArray = ls at hl ⊢
  have hl : lv_has ls 2 [(0, .ref h0), (1, .int p0)] := hl
  refine lv_aload_n hx hb dX5_store_0 rfl (lv_at hl 0 rfl) ?_
  have hS0 := hS
  have hFc := va_free (wc := [(h0, .inr (12, [.ref o0, .int 0, .ref g0, .ref o2, .ref o3, .ref o4, .ref o5, .int 0, .ref o6])), (g0, .inr (8, [.ref g1, .ref g2, .ref g3, .ref g4, .ref g5, .ref g6, .int 0, .int 0, .int 0, .int 0]))]) hD hS hA [0, 1] rfl
  refine vx_callv (vx_runV (As := []) (rest := []) ⟨hx, hb, hml, hown, hts⟩ (c_X5_needBegun l hl0 κ D (s.heap).size (h0) (o0) (g0) (o2) (o3) (o4) (o5) (o6) (g1) (g2) (g3) (g4) (g5) (g6) ) (cwV 0 hts gd_c_X5_store_1 rfl rfl rfl (by decide +kernel) ⟨(Nat.le_of_ble_eq_true rfl), (Nat.le_of_ble_eq_true rfl)⟩) (preV hE hK hP hD hS hA [0, 1] rfl (by decide) [] rfl (va_recv hK hP (ci := 12) (q0 := 0) rfl rfl)) rfl rfl hl.1 rfl (lv_room (Nat.le_of_ble_eq_true rfl)) dX5_store_1 ⟨(Nat.le_of_ble_eq_true rfl), (Nat.le_of_ble_eq_true rfl)⟩) hS (fun q _ h => hFc q h) hFc (fun q _ h => hFc q h) (fun E9 ce q9 u9 t H1 locs ht hvm _ hB hz1 hk1 hS hce hcv hcl => ?_) (fun _ _ _ _ _ _ hw => hw.elim)
  obtain ⟨rfl, hB⟩ := hB
  obtain ⟨hP, hD, hK⟩ := jn (wc := [(h0, .inr (12, [.ref o0, .int 0, .ref g0, .ref o2, .ref o3, .ref o4, .ref o5, .int 0, .ref o6])), (g0, .inr (8, [.ref g1, .ref g2, .ref g3, .ref g4, .ref g5, .ref g6, .int 0, .int 0, .int 0, .int 0]))]) (wr := []) (w1 := [(h0, .inr (12, [.ref o0, .int 0, .ref g0, .ref o2, .ref o3, .ref o4, .ref o5, .int 0, .ref o6])), (g0, .inr (8, [.ref g1, .ref g2, .ref g3, .ref g4, .ref g5, .ref g6, .int 0, .int 0, .int 0, .int 0]))]) (t1 := []) hP hD hK hS0 hA [0, 1] [] rfl rfl (by decide) (by decide) ht hvm hk1 hB
  generalize H1 = H at hP hS hce ⊢
  have hP : va_P D vwCl ([(h0, .inr (12, [.ref o0, .int 0, .ref g0, .ref o2, .ref o3, .ref o4, .ref o5, .int 0, .ref o6])), (g0, .inr (8, [.ref g1, .ref g2, .ref g3, .ref g4, .ref g5, .ref g6, .int 0, .int 0, .int 0, .int 0]))]) H := hP
  have hD : va_D A ([(h0, .inr (12, [.ref o0, .int 0, .ref g0, .ref o2, .ref o3, .ref o4, .ref o5, .int 0, .ref o6])), (g0, .inr (8, [.ref g1, .ref g2, .ref g3, .ref g4, .ref g5, .ref g6, .int 0, .int 0, .int 0, .int 0]))]) := hD
  have hK : va_K D vwCl [] s := hK
  refine vx_widen (k := 1) (n := 6) (Nat.le_of_ble_eq_true rfl) (Nat.le_of_ble_eq_true rfl) ?_
  exact vx_out (fun x hx => (htab x hx).elim) hlocks hce hcv hcl (fun t ht hal => ⟨(), trivial, ⟨rfl, PB.at hP hK hD hal ht [0, 1] rfl (by decide) [] rfl⟩, hS.F ht⟩) hS.2.2 (Nat.le_of_ble_eq_true rfl) (Nat.le_of_ble_eq_true rfl)

def wm_c_X5_isOver : List Cond := .code yX5_isOver cX5_isOver 1 (some .boolean) :: ([.code yX5_needBegun cX5_needBegun 1 none, .fieldLink RX5 19 "Sowingcourt" "game" "LSowingcourt$Game;", .fieldLink RX5 179 "Sowingcourt$Game" "begun" "Z", .classLink RX5 162 "java/lang/IllegalStateException", .initialized "java/lang/IllegalStateException", .methodLink RX5 187 yX5_needBegun, .instanceMethod yX5_needBegun, .selects RX5 yX5_needBegun yX5_needBegun, .initialized RX5] ++ wsX50 ++ wsX10 ++ (vx_atS RX5 166 "java/lang/IllegalStateException" supX).filter goodWord)
set_option maxRecDepth 20000 in
theorem gd_c_X5_isOver_1 : GoodIn wm_c_X5_isOver (wsV RX5 187 RX5 yX5_needBegun wm_c_X5_needBegun) := goodIn_of _ (by decide +kernel)
set_option maxHeartbeats 4000000 in
set_option maxRecDepth 100000 in
theorem c_X5_isOver (l : Launch) (hl0 : l.stackTraces = false) (κ : Nat → Nat) (D : va_G) (sz : Nat) (h0 : Nat) (o0 : Nat) (g0 : Nat) (o2 : Nat) (o3 : Nat) (o4 : Nat) (o5 : Nat) (o6 : Nat) (g1 : Nat) (g2 : Nat) (g3 : Nat) (g4 : Nat) (g5 : Nat) (g6 : Nat)  : vx_Met l yX5_isOver wm_c_X5_isOver ({ frames := 9, cells := 1, slots := 6, locals := 260 }) (va_Pc [.ref h0] (PC κ D [] [(h0, .inr (12, [.ref o0, .int 0, .ref g0, .ref o2, .ref o3, .ref o4, .ref o5, .int 0, .ref o6])), (g0, .inr (8, [.ref g1, .ref g2, .ref g3, .ref g4, .ref g5, .ref g6, .int 0, .int 0, .int 0, .int 0]))] sz)) (va_Qi (fun (_ : Int32) (_ : Unit) => False) (fun _ _ => True) (va_A [(h0, .inr (12, [.ref o0, .int 0, .ref g0, .ref o2, .ref o3, .ref o4, .ref o5, .int 0, .ref o6])), (g0, .inr (8, [.ref g1, .ref g2, .ref g3, .ref g4, .ref g5, .ref g6, .int 0, .int 0, .int 0, .int 0]))] sz)) (XQ "java/lang/IllegalStateException" D [] [(h0, .inr (12, [.ref o0, .int 0, .ref g0, .ref o2, .ref o3, .ref o4, .ref o5, .int 0, .ref o6])), (g0, .inr (8, [.ref g1, .ref g2, .ref g3, .ref g4, .ref g5, .ref g6, .int 0, .int 0, .int 0, .int 0]))] (va_A [(h0, .inr (12, [.ref o0, .int 0, .ref g0, .ref o2, .ref o3, .ref o4, .ref o5, .int 0, .ref o6])), (g0, .inr (8, [.ref g1, .ref g2, .ref g3, .ref g4, .ref g5, .ref g6, .int 0, .int 0, .int 0, .int 0]))] sz)) 1 6 (va_A [(h0, .inr (12, [.ref o0, .int 0, .ref g0, .ref o2, .ref o3, .ref o4, .ref o5, .int 0, .ref o6])), (g0, .inr (8, [.ref g1, .ref g2, .ref g3, .ref g4, .ref g5, .ref g6, .int 0, .int 0, .int 0, .int 0]))] sz) := by
  refine vx_ofW (cc := cX5_isOver) (maxL := 1) (ret := (some .boolean)) (by decide +kernel) rfl ?_
  intro p e s m args below meth c s₁ B hml htab hv
  obtain ⟨rfl, hsz, hP, hK, hD0, hE⟩ := hv
  have hx := B.exec
  have hb := B.bytes
  have hr := B.returns
  have hts := atoms_spec (ws := wm_c_X5_isOver) B.pre
  have hown : s.vm.findClass RX5 = some m.cls := findClass_of_methodNamed B.named
  have hlocks := B.notSynchronized
  have iRX5 : ∀ w ∈ u_ws RX5 TX5 9, w ∈ wm_c_X5_isOver := by decide +kernel
  have iRX1 : ∀ w ∈ u_ws RX1 TX1 10, w ∈ wm_c_X5_isOver := by decide +kernel
  subst hsz
  have hD := hD0.self (sz := s.heap.size)
  generalize hAe : va_A [(h0, .inr (12, [.ref o0, .int 0, .ref g0, .ref o2, .ref o3, .ref o4, .ref o5, .int 0, .ref o6])), (g0, .inr (8, [.ref g1, .ref g2, .ref g3, .ref g4, .ref g5, .ref g6, .int 0, .int 0, .int 0, .int 0]))] s.heap.size = A at hD hE ⊢
  have hA : ∀ q : Nat, s.heap.size ≤ q → A q := fun q h => by rw [← hAe]; exact Or.inr h
  have hS : va_S A s.heap s.heap [] := va_S.rf
  have hl := lv_entry ([.ref h0]) (n := 1) (Nat.le_of_ble_eq_true rfl)
  rw [lg_entry_eq]
  generalize (lg_sl ([.ref h0]) ++ List.replicate (1 - (lg_sl ([.ref h0])).length) Slot.unset).toArray = ls at hl ⊢
  have hl : lv_has ls 1 [(0, .ref h0)] := hl
  refine lv_aload_n hx hb dX5_isOver_0 rfl (lv_at hl 0 rfl) ?_
  have hS0 := hS
  have hFc := va_free (wc := [(h0, .inr (12, [.ref o0, .int 0, .ref g0, .ref o2, .ref o3, .ref o4, .ref o5, .int 0, .ref o6])), (g0, .inr (8, [.ref g1, .ref g2, .ref g3, .ref g4, .ref g5, .ref g6, .int 0, .int 0, .int 0, .int 0]))]) hD hS hA [0, 1] rfl
  refine vx_callv (vx_runV (As := []) (rest := []) ⟨hx, hb, hml, hown, hts⟩ (c_X5_needBegun l hl0 κ D (s.heap).size (h0) (o0) (g0) (o2) (o3) (o4) (o5) (o6) (g1) (g2) (g3) (g4) (g5) (g6) ) (cwV 0 hts gd_c_X5_isOver_1 rfl rfl rfl (by decide +kernel) ⟨(Nat.le_of_ble_eq_true rfl), (Nat.le_of_ble_eq_true rfl)⟩) (preV hE hK hP hD hS hA [0, 1] rfl (by decide) [] rfl (va_recv hK hP (ci := 12) (q0 := 0) rfl rfl)) rfl rfl hl.1 rfl (lv_room (Nat.le_of_ble_eq_true rfl)) dX5_isOver_1 ⟨(Nat.le_of_ble_eq_true rfl), (Nat.le_of_ble_eq_true rfl)⟩) hS (fun q _ h => hFc q h) hFc (fun q _ h => hFc q h) (fun E9 ce q9 u9 t H1 locs ht hvm _ hB hz1 hk1 hS hce hcv hcl => ?_) (fun _ _ _ _ _ _ hw => hw.elim)
  obtain ⟨rfl, hB⟩ := hB
  obtain ⟨hP, hD, hK⟩ := jn (wc := [(h0, .inr (12, [.ref o0, .int 0, .ref g0, .ref o2, .ref o3, .ref o4, .ref o5, .int 0, .ref o6])), (g0, .inr (8, [.ref g1, .ref g2, .ref g3, .ref g4, .ref g5, .ref g6, .int 0, .int 0, .int 0, .int 0]))]) (wr := []) (w1 := [(h0, .inr (12, [.ref o0, .int 0, .ref g0, .ref o2, .ref o3, .ref o4, .ref o5, .int 0, .ref o6])), (g0, .inr (8, [.ref g1, .ref g2, .ref g3, .ref g4, .ref g5, .ref g6, .int 0, .int 0, .int 0, .int 0]))]) (t1 := []) hP hD hK hS0 hA [0, 1] [] rfl rfl (by decide) (by decide) ht hvm hk1 hB
  generalize H1 = H at hP hS hce ⊢
  have hP : va_P D vwCl ([(h0, .inr (12, [.ref o0, .int 0, .ref g0, .ref o2, .ref o3, .ref o4, .ref o5, .int 0, .ref o6])), (g0, .inr (8, [.ref g1, .ref g2, .ref g3, .ref g4, .ref g5, .ref g6, .int 0, .int 0, .int 0, .int 0]))]) H := hP
  have hD : va_D A ([(h0, .inr (12, [.ref o0, .int 0, .ref g0, .ref o2, .ref o3, .ref o4, .ref o5, .int 0, .ref o6])), (g0, .inr (8, [.ref g1, .ref g2, .ref g3, .ref g4, .ref g5, .ref g6, .int 0, .int 0, .int 0, .int 0]))]) := hD
  have hK : va_K D vwCl [] s := hK
  refine vx_widen (k := 1) (n := 6) (Nat.le_of_ble_eq_true rfl) (Nat.le_of_ble_eq_true rfl) ?_
  exact vx_out (fun x hx => (htab x hx).elim) hlocks hce hcv hcl (fun t ht hal => ⟨(), trivial, ⟨rfl, PB.at hP hK hD hal ht [0, 1] rfl (by decide) [] rfl⟩, hS.F ht⟩) hS.2.2 (Nat.le_of_ble_eq_true rfl) (Nat.le_of_ble_eq_true rfl)

def wm_c_X5_winner : List Cond := .code yX5_winner cX5_winner 2 (some .int) :: ([.code yX5_needBegun cX5_needBegun 1 none, .fieldLink RX5 19 "Sowingcourt" "game" "LSowingcourt$Game;", .fieldLink RX5 179 "Sowingcourt$Game" "begun" "Z", .classLink RX5 162 "java/lang/IllegalStateException", .initialized "java/lang/IllegalStateException", .methodLink RX5 187 yX5_needBegun, .instanceMethod yX5_needBegun, .selects RX5 yX5_needBegun yX5_needBegun, .initialized RX5] ++ wsX50 ++ wsX10 ++ (vx_atS RX5 166 "java/lang/IllegalStateException" supX).filter goodWord)
set_option maxRecDepth 20000 in
theorem gd_c_X5_winner_1 : GoodIn wm_c_X5_winner (wsV RX5 187 RX5 yX5_needBegun wm_c_X5_needBegun) := goodIn_of _ (by decide +kernel)
set_option maxHeartbeats 4000000 in
set_option maxRecDepth 100000 in
theorem c_X5_winner (l : Launch) (hl0 : l.stackTraces = false) (κ : Nat → Nat) (D : va_G) (sz : Nat) (h0 : Nat) (o0 : Nat) (g0 : Nat) (o2 : Nat) (o3 : Nat) (o4 : Nat) (o5 : Nat) (o6 : Nat) (g1 : Nat) (g2 : Nat) (g3 : Nat) (g4 : Nat) (g5 : Nat) (g6 : Nat)  : vx_Met l yX5_winner wm_c_X5_winner ({ frames := 9, cells := 1, slots := 6, locals := 260 }) (va_Pc [.ref h0] (PC κ D [] [(h0, .inr (12, [.ref o0, .int 0, .ref g0, .ref o2, .ref o3, .ref o4, .ref o5, .int 0, .ref o6])), (g0, .inr (8, [.ref g1, .ref g2, .ref g3, .ref g4, .ref g5, .ref g6, .int 0, .int 0, .int 0, .int 0]))] sz)) (va_Qi (fun (_ : Int32) (_ : Unit) => False) (fun _ _ => True) (va_A [(h0, .inr (12, [.ref o0, .int 0, .ref g0, .ref o2, .ref o3, .ref o4, .ref o5, .int 0, .ref o6])), (g0, .inr (8, [.ref g1, .ref g2, .ref g3, .ref g4, .ref g5, .ref g6, .int 0, .int 0, .int 0, .int 0]))] sz)) (XQ "java/lang/IllegalStateException" D [] [(h0, .inr (12, [.ref o0, .int 0, .ref g0, .ref o2, .ref o3, .ref o4, .ref o5, .int 0, .ref o6])), (g0, .inr (8, [.ref g1, .ref g2, .ref g3, .ref g4, .ref g5, .ref g6, .int 0, .int 0, .int 0, .int 0]))] (va_A [(h0, .inr (12, [.ref o0, .int 0, .ref g0, .ref o2, .ref o3, .ref o4, .ref o5, .int 0, .ref o6])), (g0, .inr (8, [.ref g1, .ref g2, .ref g3, .ref g4, .ref g5, .ref g6, .int 0, .int 0, .int 0, .int 0]))] sz)) 1 6 (va_A [(h0, .inr (12, [.ref o0, .int 0, .ref g0, .ref o2, .ref o3, .ref o4, .ref o5, .int 0, .ref o6])), (g0, .inr (8, [.ref g1, .ref g2, .ref g3, .ref g4, .ref g5, .ref g6, .int 0, .int 0, .int 0, .int 0]))] sz) := by
  refine vx_ofW (cc := cX5_winner) (maxL := 2) (ret := (some .int)) (by decide +kernel) rfl ?_
  intro p e s m args below meth c s₁ B hml htab hv
  obtain ⟨rfl, hsz, hP, hK, hD0, hE⟩ := hv
  have hx := B.exec
  have hb := B.bytes
  have hr := B.returns
  have hts := atoms_spec (ws := wm_c_X5_winner) B.pre
  have hown : s.vm.findClass RX5 = some m.cls := findClass_of_methodNamed B.named
  have hlocks := B.notSynchronized
  have iRX5 : ∀ w ∈ u_ws RX5 TX5 9, w ∈ wm_c_X5_winner := by decide +kernel
  have iRX1 : ∀ w ∈ u_ws RX1 TX1 10, w ∈ wm_c_X5_winner := by decide +kernel
  subst hsz
  have hD := hD0.self (sz := s.heap.size)
  generalize hAe : va_A [(h0, .inr (12, [.ref o0, .int 0, .ref g0, .ref o2, .ref o3, .ref o4, .ref o5, .int 0, .ref o6])), (g0, .inr (8, [.ref g1, .ref g2, .ref g3, .ref g4, .ref g5, .ref g6, .int 0, .int 0, .int 0, .int 0]))] s.heap.size = A at hD hE ⊢
  have hA : ∀ q : Nat, s.heap.size ≤ q → A q := fun q h => by rw [← hAe]; exact Or.inr h
  have hS : va_S A s.heap s.heap [] := va_S.rf
  have hl := lv_entry ([.ref h0]) (n := 2) (Nat.le_of_ble_eq_true rfl)
  rw [lg_entry_eq]
  generalize (lg_sl ([.ref h0]) ++ List.replicate (2 - (lg_sl ([.ref h0])).length) Slot.unset).toArray = ls at hl ⊢
  have hl : lv_has ls 2 [(0, .ref h0)] := hl
  refine lv_aload_n hx hb dX5_winner_0 rfl (lv_at hl 0 rfl) ?_
  have hS0 := hS
  have hFc := va_free (wc := [(h0, .inr (12, [.ref o0, .int 0, .ref g0, .ref o2, .ref o3, .ref o4, .ref o5, .int 0, .ref o6])), (g0, .inr (8, [.ref g1, .ref g2, .ref g3, .ref g4, .ref g5, .ref g6, .int 0, .int 0, .int 0, .int 0]))]) hD hS hA [0, 1] rfl
  refine vx_callv (vx_runV (As := []) (rest := []) ⟨hx, hb, hml, hown, hts⟩ (c_X5_needBegun l hl0 κ D (s.heap).size (h0) (o0) (g0) (o2) (o3) (o4) (o5) (o6) (g1) (g2) (g3) (g4) (g5) (g6) ) (cwV 0 hts gd_c_X5_winner_1 rfl rfl rfl (by decide +kernel) ⟨(Nat.le_of_ble_eq_true rfl), (Nat.le_of_ble_eq_true rfl)⟩) (preV hE hK hP hD hS hA [0, 1] rfl (by decide) [] rfl (va_recv hK hP (ci := 12) (q0 := 0) rfl rfl)) rfl rfl hl.1 rfl (lv_room (Nat.le_of_ble_eq_true rfl)) dX5_winner_1 ⟨(Nat.le_of_ble_eq_true rfl), (Nat.le_of_ble_eq_true rfl)⟩) hS (fun q _ h => hFc q h) hFc (fun q _ h => hFc q h) (fun E9 ce q9 u9 t H1 locs ht hvm _ hB hz1 hk1 hS hce hcv hcl => ?_) (fun _ _ _ _ _ _ hw => hw.elim)
  obtain ⟨rfl, hB⟩ := hB
  obtain ⟨hP, hD, hK⟩ := jn (wc := [(h0, .inr (12, [.ref o0, .int 0, .ref g0, .ref o2, .ref o3, .ref o4, .ref o5, .int 0, .ref o6])), (g0, .inr (8, [.ref g1, .ref g2, .ref g3, .ref g4, .ref g5, .ref g6, .int 0, .int 0, .int 0, .int 0]))]) (wr := []) (w1 := [(h0, .inr (12, [.ref o0, .int 0, .ref g0, .ref o2, .ref o3, .ref o4, .ref o5, .int 0, .ref o6])), (g0, .inr (8, [.ref g1, .ref g2, .ref g3, .ref g4, .ref g5, .ref g6, .int 0, .int 0, .int 0, .int 0]))]) (t1 := []) hP hD hK hS0 hA [0, 1] [] rfl rfl (by decide) (by decide) ht hvm hk1 hB
  generalize H1 = H at hP hS hce ⊢
  have hP : va_P D vwCl ([(h0, .inr (12, [.ref o0, .int 0, .ref g0, .ref o2, .ref o3, .ref o4, .ref o5, .int 0, .ref o6])), (g0, .inr (8, [.ref g1, .ref g2, .ref g3, .ref g4, .ref g5, .ref g6, .int 0, .int 0, .int 0, .int 0]))]) H := hP
  have hD : va_D A ([(h0, .inr (12, [.ref o0, .int 0, .ref g0, .ref o2, .ref o3, .ref o4, .ref o5, .int 0, .ref o6])), (g0, .inr (8, [.ref g1, .ref g2, .ref g3, .ref g4, .ref g5, .ref g6, .int 0, .int 0, .int 0, .int 0]))]) := hD
  have hK : va_K D vwCl [] s := hK
  refine vx_widen (k := 1) (n := 6) (Nat.le_of_ble_eq_true rfl) (Nat.le_of_ble_eq_true rfl) ?_
  exact vx_out (fun x hx => (htab x hx).elim) hlocks hce hcv hcl (fun t ht hal => ⟨(), trivial, ⟨rfl, PB.at hP hK hD hal ht [0, 1] rfl (by decide) [] rfl⟩, hS.F ht⟩) hS.2.2 (Nat.le_of_ble_eq_true rfl) (Nat.le_of_ble_eq_true rfl)

def wm_c_X5_laps : List Cond := .code yX5_laps cX5_laps 1 (some .int) :: ([.code yX5_needBegun cX5_needBegun 1 none, .fieldLink RX5 19 "Sowingcourt" "game" "LSowingcourt$Game;", .fieldLink RX5 179 "Sowingcourt$Game" "begun" "Z", .classLink RX5 162 "java/lang/IllegalStateException", .initialized "java/lang/IllegalStateException", .methodLink RX5 187 yX5_needBegun, .instanceMethod yX5_needBegun, .selects RX5 yX5_needBegun yX5_needBegun, .initialized RX5] ++ wsX50 ++ wsX10 ++ (vx_atS RX5 166 "java/lang/IllegalStateException" supX).filter goodWord)
set_option maxRecDepth 20000 in
theorem gd_c_X5_laps_1 : GoodIn wm_c_X5_laps (wsV RX5 187 RX5 yX5_needBegun wm_c_X5_needBegun) := goodIn_of _ (by decide +kernel)
set_option maxHeartbeats 4000000 in
set_option maxRecDepth 100000 in
theorem c_X5_laps (l : Launch) (hl0 : l.stackTraces = false) (κ : Nat → Nat) (D : va_G) (sz : Nat) (h0 : Nat) (o0 : Nat) (g0 : Nat) (o2 : Nat) (o3 : Nat) (o4 : Nat) (o5 : Nat) (o6 : Nat) (g1 : Nat) (g2 : Nat) (g3 : Nat) (g4 : Nat) (g5 : Nat) (g6 : Nat)  : vx_Met l yX5_laps wm_c_X5_laps ({ frames := 9, cells := 1, slots := 6, locals := 260 }) (va_Pc [.ref h0] (PC κ D [] [(h0, .inr (12, [.ref o0, .int 0, .ref g0, .ref o2, .ref o3, .ref o4, .ref o5, .int 0, .ref o6])), (g0, .inr (8, [.ref g1, .ref g2, .ref g3, .ref g4, .ref g5, .ref g6, .int 0, .int 0, .int 0, .int 0]))] sz)) (va_Qi (fun (_ : Int32) (_ : Unit) => False) (fun _ _ => True) (va_A [(h0, .inr (12, [.ref o0, .int 0, .ref g0, .ref o2, .ref o3, .ref o4, .ref o5, .int 0, .ref o6])), (g0, .inr (8, [.ref g1, .ref g2, .ref g3, .ref g4, .ref g5, .ref g6, .int 0, .int 0, .int 0, .int 0]))] sz)) (XQ "java/lang/IllegalStateException" D [] [(h0, .inr (12, [.ref o0, .int 0, .ref g0, .ref o2, .ref o3, .ref o4, .ref o5, .int 0, .ref o6])), (g0, .inr (8, [.ref g1, .ref g2, .ref g3, .ref g4, .ref g5, .ref g6, .int 0, .int 0, .int 0, .int 0]))] (va_A [(h0, .inr (12, [.ref o0, .int 0, .ref g0, .ref o2, .ref o3, .ref o4, .ref o5, .int 0, .ref o6])), (g0, .inr (8, [.ref g1, .ref g2, .ref g3, .ref g4, .ref g5, .ref g6, .int 0, .int 0, .int 0, .int 0]))] sz)) 1 6 (va_A [(h0, .inr (12, [.ref o0, .int 0, .ref g0, .ref o2, .ref o3, .ref o4, .ref o5, .int 0, .ref o6])), (g0, .inr (8, [.ref g1, .ref g2, .ref g3, .ref g4, .ref g5, .ref g6, .int 0, .int 0, .int 0, .int 0]))] sz) := by
  refine vx_ofW (cc := cX5_laps) (maxL := 1) (ret := (some .int)) (by decide +kernel) rfl ?_
  intro p e s m args below meth c s₁ B hml htab hv
  obtain ⟨rfl, hsz, hP, hK, hD0, hE⟩ := hv
  have hx := B.exec
  have hb := B.bytes
  have hr := B.returns
  have hts := atoms_spec (ws := wm_c_X5_laps) B.pre
  have hown : s.vm.findClass RX5 = some m.cls := findClass_of_methodNamed B.named
  have hlocks := B.notSynchronized
  have iRX5 : ∀ w ∈ u_ws RX5 TX5 9, w ∈ wm_c_X5_laps := by decide +kernel
  have iRX1 : ∀ w ∈ u_ws RX1 TX1 10, w ∈ wm_c_X5_laps := by decide +kernel
  subst hsz
  have hD := hD0.self (sz := s.heap.size)
  generalize hAe : va_A [(h0, .inr (12, [.ref o0, .int 0, .ref g0, .ref o2, .ref o3, .ref o4, .ref o5, .int 0, .ref o6])), (g0, .inr (8, [.ref g1, .ref g2, .ref g3, .ref g4, .ref g5, .ref g6, .int 0, .int 0, .int 0, .int 0]))] s.heap.size = A at hD hE ⊢
  have hA : ∀ q : Nat, s.heap.size ≤ q → A q := fun q h => by rw [← hAe]; exact Or.inr h
  have hS : va_S A s.heap s.heap [] := va_S.rf
  have hl := lv_entry ([.ref h0]) (n := 1) (Nat.le_of_ble_eq_true rfl)
  rw [lg_entry_eq]
  generalize (lg_sl ([.ref h0]) ++ List.replicate (1 - (lg_sl ([.ref h0])).length) Slot.unset).toArray = ls at hl ⊢
  have hl : lv_has ls 1 [(0, .ref h0)] := hl
  refine lv_aload_n hx hb dX5_laps_0 rfl (lv_at hl 0 rfl) ?_
  have hS0 := hS
  have hFc := va_free (wc := [(h0, .inr (12, [.ref o0, .int 0, .ref g0, .ref o2, .ref o3, .ref o4, .ref o5, .int 0, .ref o6])), (g0, .inr (8, [.ref g1, .ref g2, .ref g3, .ref g4, .ref g5, .ref g6, .int 0, .int 0, .int 0, .int 0]))]) hD hS hA [0, 1] rfl
  refine vx_callv (vx_runV (As := []) (rest := []) ⟨hx, hb, hml, hown, hts⟩ (c_X5_needBegun l hl0 κ D (s.heap).size (h0) (o0) (g0) (o2) (o3) (o4) (o5) (o6) (g1) (g2) (g3) (g4) (g5) (g6) ) (cwV 0 hts gd_c_X5_laps_1 rfl rfl rfl (by decide +kernel) ⟨(Nat.le_of_ble_eq_true rfl), (Nat.le_of_ble_eq_true rfl)⟩) (preV hE hK hP hD hS hA [0, 1] rfl (by decide) [] rfl (va_recv hK hP (ci := 12) (q0 := 0) rfl rfl)) rfl rfl hl.1 rfl (lv_room (Nat.le_of_ble_eq_true rfl)) dX5_laps_1 ⟨(Nat.le_of_ble_eq_true rfl), (Nat.le_of_ble_eq_true rfl)⟩) hS (fun q _ h => hFc q h) hFc (fun q _ h => hFc q h) (fun E9 ce q9 u9 t H1 locs ht hvm _ hB hz1 hk1 hS hce hcv hcl => ?_) (fun _ _ _ _ _ _ hw => hw.elim)
  obtain ⟨rfl, hB⟩ := hB
  obtain ⟨hP, hD, hK⟩ := jn (wc := [(h0, .inr (12, [.ref o0, .int 0, .ref g0, .ref o2, .ref o3, .ref o4, .ref o5, .int 0, .ref o6])), (g0, .inr (8, [.ref g1, .ref g2, .ref g3, .ref g4, .ref g5, .ref g6, .int 0, .int 0, .int 0, .int 0]))]) (wr := []) (w1 := [(h0, .inr (12, [.ref o0, .int 0, .ref g0, .ref o2, .ref o3, .ref o4, .ref o5, .int 0, .ref o6])), (g0, .inr (8, [.ref g1, .ref g2, .ref g3, .ref g4, .ref g5, .ref g6, .int 0, .int 0, .int 0, .int 0]))]) (t1 := []) hP hD hK hS0 hA [0, 1] [] rfl rfl (by decide) (by decide) ht hvm hk1 hB
  generalize H1 = H at hP hS hce ⊢
  have hP : va_P D vwCl ([(h0, .inr (12, [.ref o0, .int 0, .ref g0, .ref o2, .ref o3, .ref o4, .ref o5, .int 0, .ref o6])), (g0, .inr (8, [.ref g1, .ref g2, .ref g3, .ref g4, .ref g5, .ref g6, .int 0, .int 0, .int 0, .int 0]))]) H := hP
  have hD : va_D A ([(h0, .inr (12, [.ref o0, .int 0, .ref g0, .ref o2, .ref o3, .ref o4, .ref o5, .int 0, .ref o6])), (g0, .inr (8, [.ref g1, .ref g2, .ref g3, .ref g4, .ref g5, .ref g6, .int 0, .int 0, .int 0, .int 0]))]) := hD
  have hK : va_K D vwCl [] s := hK
  refine vx_widen (k := 1) (n := 6) (Nat.le_of_ble_eq_true rfl) (Nat.le_of_ble_eq_true rfl) ?_
  exact vx_out (fun x hx => (htab x hx).elim) hlocks hce hcv hcl (fun t ht hal => ⟨(), trivial, ⟨rfl, PB.at hP hK hD hal ht [0, 1] rfl (by decide) [] rfl⟩, hS.F ht⟩) hS.2.2 (Nat.le_of_ble_eq_true rfl) (Nat.le_of_ble_eq_true rfl)

def wm_c_X5_length : List Cond := .code yX5_length cX5_length 1 (some .int) :: ([.code yX5_needBegun cX5_needBegun 1 none, .fieldLink RX5 19 "Sowingcourt" "game" "LSowingcourt$Game;", .fieldLink RX5 179 "Sowingcourt$Game" "begun" "Z", .classLink RX5 162 "java/lang/IllegalStateException", .initialized "java/lang/IllegalStateException", .methodLink RX5 187 yX5_needBegun, .instanceMethod yX5_needBegun, .selects RX5 yX5_needBegun yX5_needBegun, .initialized RX5] ++ wsX50 ++ wsX10 ++ (vx_atS RX5 166 "java/lang/IllegalStateException" supX).filter goodWord)
set_option maxRecDepth 20000 in
theorem gd_c_X5_length_1 : GoodIn wm_c_X5_length (wsV RX5 187 RX5 yX5_needBegun wm_c_X5_needBegun) := goodIn_of _ (by decide +kernel)
set_option maxHeartbeats 4000000 in
set_option maxRecDepth 100000 in
theorem c_X5_length (l : Launch) (hl0 : l.stackTraces = false) (κ : Nat → Nat) (D : va_G) (sz : Nat) (h0 : Nat) (o0 : Nat) (g0 : Nat) (o2 : Nat) (o3 : Nat) (o4 : Nat) (o5 : Nat) (o6 : Nat) (g1 : Nat) (g2 : Nat) (g3 : Nat) (g4 : Nat) (g5 : Nat) (g6 : Nat)  : vx_Met l yX5_length wm_c_X5_length ({ frames := 9, cells := 1, slots := 6, locals := 260 }) (va_Pc [.ref h0] (PC κ D [] [(h0, .inr (12, [.ref o0, .int 0, .ref g0, .ref o2, .ref o3, .ref o4, .ref o5, .int 0, .ref o6])), (g0, .inr (8, [.ref g1, .ref g2, .ref g3, .ref g4, .ref g5, .ref g6, .int 0, .int 0, .int 0, .int 0]))] sz)) (va_Qi (fun (_ : Int32) (_ : Unit) => False) (fun _ _ => True) (va_A [(h0, .inr (12, [.ref o0, .int 0, .ref g0, .ref o2, .ref o3, .ref o4, .ref o5, .int 0, .ref o6])), (g0, .inr (8, [.ref g1, .ref g2, .ref g3, .ref g4, .ref g5, .ref g6, .int 0, .int 0, .int 0, .int 0]))] sz)) (XQ "java/lang/IllegalStateException" D [] [(h0, .inr (12, [.ref o0, .int 0, .ref g0, .ref o2, .ref o3, .ref o4, .ref o5, .int 0, .ref o6])), (g0, .inr (8, [.ref g1, .ref g2, .ref g3, .ref g4, .ref g5, .ref g6, .int 0, .int 0, .int 0, .int 0]))] (va_A [(h0, .inr (12, [.ref o0, .int 0, .ref g0, .ref o2, .ref o3, .ref o4, .ref o5, .int 0, .ref o6])), (g0, .inr (8, [.ref g1, .ref g2, .ref g3, .ref g4, .ref g5, .ref g6, .int 0, .int 0, .int 0, .int 0]))] sz)) 1 6 (va_A [(h0, .inr (12, [.ref o0, .int 0, .ref g0, .ref o2, .ref o3, .ref o4, .ref o5, .int 0, .ref o6])), (g0, .inr (8, [.ref g1, .ref g2, .ref g3, .ref g4, .ref g5, .ref g6, .int 0, .int 0, .int 0, .int 0]))] sz) := by
  refine vx_ofW (cc := cX5_length) (maxL := 1) (ret := (some .int)) (by decide +kernel) rfl ?_
  intro p e s m args below meth c s₁ B hml htab hv
  obtain ⟨rfl, hsz, hP, hK, hD0, hE⟩ := hv
  have hx := B.exec
  have hb := B.bytes
  have hr := B.returns
  have hts := atoms_spec (ws := wm_c_X5_length) B.pre
  have hown : s.vm.findClass RX5 = some m.cls := findClass_of_methodNamed B.named
  have hlocks := B.notSynchronized
  have iRX5 : ∀ w ∈ u_ws RX5 TX5 9, w ∈ wm_c_X5_length := by decide +kernel
  have iRX1 : ∀ w ∈ u_ws RX1 TX1 10, w ∈ wm_c_X5_length := by decide +kernel
  subst hsz
  have hD := hD0.self (sz := s.heap.size)
  generalize hAe : va_A [(h0, .inr (12, [.ref o0, .int 0, .ref g0, .ref o2, .ref o3, .ref o4, .ref o5, .int 0, .ref o6])), (g0, .inr (8, [.ref g1, .ref g2, .ref g3, .ref g4, .ref g5, .ref g6, .int 0, .int 0, .int 0, .int 0]))] s.heap.size = A at hD hE ⊢
  have hA : ∀ q : Nat, s.heap.size ≤ q → A q := fun q h => by rw [← hAe]; exact Or.inr h
  have hS : va_S A s.heap s.heap [] := va_S.rf
  have hl := lv_entry ([.ref h0]) (n := 1) (Nat.le_of_ble_eq_true rfl)
  rw [lg_entry_eq]
  generalize (lg_sl ([.ref h0]) ++ List.replicate (1 - (lg_sl ([.ref h0])).length) Slot.unset).toArray = ls at hl ⊢
  have hl : lv_has ls 1 [(0, .ref h0)] := hl
  refine lv_aload_n hx hb dX5_length_0 rfl (lv_at hl 0 rfl) ?_
  have hS0 := hS
  have hFc := va_free (wc := [(h0, .inr (12, [.ref o0, .int 0, .ref g0, .ref o2, .ref o3, .ref o4, .ref o5, .int 0, .ref o6])), (g0, .inr (8, [.ref g1, .ref g2, .ref g3, .ref g4, .ref g5, .ref g6, .int 0, .int 0, .int 0, .int 0]))]) hD hS hA [0, 1] rfl
  refine vx_callv (vx_runV (As := []) (rest := []) ⟨hx, hb, hml, hown, hts⟩ (c_X5_needBegun l hl0 κ D (s.heap).size (h0) (o0) (g0) (o2) (o3) (o4) (o5) (o6) (g1) (g2) (g3) (g4) (g5) (g6) ) (cwV 0 hts gd_c_X5_length_1 rfl rfl rfl (by decide +kernel) ⟨(Nat.le_of_ble_eq_true rfl), (Nat.le_of_ble_eq_true rfl)⟩) (preV hE hK hP hD hS hA [0, 1] rfl (by decide) [] rfl (va_recv hK hP (ci := 12) (q0 := 0) rfl rfl)) rfl rfl hl.1 rfl (lv_room (Nat.le_of_ble_eq_true rfl)) dX5_length_1 ⟨(Nat.le_of_ble_eq_true rfl), (Nat.le_of_ble_eq_true rfl)⟩) hS (fun q _ h => hFc q h) hFc (fun q _ h => hFc q h) (fun E9 ce q9 u9 t H1 locs ht hvm _ hB hz1 hk1 hS hce hcv hcl => ?_) (fun _ _ _ _ _ _ hw => hw.elim)
  obtain ⟨rfl, hB⟩ := hB
  obtain ⟨hP, hD, hK⟩ := jn (wc := [(h0, .inr (12, [.ref o0, .int 0, .ref g0, .ref o2, .ref o3, .ref o4, .ref o5, .int 0, .ref o6])), (g0, .inr (8, [.ref g1, .ref g2, .ref g3, .ref g4, .ref g5, .ref g6, .int 0, .int 0, .int 0, .int 0]))]) (wr := []) (w1 := [(h0, .inr (12, [.ref o0, .int 0, .ref g0, .ref o2, .ref o3, .ref o4, .ref o5, .int 0, .ref o6])), (g0, .inr (8, [.ref g1, .ref g2, .ref g3, .ref g4, .ref g5, .ref g6, .int 0, .int 0, .int 0, .int 0]))]) (t1 := []) hP hD hK hS0 hA [0, 1] [] rfl rfl (by decide) (by decide) ht hvm hk1 hB
  generalize H1 = H at hP hS hce ⊢
  have hP : va_P D vwCl ([(h0, .inr (12, [.ref o0, .int 0, .ref g0, .ref o2, .ref o3, .ref o4, .ref o5, .int 0, .ref o6])), (g0, .inr (8, [.ref g1, .ref g2, .ref g3, .ref g4, .ref g5, .ref g6, .int 0, .int 0, .int 0, .int 0]))]) H := hP
  have hD : va_D A ([(h0, .inr (12, [.ref o0, .int 0, .ref g0, .ref o2, .ref o3, .ref o4, .ref o5, .int 0, .ref o6])), (g0, .inr (8, [.ref g1, .ref g2, .ref g3, .ref g4, .ref g5, .ref g6, .int 0, .int 0, .int 0, .int 0]))]) := hD
  have hK : va_K D vwCl [] s := hK
  refine vx_widen (k := 1) (n := 6) (Nat.le_of_ble_eq_true rfl) (Nat.le_of_ble_eq_true rfl) ?_
  exact vx_out (fun x hx => (htab x hx).elim) hlocks hce hcv hcl (fun t ht hal => ⟨(), trivial, ⟨rfl, PB.at hP hK hD hal ht [0, 1] rfl (by decide) [] rfl⟩, hS.F ht⟩) hS.2.2 (Nat.le_of_ble_eq_true rfl) (Nat.le_of_ble_eq_true rfl)

def wm_c_X5_times : List Cond := .code yX5_times cX5_times 1 (some .int) :: ([.code yX5_needBegun cX5_needBegun 1 none, .fieldLink RX5 19 "Sowingcourt" "game" "LSowingcourt$Game;", .fieldLink RX5 179 "Sowingcourt$Game" "begun" "Z", .classLink RX5 162 "java/lang/IllegalStateException", .initialized "java/lang/IllegalStateException", .methodLink RX5 187 yX5_needBegun, .instanceMethod yX5_needBegun, .selects RX5 yX5_needBegun yX5_needBegun, .initialized RX5] ++ wsX50 ++ wsX10 ++ (vx_atS RX5 166 "java/lang/IllegalStateException" supX).filter goodWord)
set_option maxRecDepth 20000 in
theorem gd_c_X5_times_1 : GoodIn wm_c_X5_times (wsV RX5 187 RX5 yX5_needBegun wm_c_X5_needBegun) := goodIn_of _ (by decide +kernel)
set_option maxHeartbeats 4000000 in
set_option maxRecDepth 100000 in
theorem c_X5_times (l : Launch) (hl0 : l.stackTraces = false) (κ : Nat → Nat) (D : va_G) (sz : Nat) (h0 : Nat) (o0 : Nat) (g0 : Nat) (o2 : Nat) (o3 : Nat) (o4 : Nat) (o5 : Nat) (o6 : Nat) (g1 : Nat) (g2 : Nat) (g3 : Nat) (g4 : Nat) (g5 : Nat) (g6 : Nat)  : vx_Met l yX5_times wm_c_X5_times ({ frames := 9, cells := 1, slots := 6, locals := 260 }) (va_Pc [.ref h0] (PC κ D [] [(h0, .inr (12, [.ref o0, .int 0, .ref g0, .ref o2, .ref o3, .ref o4, .ref o5, .int 0, .ref o6])), (g0, .inr (8, [.ref g1, .ref g2, .ref g3, .ref g4, .ref g5, .ref g6, .int 0, .int 0, .int 0, .int 0]))] sz)) (va_Qi (fun (_ : Int32) (_ : Unit) => False) (fun _ _ => True) (va_A [(h0, .inr (12, [.ref o0, .int 0, .ref g0, .ref o2, .ref o3, .ref o4, .ref o5, .int 0, .ref o6])), (g0, .inr (8, [.ref g1, .ref g2, .ref g3, .ref g4, .ref g5, .ref g6, .int 0, .int 0, .int 0, .int 0]))] sz)) (XQ "java/lang/IllegalStateException" D [] [(h0, .inr (12, [.ref o0, .int 0, .ref g0, .ref o2, .ref o3, .ref o4, .ref o5, .int 0, .ref o6])), (g0, .inr (8, [.ref g1, .ref g2, .ref g3, .ref g4, .ref g5, .ref g6, .int 0, .int 0, .int 0, .int 0]))] (va_A [(h0, .inr (12, [.ref o0, .int 0, .ref g0, .ref o2, .ref o3, .ref o4, .ref o5, .int 0, .ref o6])), (g0, .inr (8, [.ref g1, .ref g2, .ref g3, .ref g4, .ref g5, .ref g6, .int 0, .int 0, .int 0, .int 0]))] sz)) 1 6 (va_A [(h0, .inr (12, [.ref o0, .int 0, .ref g0, .ref o2, .ref o3, .ref o4, .ref o5, .int 0, .ref o6])), (g0, .inr (8, [.ref g1, .ref g2, .ref g3, .ref g4, .ref g5, .ref g6, .int 0, .int 0, .int 0, .int 0]))] sz) := by
  refine vx_ofW (cc := cX5_times) (maxL := 1) (ret := (some .int)) (by decide +kernel) rfl ?_
  intro p e s m args below meth c s₁ B hml htab hv
  obtain ⟨rfl, hsz, hP, hK, hD0, hE⟩ := hv
  have hx := B.exec
  have hb := B.bytes
  have hr := B.returns
  have hts := atoms_spec (ws := wm_c_X5_times) B.pre
  have hown : s.vm.findClass RX5 = some m.cls := findClass_of_methodNamed B.named
  have hlocks := B.notSynchronized
  have iRX5 : ∀ w ∈ u_ws RX5 TX5 9, w ∈ wm_c_X5_times := by decide +kernel
  have iRX1 : ∀ w ∈ u_ws RX1 TX1 10, w ∈ wm_c_X5_times := by decide +kernel
  subst hsz
  have hD := hD0.self (sz := s.heap.size)
  generalize hAe : va_A [(h0, .inr (12, [.ref o0, .int 0, .ref g0, .ref o2, .ref o3, .ref o4, .ref o5, .int 0, .ref o6])), (g0, .inr (8, [.ref g1, .ref g2, .ref g3, .ref g4, .ref g5, .ref g6, .int 0, .int 0, .int 0, .int 0]))] s.heap.size = A at hD hE ⊢
  have hA : ∀ q : Nat, s.heap.size ≤ q → A q := fun q h => by rw [← hAe]; exact Or.inr h
  have hS : va_S A s.heap s.heap [] := va_S.rf
  have hl := lv_entry ([.ref h0]) (n := 1) (Nat.le_of_ble_eq_true rfl)
  rw [lg_entry_eq]
  generalize (lg_sl ([.ref h0]) ++ List.replicate (1 - (lg_sl ([.ref h0])).length) Slot.unset).toArray = ls at hl ⊢
  have hl : lv_has ls 1 [(0, .ref h0)] := hl
  refine lv_aload_n hx hb dX5_times_0 rfl (lv_at hl 0 rfl) ?_
  have hS0 := hS
  have hFc := va_free (wc := [(h0, .inr (12, [.ref o0, .int 0, .ref g0, .ref o2, .ref o3, .ref o4, .ref o5, .int 0, .ref o6])), (g0, .inr (8, [.ref g1, .ref g2, .ref g3, .ref g4, .ref g5, .ref g6, .int 0, .int 0, .int 0, .int 0]))]) hD hS hA [0, 1] rfl
  refine vx_callv (vx_runV (As := []) (rest := []) ⟨hx, hb, hml, hown, hts⟩ (c_X5_needBegun l hl0 κ D (s.heap).size (h0) (o0) (g0) (o2) (o3) (o4) (o5) (o6) (g1) (g2) (g3) (g4) (g5) (g6) ) (cwV 0 hts gd_c_X5_times_1 rfl rfl rfl (by decide +kernel) ⟨(Nat.le_of_ble_eq_true rfl), (Nat.le_of_ble_eq_true rfl)⟩) (preV hE hK hP hD hS hA [0, 1] rfl (by decide) [] rfl (va_recv hK hP (ci := 12) (q0 := 0) rfl rfl)) rfl rfl hl.1 rfl (lv_room (Nat.le_of_ble_eq_true rfl)) dX5_times_1 ⟨(Nat.le_of_ble_eq_true rfl), (Nat.le_of_ble_eq_true rfl)⟩) hS (fun q _ h => hFc q h) hFc (fun q _ h => hFc q h) (fun E9 ce q9 u9 t H1 locs ht hvm _ hB hz1 hk1 hS hce hcv hcl => ?_) (fun _ _ _ _ _ _ hw => hw.elim)
  obtain ⟨rfl, hB⟩ := hB
  obtain ⟨hP, hD, hK⟩ := jn (wc := [(h0, .inr (12, [.ref o0, .int 0, .ref g0, .ref o2, .ref o3, .ref o4, .ref o5, .int 0, .ref o6])), (g0, .inr (8, [.ref g1, .ref g2, .ref g3, .ref g4, .ref g5, .ref g6, .int 0, .int 0, .int 0, .int 0]))]) (wr := []) (w1 := [(h0, .inr (12, [.ref o0, .int 0, .ref g0, .ref o2, .ref o3, .ref o4, .ref o5, .int 0, .ref o6])), (g0, .inr (8, [.ref g1, .ref g2, .ref g3, .ref g4, .ref g5, .ref g6, .int 0, .int 0, .int 0, .int 0]))]) (t1 := []) hP hD hK hS0 hA [0, 1] [] rfl rfl (by decide) (by decide) ht hvm hk1 hB
  generalize H1 = H at hP hS hce ⊢
  have hP : va_P D vwCl ([(h0, .inr (12, [.ref o0, .int 0, .ref g0, .ref o2, .ref o3, .ref o4, .ref o5, .int 0, .ref o6])), (g0, .inr (8, [.ref g1, .ref g2, .ref g3, .ref g4, .ref g5, .ref g6, .int 0, .int 0, .int 0, .int 0]))]) H := hP
  have hD : va_D A ([(h0, .inr (12, [.ref o0, .int 0, .ref g0, .ref o2, .ref o3, .ref o4, .ref o5, .int 0, .ref o6])), (g0, .inr (8, [.ref g1, .ref g2, .ref g3, .ref g4, .ref g5, .ref g6, .int 0, .int 0, .int 0, .int 0]))]) := hD
  have hK : va_K D vwCl [] s := hK
  refine vx_widen (k := 1) (n := 6) (Nat.le_of_ble_eq_true rfl) (Nat.le_of_ble_eq_true rfl) ?_
  exact vx_out (fun x hx => (htab x hx).elim) hlocks hce hcv hcl (fun t ht hal => ⟨(), trivial, ⟨rfl, PB.at hP hK hD hal ht [0, 1] rfl (by decide) [] rfl⟩, hS.F ht⟩) hS.2.2 (Nat.le_of_ble_eq_true rfl) (Nat.le_of_ble_eq_true rfl)

def wm_c_X5_number : List Cond := .code yX5_number cX5_number 1 (some .long) :: ([.code yX5_needBegun cX5_needBegun 1 none, .fieldLink RX5 19 "Sowingcourt" "game" "LSowingcourt$Game;", .fieldLink RX5 179 "Sowingcourt$Game" "begun" "Z", .classLink RX5 162 "java/lang/IllegalStateException", .initialized "java/lang/IllegalStateException", .methodLink RX5 187 yX5_needBegun, .instanceMethod yX5_needBegun, .selects RX5 yX5_needBegun yX5_needBegun, .initialized RX5] ++ wsX50 ++ wsX10 ++ (vx_atS RX5 166 "java/lang/IllegalStateException" supX).filter goodWord)
set_option maxRecDepth 20000 in
theorem gd_c_X5_number_1 : GoodIn wm_c_X5_number (wsV RX5 187 RX5 yX5_needBegun wm_c_X5_needBegun) := goodIn_of _ (by decide +kernel)
set_option maxHeartbeats 4000000 in
set_option maxRecDepth 100000 in
theorem c_X5_number (l : Launch) (hl0 : l.stackTraces = false) (κ : Nat → Nat) (D : va_G) (sz : Nat) (h0 : Nat) (o0 : Nat) (g0 : Nat) (o2 : Nat) (o3 : Nat) (o4 : Nat) (o5 : Nat) (o6 : Nat) (g1 : Nat) (g2 : Nat) (g3 : Nat) (g4 : Nat) (g5 : Nat) (g6 : Nat)  : vx_Met l yX5_number wm_c_X5_number ({ frames := 9, cells := 1, slots := 6, locals := 260 }) (va_Pc [.ref h0] (PC κ D [] [(h0, .inr (12, [.ref o0, .int 0, .ref g0, .ref o2, .ref o3, .ref o4, .ref o5, .int 0, .ref o6])), (g0, .inr (8, [.ref g1, .ref g2, .ref g3, .ref g4, .ref g5, .ref g6, .int 0, .int 0, .int 0, .int 0]))] sz)) (va_Ql (fun (_ : Int64) (_ : Unit) => False) (fun _ _ => True) (va_A [(h0, .inr (12, [.ref o0, .int 0, .ref g0, .ref o2, .ref o3, .ref o4, .ref o5, .int 0, .ref o6])), (g0, .inr (8, [.ref g1, .ref g2, .ref g3, .ref g4, .ref g5, .ref g6, .int 0, .int 0, .int 0, .int 0]))] sz)) (XQ "java/lang/IllegalStateException" D [] [(h0, .inr (12, [.ref o0, .int 0, .ref g0, .ref o2, .ref o3, .ref o4, .ref o5, .int 0, .ref o6])), (g0, .inr (8, [.ref g1, .ref g2, .ref g3, .ref g4, .ref g5, .ref g6, .int 0, .int 0, .int 0, .int 0]))] (va_A [(h0, .inr (12, [.ref o0, .int 0, .ref g0, .ref o2, .ref o3, .ref o4, .ref o5, .int 0, .ref o6])), (g0, .inr (8, [.ref g1, .ref g2, .ref g3, .ref g4, .ref g5, .ref g6, .int 0, .int 0, .int 0, .int 0]))] sz)) 1 6 (va_A [(h0, .inr (12, [.ref o0, .int 0, .ref g0, .ref o2, .ref o3, .ref o4, .ref o5, .int 0, .ref o6])), (g0, .inr (8, [.ref g1, .ref g2, .ref g3, .ref g4, .ref g5, .ref g6, .int 0, .int 0, .int 0, .int 0]))] sz) := by
  refine vx_ofW (cc := cX5_number) (maxL := 1) (ret := (some .long)) (by decide +kernel) rfl ?_
  intro p e s m args below meth c s₁ B hml htab hv
  obtain ⟨rfl, hsz, hP, hK, hD0, hE⟩ := hv
  have hx := B.exec
  have hb := B.bytes
  have hr := B.returns
  have hts := atoms_spec (ws := wm_c_X5_number) B.pre
  have hown : s.vm.findClass RX5 = some m.cls := findClass_of_methodNamed B.named
  have hlocks := B.notSynchronized
  have iRX5 : ∀ w ∈ u_ws RX5 TX5 9, w ∈ wm_c_X5_number := by decide +kernel
  have iRX1 : ∀ w ∈ u_ws RX1 TX1 10, w ∈ wm_c_X5_number := by decide +kernel
  subst hsz
  have hD := hD0.self (sz := s.heap.size)
  generalize hAe : va_A [(h0, .inr (12, [.ref o0, .int 0, .ref g0, .ref o2, .ref o3, .ref o4, .ref o5, .int 0, .ref o6])), (g0, .inr (8, [.ref g1, .ref g2, .ref g3, .ref g4, .ref g5, .ref g6, .int 0, .int 0, .int 0, .int 0]))] s.heap.size = A at hD hE ⊢
  have hA : ∀ q : Nat, s.heap.size ≤ q → A q := fun q h => by rw [← hAe]; exact Or.inr h
  have hS : va_S A s.heap s.heap [] := va_S.rf
  have hl := lv_entry ([.ref h0]) (n := 1) (Nat.le_of_ble_eq_true rfl)
  rw [lg_entry_eq]
  generalize (lg_sl ([.ref h0]) ++ List.replicate (1 - (lg_sl ([.ref h0])).length) Slot.unset).toArray = ls at hl ⊢
  have hl : lv_has ls 1 [(0, .ref h0)] := hl
  refine lv_aload_n hx hb dX5_number_0 rfl (lv_at hl 0 rfl) ?_
  have hS0 := hS
  have hFc := va_free (wc := [(h0, .inr (12, [.ref o0, .int 0, .ref g0, .ref o2, .ref o3, .ref o4, .ref o5, .int 0, .ref o6])), (g0, .inr (8, [.ref g1, .ref g2, .ref g3, .ref g4, .ref g5, .ref g6, .int 0, .int 0, .int 0, .int 0]))]) hD hS hA [0, 1] rfl
  refine vx_callv (vx_runV (As := []) (rest := []) ⟨hx, hb, hml, hown, hts⟩ (c_X5_needBegun l hl0 κ D (s.heap).size (h0) (o0) (g0) (o2) (o3) (o4) (o5) (o6) (g1) (g2) (g3) (g4) (g5) (g6) ) (cwV 0 hts gd_c_X5_number_1 rfl rfl rfl (by decide +kernel) ⟨(Nat.le_of_ble_eq_true rfl), (Nat.le_of_ble_eq_true rfl)⟩) (preV hE hK hP hD hS hA [0, 1] rfl (by decide) [] rfl (va_recv hK hP (ci := 12) (q0 := 0) rfl rfl)) rfl rfl hl.1 rfl (lv_room (Nat.le_of_ble_eq_true rfl)) dX5_number_1 ⟨(Nat.le_of_ble_eq_true rfl), (Nat.le_of_ble_eq_true rfl)⟩) hS (fun q _ h => hFc q h) hFc (fun q _ h => hFc q h) (fun E9 ce q9 u9 t H1 locs ht hvm _ hB hz1 hk1 hS hce hcv hcl => ?_) (fun _ _ _ _ _ _ hw => hw.elim)
  obtain ⟨rfl, hB⟩ := hB
  obtain ⟨hP, hD, hK⟩ := jn (wc := [(h0, .inr (12, [.ref o0, .int 0, .ref g0, .ref o2, .ref o3, .ref o4, .ref o5, .int 0, .ref o6])), (g0, .inr (8, [.ref g1, .ref g2, .ref g3, .ref g4, .ref g5, .ref g6, .int 0, .int 0, .int 0, .int 0]))]) (wr := []) (w1 := [(h0, .inr (12, [.ref o0, .int 0, .ref g0, .ref o2, .ref o3, .ref o4, .ref o5, .int 0, .ref o6])), (g0, .inr (8, [.ref g1, .ref g2, .ref g3, .ref g4, .ref g5, .ref g6, .int 0, .int 0, .int 0, .int 0]))]) (t1 := []) hP hD hK hS0 hA [0, 1] [] rfl rfl (by decide) (by decide) ht hvm hk1 hB
  generalize H1 = H at hP hS hce ⊢
  have hP : va_P D vwCl ([(h0, .inr (12, [.ref o0, .int 0, .ref g0, .ref o2, .ref o3, .ref o4, .ref o5, .int 0, .ref o6])), (g0, .inr (8, [.ref g1, .ref g2, .ref g3, .ref g4, .ref g5, .ref g6, .int 0, .int 0, .int 0, .int 0]))]) H := hP
  have hD : va_D A ([(h0, .inr (12, [.ref o0, .int 0, .ref g0, .ref o2, .ref o3, .ref o4, .ref o5, .int 0, .ref o6])), (g0, .inr (8, [.ref g1, .ref g2, .ref g3, .ref g4, .ref g5, .ref g6, .int 0, .int 0, .int 0, .int 0]))]) := hD
  have hK : va_K D vwCl [] s := hK
  refine vx_widen (k := 1) (n := 6) (Nat.le_of_ble_eq_true rfl) (Nat.le_of_ble_eq_true rfl) ?_
  exact vx_out (fun x hx => (htab x hx).elim) hlocks hce hcv hcl (fun t ht hal => ⟨(), trivial, ⟨rfl, PB.at hP hK hD hal ht [0, 1] rfl (by decide) [] rfl⟩, hS.F ht⟩) hS.2.2 (Nat.le_of_ble_eq_true rfl) (Nat.le_of_ble_eq_true rfl)

def wm_c_X5_line : List Cond := .code yX5_line cX5_line 1 (some .int) :: ([.code yX5_needBegun cX5_needBegun 1 none, .fieldLink RX5 19 "Sowingcourt" "game" "LSowingcourt$Game;", .fieldLink RX5 179 "Sowingcourt$Game" "begun" "Z", .classLink RX5 162 "java/lang/IllegalStateException", .initialized "java/lang/IllegalStateException", .methodLink RX5 187 yX5_needBegun, .instanceMethod yX5_needBegun, .selects RX5 yX5_needBegun yX5_needBegun, .initialized RX5] ++ wsX50 ++ wsX10 ++ (vx_atS RX5 166 "java/lang/IllegalStateException" supX).filter goodWord)
set_option maxRecDepth 20000 in
theorem gd_c_X5_line_1 : GoodIn wm_c_X5_line (wsV RX5 187 RX5 yX5_needBegun wm_c_X5_needBegun) := goodIn_of _ (by decide +kernel)
set_option maxHeartbeats 4000000 in
set_option maxRecDepth 100000 in
theorem c_X5_line (l : Launch) (hl0 : l.stackTraces = false) (κ : Nat → Nat) (D : va_G) (sz : Nat) (h0 : Nat) (o0 : Nat) (g0 : Nat) (o2 : Nat) (o3 : Nat) (o4 : Nat) (o5 : Nat) (o6 : Nat) (g1 : Nat) (g2 : Nat) (g3 : Nat) (g4 : Nat) (g5 : Nat) (g6 : Nat)  : vx_Met l yX5_line wm_c_X5_line ({ frames := 9, cells := 1, slots := 6, locals := 260 }) (va_Pc [.ref h0] (PC κ D [] [(h0, .inr (12, [.ref o0, .int 0, .ref g0, .ref o2, .ref o3, .ref o4, .ref o5, .int 0, .ref o6])), (g0, .inr (8, [.ref g1, .ref g2, .ref g3, .ref g4, .ref g5, .ref g6, .int 0, .int 0, .int 0, .int 0]))] sz)) (va_Qi (fun (_ : Int32) (_ : Unit) => False) (fun _ _ => True) (va_A [(h0, .inr (12, [.ref o0, .int 0, .ref g0, .ref o2, .ref o3, .ref o4, .ref o5, .int 0, .ref o6])), (g0, .inr (8, [.ref g1, .ref g2, .ref g3, .ref g4, .ref g5, .ref g6, .int 0, .int 0, .int 0, .int 0]))] sz)) (XQ "java/lang/IllegalStateException" D [] [(h0, .inr (12, [.ref o0, .int 0, .ref g0, .ref o2, .ref o3, .ref o4, .ref o5, .int 0, .ref o6])), (g0, .inr (8, [.ref g1, .ref g2, .ref g3, .ref g4, .ref g5, .ref g6, .int 0, .int 0, .int 0, .int 0]))] (va_A [(h0, .inr (12, [.ref o0, .int 0, .ref g0, .ref o2, .ref o3, .ref o4, .ref o5, .int 0, .ref o6])), (g0, .inr (8, [.ref g1, .ref g2, .ref g3, .ref g4, .ref g5, .ref g6, .int 0, .int 0, .int 0, .int 0]))] sz)) 1 6 (va_A [(h0, .inr (12, [.ref o0, .int 0, .ref g0, .ref o2, .ref o3, .ref o4, .ref o5, .int 0, .ref o6])), (g0, .inr (8, [.ref g1, .ref g2, .ref g3, .ref g4, .ref g5, .ref g6, .int 0, .int 0, .int 0, .int 0]))] sz) := by
  refine vx_ofW (cc := cX5_line) (maxL := 1) (ret := (some .int)) (by decide +kernel) rfl ?_
  intro p e s m args below meth c s₁ B hml htab hv
  obtain ⟨rfl, hsz, hP, hK, hD0, hE⟩ := hv
  have hx := B.exec
  have hb := B.bytes
  have hr := B.returns
  have hts := atoms_spec (ws := wm_c_X5_line) B.pre
  have hown : s.vm.findClass RX5 = some m.cls := findClass_of_methodNamed B.named
  have hlocks := B.notSynchronized
  have iRX5 : ∀ w ∈ u_ws RX5 TX5 9, w ∈ wm_c_X5_line := by decide +kernel
  have iRX1 : ∀ w ∈ u_ws RX1 TX1 10, w ∈ wm_c_X5_line := by decide +kernel
  subst hsz
  have hD := hD0.self (sz := s.heap.size)
  generalize hAe : va_A [(h0, .inr (12, [.ref o0, .int 0, .ref g0, .ref o2, .ref o3, .ref o4, .ref o5, .int 0, .ref o6])), (g0, .inr (8, [.ref g1, .ref g2, .ref g3, .ref g4, .ref g5, .ref g6, .int 0, .int 0, .int 0, .int 0]))] s.heap.size = A at hD hE ⊢
  have hA : ∀ q : Nat, s.heap.size ≤ q → A q := fun q h => by rw [← hAe]; exact Or.inr h
  have hS : va_S A s.heap s.heap [] := va_S.rf
  have hl := lv_entry ([.ref h0]) (n := 1) (Nat.le_of_ble_eq_true rfl)
  rw [lg_entry_eq]
  generalize (lg_sl ([.ref h0]) ++ List.replicate (1 - (lg_sl ([.ref h0])).length) Slot.unset).toArray = ls at hl ⊢
  have hl : lv_has ls 1 [(0, .ref h0)] := hl
  refine lv_aload_n hx hb dX5_line_0 rfl (lv_at hl 0 rfl) ?_
  have hS0 := hS
  have hFc := va_free (wc := [(h0, .inr (12, [.ref o0, .int 0, .ref g0, .ref o2, .ref o3, .ref o4, .ref o5, .int 0, .ref o6])), (g0, .inr (8, [.ref g1, .ref g2, .ref g3, .ref g4, .ref g5, .ref g6, .int 0, .int 0, .int 0, .int 0]))]) hD hS hA [0, 1] rfl
  refine vx_callv (vx_runV (As := []) (rest := []) ⟨hx, hb, hml, hown, hts⟩ (c_X5_needBegun l hl0 κ D (s.heap).size (h0) (o0) (g0) (o2) (o3) (o4) (o5) (o6) (g1) (g2) (g3) (g4) (g5) (g6) ) (cwV 0 hts gd_c_X5_line_1 rfl rfl rfl (by decide +kernel) ⟨(Nat.le_of_ble_eq_true rfl), (Nat.le_of_ble_eq_true rfl)⟩) (preV hE hK hP hD hS hA [0, 1] rfl (by decide) [] rfl (va_recv hK hP (ci := 12) (q0 := 0) rfl rfl)) rfl rfl hl.1 rfl (lv_room (Nat.le_of_ble_eq_true rfl)) dX5_line_1 ⟨(Nat.le_of_ble_eq_true rfl), (Nat.le_of_ble_eq_true rfl)⟩) hS (fun q _ h => hFc q h) hFc (fun q _ h => hFc q h) (fun E9 ce q9 u9 t H1 locs ht hvm _ hB hz1 hk1 hS hce hcv hcl => ?_) (fun _ _ _ _ _ _ hw => hw.elim)
  obtain ⟨rfl, hB⟩ := hB
  obtain ⟨hP, hD, hK⟩ := jn (wc := [(h0, .inr (12, [.ref o0, .int 0, .ref g0, .ref o2, .ref o3, .ref o4, .ref o5, .int 0, .ref o6])), (g0, .inr (8, [.ref g1, .ref g2, .ref g3, .ref g4, .ref g5, .ref g6, .int 0, .int 0, .int 0, .int 0]))]) (wr := []) (w1 := [(h0, .inr (12, [.ref o0, .int 0, .ref g0, .ref o2, .ref o3, .ref o4, .ref o5, .int 0, .ref o6])), (g0, .inr (8, [.ref g1, .ref g2, .ref g3, .ref g4, .ref g5, .ref g6, .int 0, .int 0, .int 0, .int 0]))]) (t1 := []) hP hD hK hS0 hA [0, 1] [] rfl rfl (by decide) (by decide) ht hvm hk1 hB
  generalize H1 = H at hP hS hce ⊢
  have hP : va_P D vwCl ([(h0, .inr (12, [.ref o0, .int 0, .ref g0, .ref o2, .ref o3, .ref o4, .ref o5, .int 0, .ref o6])), (g0, .inr (8, [.ref g1, .ref g2, .ref g3, .ref g4, .ref g5, .ref g6, .int 0, .int 0, .int 0, .int 0]))]) H := hP
  have hD : va_D A ([(h0, .inr (12, [.ref o0, .int 0, .ref g0, .ref o2, .ref o3, .ref o4, .ref o5, .int 0, .ref o6])), (g0, .inr (8, [.ref g1, .ref g2, .ref g3, .ref g4, .ref g5, .ref g6, .int 0, .int 0, .int 0, .int 0]))]) := hD
  have hK : va_K D vwCl [] s := hK
  refine vx_widen (k := 1) (n := 6) (Nat.le_of_ble_eq_true rfl) (Nat.le_of_ble_eq_true rfl) ?_
  exact vx_out (fun x hx => (htab x hx).elim) hlocks hce hcv hcl (fun t ht hal => ⟨(), trivial, ⟨rfl, PB.at hP hK hD hal ht [0, 1] rfl (by decide) [] rfl⟩, hS.F ht⟩) hS.2.2 (Nat.le_of_ble_eq_true rfl) (Nat.le_of_ble_eq_true rfl)

def wm_c_X5_sign : List Cond := .code yX5_sign cX5_sign 2 (some .char) :: ([.code yX5_needBegun cX5_needBegun 1 none, .fieldLink RX5 19 "Sowingcourt" "game" "LSowingcourt$Game;", .fieldLink RX5 179 "Sowingcourt$Game" "begun" "Z", .classLink RX5 162 "java/lang/IllegalStateException", .initialized "java/lang/IllegalStateException", .methodLink RX5 187 yX5_needBegun, .instanceMethod yX5_needBegun, .selects RX5 yX5_needBegun yX5_needBegun, .initialized RX5] ++ wsX50 ++ wsX10 ++ (vx_atS RX5 166 "java/lang/IllegalStateException" supX).filter goodWord)
set_option maxRecDepth 20000 in
theorem gd_c_X5_sign_1 : GoodIn wm_c_X5_sign (wsV RX5 187 RX5 yX5_needBegun wm_c_X5_needBegun) := goodIn_of _ (by decide +kernel)
set_option maxHeartbeats 4000000 in
set_option maxRecDepth 100000 in
theorem c_X5_sign (l : Launch) (hl0 : l.stackTraces = false) (κ : Nat → Nat) (D : va_G) (sz : Nat) (h0 : Nat) (o0 : Nat) (g0 : Nat) (o2 : Nat) (o3 : Nat) (o4 : Nat) (o5 : Nat) (o6 : Nat) (g1 : Nat) (g2 : Nat) (g3 : Nat) (g4 : Nat) (g5 : Nat) (g6 : Nat) (p0 : Int32)  : vx_Met l yX5_sign wm_c_X5_sign ({ frames := 9, cells := 1, slots := 6, locals := 260 }) (va_Pc [.ref h0, .int p0] (PC κ D [] [(h0, .inr (12, [.ref o0, .int 0, .ref g0, .ref o2, .ref o3, .ref o4, .ref o5, .int 0, .ref o6])), (g0, .inr (8, [.ref g1, .ref g2, .ref g3, .ref g4, .ref g5, .ref g6, .int 0, .int 0, .int 0, .int 0]))] sz)) (va_Qi (fun (_ : Int32) (_ : Unit) => False) (fun _ _ => True) (va_A [(h0, .inr (12, [.ref o0, .int 0, .ref g0, .ref o2, .ref o3, .ref o4, .ref o5, .int 0, .ref o6])), (g0, .inr (8, [.ref g1, .ref g2, .ref g3, .ref g4, .ref g5, .ref g6, .int 0, .int 0, .int 0, .int 0]))] sz)) (XQ "java/lang/IllegalStateException" D [] [(h0, .inr (12, [.ref o0, .int 0, .ref g0, .ref o2, .ref o3, .ref o4, .ref o5, .int 0, .ref o6])), (g0, .inr (8, [.ref g1, .ref g2, .ref g3, .ref g4, .ref g5, .ref g6, .int 0, .int 0, .int 0, .int 0]))] (va_A [(h0, .inr (12, [.ref o0, .int 0, .ref g0, .ref o2, .ref o3, .ref o4, .ref o5, .int 0, .ref o6])), (g0, .inr (8, [.ref g1, .ref g2, .ref g3, .ref g4, .ref g5, .ref g6, .int 0, .int 0, .int 0, .int 0]))] sz)) 1 6 (va_A [(h0, .inr (12, [.ref o0, .int 0, .ref g0, .ref o2, .ref o3, .ref o4, .ref o5, .int 0, .ref o6])), (g0, .inr (8, [.ref g1, .ref g2, .ref g3, .ref g4, .ref g5, .ref g6, .int 0, .int 0, .int 0, .int 0]))] sz) := by
  refine vx_ofW (cc := cX5_sign) (maxL := 2) (ret := (some .char)) (by decide +kernel) rfl ?_
  intro p e s m args below meth c s₁ B hml htab hv
  obtain ⟨rfl, hsz, hP, hK, hD0, hE⟩ := hv
  have hx := B.exec
  have hb := B.bytes
  have hr := B.returns
  have hts := atoms_spec (ws := wm_c_X5_sign) B.pre
  have hown : s.vm.findClass RX5 = some m.cls := findClass_of_methodNamed B.named
  have hlocks := B.notSynchronized
  have iRX5 : ∀ w ∈ u_ws RX5 TX5 9, w ∈ wm_c_X5_sign := by decide +kernel
  have iRX1 : ∀ w ∈ u_ws RX1 TX1 10, w ∈ wm_c_X5_sign := by decide +kernel
  subst hsz
  have hD := hD0.self (sz := s.heap.size)
  generalize hAe : va_A [(h0, .inr (12, [.ref o0, .int 0, .ref g0, .ref o2, .ref o3, .ref o4, .ref o5, .int 0, .ref o6])), (g0, .inr (8, [.ref g1, .ref g2, .ref g3, .ref g4, .ref g5, .ref g6, .int 0, .int 0, .int 0, .int 0]))] s.heap.size = A at hD hE ⊢
  have hA : ∀ q : Nat, s.heap.size ≤ q → A q := fun q h => by rw [← hAe]; exact Or.inr h
  have hS : va_S A s.heap s.heap [] := va_S.rf
  have hl := lv_entry ([.ref h0, .int p0]) (n := 2) (Nat.le_of_ble_eq_true rfl)
  rw [lg_entry_eq]
  generalize (lg_sl ([.ref h0, .int p0]) ++ List.replicate (2 - (lg_sl ([.ref h0, .int p0])).length) Slot.unset).toArray = ls at hl ⊢
  have hl : lv_has ls 2 [(0, .ref h0), (1, .int p0)] := hl
  refine lv_aload_n hx hb dX5_sign_0 rfl (lv_at hl 0 rfl) ?_
  have hS0 := hS
  have hFc := va_free (wc := [(h0, .inr (12, [.ref o0, .int 0, .ref g0, .ref o2, .ref o3, .ref o4, .ref o5, .int 0, .ref o6])), (g0, .inr (8, [.ref g1, .ref g2, .ref g3, .ref g4, .ref g5, .ref g6, .int 0, .int 0, .int 0, .int 0]))]) hD hS hA [0, 1] rfl
  refine vx_callv (vx_runV (As := []) (rest := []) ⟨hx, hb, hml, hown, hts⟩ (c_X5_needBegun l hl0 κ D (s.heap).size (h0) (o0) (g0) (o2) (o3) (o4) (o5) (o6) (g1) (g2) (g3) (g4) (g5) (g6) ) (cwV 0 hts gd_c_X5_sign_1 rfl rfl rfl (by decide +kernel) ⟨(Nat.le_of_ble_eq_true rfl), (Nat.le_of_ble_eq_true rfl)⟩) (preV hE hK hP hD hS hA [0, 1] rfl (by decide) [] rfl (va_recv hK hP (ci := 12) (q0 := 0) rfl rfl)) rfl rfl hl.1 rfl (lv_room (Nat.le_of_ble_eq_true rfl)) dX5_sign_1 ⟨(Nat.le_of_ble_eq_true rfl), (Nat.le_of_ble_eq_true rfl)⟩) hS (fun q _ h => hFc q h) hFc (fun q _ h => hFc q h) (fun E9 ce q9 u9 t H1 locs ht hvm _ hB hz1 hk1 hS hce hcv hcl => ?_) (fun _ _ _ _ _ _ hw => hw.elim)
  obtain ⟨rfl, hB⟩ := hB
  obtain ⟨hP, hD, hK⟩ := jn (wc := [(h0, .inr (12, [.ref o0, .int 0, .ref g0, .ref o2, .ref o3, .ref o4, .ref o5, .int 0, .ref o6])), (g0, .inr (8, [.ref g1, .ref g2, .ref g3, .ref g4, .ref g5, .ref g6, .int 0, .int 0, .int 0, .int 0]))]) (wr := []) (w1 := [(h0, .inr (12, [.ref o0, .int 0, .ref g0, .ref o2, .ref o3, .ref o4, .ref o5, .int 0, .ref o6])), (g0, .inr (8, [.ref g1, .ref g2, .ref g3, .ref g4, .ref g5, .ref g6, .int 0, .int 0, .int 0, .int 0]))]) (t1 := []) hP hD hK hS0 hA [0, 1] [] rfl rfl (by decide) (by decide) ht hvm hk1 hB
  generalize H1 = H at hP hS hce ⊢
  have hP : va_P D vwCl ([(h0, .inr (12, [.ref o0, .int 0, .ref g0, .ref o2, .ref o3, .ref o4, .ref o5, .int 0, .ref o6])), (g0, .inr (8, [.ref g1, .ref g2, .ref g3, .ref g4, .ref g5, .ref g6, .int 0, .int 0, .int 0, .int 0]))]) H := hP
  have hD : va_D A ([(h0, .inr (12, [.ref o0, .int 0, .ref g0, .ref o2, .ref o3, .ref o4, .ref o5, .int 0, .ref o6])), (g0, .inr (8, [.ref g1, .ref g2, .ref g3, .ref g4, .ref g5, .ref g6, .int 0, .int 0, .int 0, .int 0]))]) := hD
  have hK : va_K D vwCl [] s := hK
  refine vx_widen (k := 1) (n := 6) (Nat.le_of_ble_eq_true rfl) (Nat.le_of_ble_eq_true rfl) ?_
  exact vx_out (fun x hx => (htab x hx).elim) hlocks hce hcv hcl (fun t ht hal => ⟨(), trivial, ⟨rfl, PB.at hP hK hD hal ht [0, 1] rfl (by decide) [] rfl⟩, hS.F ht⟩) hS.2.2 (Nat.le_of_ble_eq_true rfl) (Nat.le_of_ble_eq_true rfl)
