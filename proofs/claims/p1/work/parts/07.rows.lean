def wm_c_X3_init : List Cond := .code yX3_init cX3_init 3 none :: ([.methodLink RX3 3 objectInit, .instanceMethod objectInit, .code objectInit ⟨#[0xb1]⟩ 1 none, .classLink RX3 9 "[[J", .arrayClass .long, .fieldLink RX3 11 "Sowingcourt$Rows" "ways" "[[J", .fieldLink RX3 11 RX3 "ways" "[[J"] ++ wsX30)
set_option maxHeartbeats 4000000 in
set_option maxRecDepth 100000 in
theorem c_X3_init (l : Launch) (κ : Nat → Nat) (D : va_G) (sz : Nat) (h0 : Nat)  : Met l yX3_init wm_c_X3_init ({ frames := 9, cells := 12, slots := 1012, locals := 260 }) (va_Pc [.ref h0] (PC κ D [] [(h0, .inr (10, [.null]))] sz)) (va_Qv (fun _ : Unit => True) (fun _ t => ∃ (q0 : Nat) (cO : ClassId) (cJ : ClassId) (rr : Nat → Nat) (FF : Nat → Nat → Int64), (∀ k, k < 11 → ∀ z, z < 91 → FF k z = WW k z) ∧ PB D [(cO, .array .long), (cJ, .long)] [(h0, .inr (10, [.ref q0])), (q0, .inl (cO, 11, .inr (.inr (.inr (.inr (fun i => if i < 11 then some (rr i) else none)))))), ((rr 0), .inl (cJ, 91, .inr (.inl (FF 0)))), ((rr 1), .inl (cJ, 91, .inr (.inl (FF 1)))), ((rr 2), .inl (cJ, 91, .inr (.inl (FF 2)))), ((rr 3), .inl (cJ, 91, .inr (.inl (FF 3)))), ((rr 4), .inl (cJ, 91, .inr (.inl (FF 4)))), ((rr 5), .inl (cJ, 91, .inr (.inl (FF 5)))), ((rr 6), .inl (cJ, 91, .inr (.inl (FF 6)))), ((rr 7), .inl (cJ, 91, .inr (.inl (FF 7)))), ((rr 8), .inl (cJ, 91, .inr (.inl (FF 8)))), ((rr 9), .inl (cJ, 91, .inr (.inl (FF 9)))), ((rr 10), .inl (cJ, 91, .inr (.inl (FF 10))))] (va_A [(h0, .inr (10, [.null]))] sz) t) (va_A [(h0, .inr (10, [.null]))] sz)) 12 1012 (va_A [(h0, .inr (10, [.null]))] sz) := by
  refine Met.ofW (cc := cX3_init) (maxL := 3) (ret := none) (by decide +kernel) rfl ?_
  intro p e s m args below meth c s₁ B hml hv
  obtain ⟨rfl, hsz, hP, hK, hD0, hE⟩ := hv
  have hx := B.exec
  have hb := B.bytes
  have hr := B.returns
  have hts := atoms_spec (ws := wm_c_X3_init) B.pre
  have hown : s.vm.findClass RX3 = some m.cls := findClass_of_methodNamed B.named
  have hlocks := B.notSynchronized
  have hin : meth.name = "<init>" := (name_of_methodNamed B.named B.method).1
  have iRX3 : ∀ w ∈ u_ws RX3 TX3 1, w ∈ wm_c_X3_init := by decide +kernel
  subst hsz
  have hD := hD0.self (sz := s.heap.size)
  generalize hAe : va_A [(h0, .inr (10, [.null]))] s.heap.size = A at hD hE ⊢
  have hA : ∀ q : Nat, s.heap.size ≤ q → A q := fun q h => by rw [← hAe]; exact Or.inr h
  have hS : va_S A s.heap s.heap [] := va_S.rf
  have hl := lv_entry ([.ref h0]) (n := 3) (Nat.le_of_ble_eq_true rfl)
  rw [lg_entry_eq]
  generalize (lg_sl ([.ref h0]) ++ List.replicate (3 - (lg_sl ([.ref h0])).length) Slot.unset).toArray = ls at hl ⊢
  have hl : lv_has ls 3 [(0, .ref h0)] := hl
  refine lv_aload_n hx hb dX3_init_0 rfl (lv_at hl 0 rfl) ?_
  refine W.objInit hx hb hown (hts (.methodLink RX3 3 objectInit) (by decide +kernel)) (hts (.instanceMethod objectInit) (by decide +kernel)) (hts (.code objectInit ⟨#[0xb1]⟩ 1 none) (by decide +kernel)) rfl (by rw [hml]; exact hl.1) rfl dX3_init_1 (Nat.le_of_ble_eq_true rfl) (Nat.le_of_ble_eq_true rfl) ?_
  refine W.eq (g2 := F0 m 4 ls []) rfl ?_
  refine lv_aload_n hx hb dX3_init_4 rfl (lv_at hl 0 rfl) ?_
  refine lv_bipush (v := 11) hx hb dX3_init_5 (by decide) ?_
  refine lv_bipush (v := 91) hx hb dX3_init_7 (by decide) ?_
  obtain ⟨cJ, hcJ⟩ := hE.aoa.inner
  refine va_mnx (X := [(h0, .inr (10, [.null]))]) (L := []) (f := fun _ => .inr (0, [])) (ty := .long) (cy := cJ) (n := 11) (k := 91) (N' := 11) (K' := 91) (z := (91, .inr (.inl (fun _ => 0)))) hx hb hown (by rw [show ("[" ++ (FieldType.array .long).toString) = "[[J" from by decide +kernel]; exact (hts (.classLink RX3 9 "[[J") (by decide +kernel))) hE.aoa (hts (.arrayClass .long) (by decide +kernel)) hcJ hK hP hD hS hA (by decide) (by decide) (by decide) (by decide) (by decide +kernel) (by decide +kernel) (by decide +kernel) rfl rfl (Nat.le_of_ble_eq_true rfl) (Nat.le_of_ble_eq_true rfl) (fun c9 => by show ({ cls := c9, slots := Array.replicate 91 (.long 0), vm := .none } : Cell) = _; exact (arrV_new c9 91 (.long 0)).symm ▸ rfl) dX3_init_9 (fun q rr cO H hAI _ _ hK hP hD hS => ?_)
  rw [← vr_rows (L := []) (fun a _ h => nomatch h)] at hP hD
  have hP : va_P D vwCl ([(h0, .inr (10, [.null])), (q, .inl (cO, 11, .inr (.inr (.inr (.inr (fun i => if i < 11 then some (rr i) else none)))))), ((rr 0), .inl (cJ, 91, .inr (.inl (fun _ => 0)))), ((rr 1), .inl (cJ, 91, .inr (.inl (fun _ => 0)))), ((rr 2), .inl (cJ, 91, .inr (.inl (fun _ => 0)))), ((rr 3), .inl (cJ, 91, .inr (.inl (fun _ => 0)))), ((rr 4), .inl (cJ, 91, .inr (.inl (fun _ => 0)))), ((rr 5), .inl (cJ, 91, .inr (.inl (fun _ => 0)))), ((rr 6), .inl (cJ, 91, .inr (.inl (fun _ => 0)))), ((rr 7), .inl (cJ, 91, .inr (.inl (fun _ => 0)))), ((rr 8), .inl (cJ, 91, .inr (.inl (fun _ => 0)))), ((rr 9), .inl (cJ, 91, .inr (.inl (fun _ => 0)))), ((rr 10), .inl (cJ, 91, .inr (.inl (fun _ => 0))))]) H := hP
  have hD : va_D A ([(h0, .inr (10, [.null])), (q, .inl (cO, 11, .inr (.inr (.inr (.inr (fun i => if i < 11 then some (rr i) else none)))))), ((rr 0), .inl (cJ, 91, .inr (.inl (fun _ => 0)))), ((rr 1), .inl (cJ, 91, .inr (.inl (fun _ => 0)))), ((rr 2), .inl (cJ, 91, .inr (.inl (fun _ => 0)))), ((rr 3), .inl (cJ, 91, .inr (.inl (fun _ => 0)))), ((rr 4), .inl (cJ, 91, .inr (.inl (fun _ => 0)))), ((rr 5), .inl (cJ, 91, .inr (.inl (fun _ => 0)))), ((rr 6), .inl (cJ, 91, .inr (.inl (fun _ => 0)))), ((rr 7), .inl (cJ, 91, .inr (.inl (fun _ => 0)))), ((rr 8), .inl (cJ, 91, .inr (.inl (fun _ => 0)))), ((rr 9), .inl (cJ, 91, .inr (.inl (fun _ => 0)))), ((rr 10), .inl (cJ, 91, .inr (.inl (fun _ => 0))))]) := hD
  have hK : va_K D vwCl [(cO, .array .long), (cJ, .long)] s := hK.app (t2 := [(cJ, .long)]) ⟨hK.1, fun k9 x9 hx9 => by
    match k9, hx9 with
    | 0, hx9 => cases hx9; exact ⟨hAI, hcJ⟩
    | n9 + 1, hx9 => simp at hx9⟩
  refine W.widen (k := 12) (n := 1012) (Nat.le_of_ble_eq_true rfl) (Nat.le_of_ble_eq_true rfl) ?_
  refine va_putF (D := D) (ci := 10) (v := .ref q) (ty := .array (.array .long)) (C := RX3) (T := TX3) (N := 1) hx hb hts iRX3 tyX3 tyX3_ok nmX3 hown hK hP hD hS 0 rfl rfl 0 (by decide) (hts (.fieldLink RX3 11 "Sowingcourt$Rows" "ways" "[[J") (by decide +kernel)) (fun _ h9 => h9) rfl hin rfl (by decide +kernel) rfl rfl (Nat.le_of_ble_eq_true rfl) dX3_init_13 (fun H locs hP hD hS => ?_)
  have hP : va_P D vwCl ([(h0, .inr (10, [.ref q])), (q, .inl (cO, 11, .inr (.inr (.inr (.inr (fun i => if i < 11 then some (rr i) else none)))))), ((rr 0), .inl (cJ, 91, .inr (.inl (fun _ => 0)))), ((rr 1), .inl (cJ, 91, .inr (.inl (fun _ => 0)))), ((rr 2), .inl (cJ, 91, .inr (.inl (fun _ => 0)))), ((rr 3), .inl (cJ, 91, .inr (.inl (fun _ => 0)))), ((rr 4), .inl (cJ, 91, .inr (.inl (fun _ => 0)))), ((rr 5), .inl (cJ, 91, .inr (.inl (fun _ => 0)))), ((rr 6), .inl (cJ, 91, .inr (.inl (fun _ => 0)))), ((rr 7), .inl (cJ, 91, .inr (.inl (fun _ => 0)))), ((rr 8), .inl (cJ, 91, .inr (.inl (fun _ => 0)))), ((rr 9), .inl (cJ, 91, .inr (.inl (fun _ => 0)))), ((rr 10), .inl (cJ, 91, .inr (.inl (fun _ => 0))))]) H := hP
  have hD : va_D A ([(h0, .inr (10, [.ref q])), (q, .inl (cO, 11, .inr (.inr (.inr (.inr (fun i => if i < 11 then some (rr i) else none)))))), ((rr 0), .inl (cJ, 91, .inr (.inl (fun _ => 0)))), ((rr 1), .inl (cJ, 91, .inr (.inl (fun _ => 0)))), ((rr 2), .inl (cJ, 91, .inr (.inl (fun _ => 0)))), ((rr 3), .inl (cJ, 91, .inr (.inl (fun _ => 0)))), ((rr 4), .inl (cJ, 91, .inr (.inl (fun _ => 0)))), ((rr 5), .inl (cJ, 91, .inr (.inl (fun _ => 0)))), ((rr 6), .inl (cJ, 91, .inr (.inl (fun _ => 0)))), ((rr 7), .inl (cJ, 91, .inr (.inl (fun _ => 0)))), ((rr 8), .inl (cJ, 91, .inr (.inl (fun _ => 0)))), ((rr 9), .inl (cJ, 91, .inr (.inl (fun _ => 0)))), ((rr 10), .inl (cJ, 91, .inr (.inl (fun _ => 0))))]) := hD
  refine lv_aload_n hx hb dX3_init_16 rfl (lv_at hl 0 rfl) ?_
  refine va_get (D := D) (ci := 10) (v := .ref q) (C := RX3) (T := TX3) (N := 1) hx hb hts iRX3 hown hK hP 0 rfl rfl 0 (by decide) (hts (.fieldLink RX3 11 "Sowingcourt$Rows" "ways" "[[J") (by decide +kernel)) (fun _ h9 => h9) rfl dX3_init_17 ?_
  refine lv_iconst (v := 0) hx hb dX3_init_20 (by decide) ?_
  refine va_aldg hx hb hK hP 1 0 rfl rfl (i := 0) (by unfold vp_in; decide) dX3_init_21 ?_
  refine W.eq (g2 := F0 m 22 ls [.ref (rr 0)]) (congrArg (fun z9 => F0 m 22 ls (z9 :: [])) (rfl)) ?_
  refine lv_iconst (v := 0) hx hb dX3_init_22 (by decide) ?_
  refine lv_lconst (v := 1) hx hb dX3_init_23 (by decide) ?_
  refine va_last hx hb hK hP hD hS 2 1 rfl rfl (i := 0) (by unfold vp_in; decide) dX3_init_24 (fun H locs hP hD hS => ?_)
  have hP : va_P D vwCl ([(h0, .inr (10, [.ref q])), (q, .inl (cO, 11, .inr (.inr (.inr (.inr (fun i => if i < 11 then some (rr i) else none)))))), ((rr 0), .inl (cJ, 91, .inr (.inl (vp_updL (fun _ => 0) 0 (1))))), ((rr 1), .inl (cJ, 91, .inr (.inl (fun _ => 0)))), ((rr 2), .inl (cJ, 91, .inr (.inl (fun _ => 0)))), ((rr 3), .inl (cJ, 91, .inr (.inl (fun _ => 0)))), ((rr 4), .inl (cJ, 91, .inr (.inl (fun _ => 0)))), ((rr 5), .inl (cJ, 91, .inr (.inl (fun _ => 0)))), ((rr 6), .inl (cJ, 91, .inr (.inl (fun _ => 0)))), ((rr 7), .inl (cJ, 91, .inr (.inl (fun _ => 0)))), ((rr 8), .inl (cJ, 91, .inr (.inl (fun _ => 0)))), ((rr 9), .inl (cJ, 91, .inr (.inl (fun _ => 0)))), ((rr 10), .inl (cJ, 91, .inr (.inl (fun _ => 0))))]) H := hP
  have hD : va_D A ([(h0, .inr (10, [.ref q])), (q, .inl (cO, 11, .inr (.inr (.inr (.inr (fun i => if i < 11 then some (rr i) else none)))))), ((rr 0), .inl (cJ, 91, .inr (.inl (vp_updL (fun _ => 0) 0 (1))))), ((rr 1), .inl (cJ, 91, .inr (.inl (fun _ => 0)))), ((rr 2), .inl (cJ, 91, .inr (.inl (fun _ => 0)))), ((rr 3), .inl (cJ, 91, .inr (.inl (fun _ => 0)))), ((rr 4), .inl (cJ, 91, .inr (.inl (fun _ => 0)))), ((rr 5), .inl (cJ, 91, .inr (.inl (fun _ => 0)))), ((rr 6), .inl (cJ, 91, .inr (.inl (fun _ => 0)))), ((rr 7), .inl (cJ, 91, .inr (.inl (fun _ => 0)))), ((rr 8), .inl (cJ, 91, .inr (.inl (fun _ => 0)))), ((rr 9), .inl (cJ, 91, .inr (.inl (fun _ => 0)))), ((rr 10), .inl (cJ, 91, .inr (.inl (fun _ => 0))))]) := hD
  refine lv_iconst (v := 1) hx hb dX3_init_25 (by decide) ?_
  refine lv_istore_n (lv' := [(1, .int 1), (0, .ref h0)]) hx hb dX3_init_26 rfl hl (by decide) rfl (fun ls hl => ?_)
  refine lv_iload_n hx hb dX3_init_27 rfl (lv_at hl 0 rfl) ?_
  refine lv_bipush (v := 10) hx hb dX3_init_28 (by decide) ?_
  refine lv_icmp_gt (tgt := 100) hx hb dX3_init_30 (by decide) (fun c_30 => absurd c_30 (by decide)) (fun _ => ?_)
  refine lv_aload_n hx hb dX3_init_33 rfl (lv_at hl 1 rfl) ?_
  refine va_get (D := D) (ci := 10) (v := .ref q) (C := RX3) (T := TX3) (N := 1) hx hb hts iRX3 hown hK hP 0 rfl rfl 0 (by decide) (hts (.fieldLink RX3 11 "Sowingcourt$Rows" "ways" "[[J") (by decide +kernel)) (fun _ h9 => h9) rfl dX3_init_34 ?_
  refine lv_iload_n hx hb dX3_init_37 rfl (lv_at hl 0 rfl) ?_
  refine va_aldg hx hb hK hP 1 0 rfl rfl (i := 1) (by unfold vp_in; decide) dX3_init_38 ?_
  refine W.eq (g2 := F0 m 39 ls [.ref (rr 1)]) (congrArg (fun z9 => F0 m 39 ls (z9 :: [])) (rfl)) ?_
  refine lv_iconst (v := 0) hx hb dX3_init_39 (by decide) ?_
  refine lv_aload_n hx hb dX3_init_40 rfl (lv_at hl 1 rfl) ?_
  refine va_get (D := D) (ci := 10) (v := .ref q) (C := RX3) (T := TX3) (N := 1) hx hb hts iRX3 hown hK hP 0 rfl rfl 0 (by decide) (hts (.fieldLink RX3 11 "Sowingcourt$Rows" "ways" "[[J") (by decide +kernel)) (fun _ h9 => h9) rfl dX3_init_41 ?_
  refine lv_iload_n hx hb dX3_init_44 rfl (lv_at hl 0 rfl) ?_
  refine lv_iconst (v := 1) hx hb dX3_init_45 (by decide) ?_
  refine lv_isub hx hb dX3_init_46 ?_
  refine lv_topi (fun v_1 ev_1 => ?_)
  have ev_1 : v_1 = 0 := ev_1.trans (by decide)
  subst ev_1
  refine va_aldg hx hb hK hP 1 0 rfl rfl (i := 0) (by unfold vp_in; decide) dX3_init_47 ?_
  refine W.eq (g2 := F0 m 48 ls [.ref (rr 0), .int 0, .ref (rr 1)]) (congrArg (fun z9 => F0 m 48 ls (z9 :: [.int 0, .ref (rr 1)])) (rfl)) ?_
  refine lv_iconst (v := 0) hx hb dX3_init_48 (by decide) ?_
  refine va_lald hx hb hK hP 2 1 rfl rfl (i := 0) (by unfold vp_in; decide) dX3_init_49 ?_
  refine lv_topl (fun v_2 ev_2 => ?_)
  refine va_last hx hb hK hP hD hS 3 1 rfl rfl (i := 0) (by unfold vp_in; decide) dX3_init_50 (fun H locs hP hD hS => ?_)
  have hP : va_P D vwCl ([(h0, .inr (10, [.ref q])), (q, .inl (cO, 11, .inr (.inr (.inr (.inr (fun i => if i < 11 then some (rr i) else none)))))), ((rr 0), .inl (cJ, 91, .inr (.inl (vp_updL (fun _ => 0) 0 (1))))), ((rr 1), .inl (cJ, 91, .inr (.inl (vp_updL (fun _ => 0) 0 (v_2))))), ((rr 2), .inl (cJ, 91, .inr (.inl (fun _ => 0)))), ((rr 3), .inl (cJ, 91, .inr (.inl (fun _ => 0)))), ((rr 4), .inl (cJ, 91, .inr (.inl (fun _ => 0)))), ((rr 5), .inl (cJ, 91, .inr (.inl (fun _ => 0)))), ((rr 6), .inl (cJ, 91, .inr (.inl (fun _ => 0)))), ((rr 7), .inl (cJ, 91, .inr (.inl (fun _ => 0)))), ((rr 8), .inl (cJ, 91, .inr (.inl (fun _ => 0)))), ((rr 9), .inl (cJ, 91, .inr (.inl (fun _ => 0)))), ((rr 10), .inl (cJ, 91, .inr (.inl (fun _ => 0))))]) H := hP
  have hD : va_D A ([(h0, .inr (10, [.ref q])), (q, .inl (cO, 11, .inr (.inr (.inr (.inr (fun i => if i < 11 then some (rr i) else none)))))), ((rr 0), .inl (cJ, 91, .inr (.inl (vp_updL (fun _ => 0) 0 (1))))), ((rr 1), .inl (cJ, 91, .inr (.inl (vp_updL (fun _ => 0) 0 (v_2))))), ((rr 2), .inl (cJ, 91, .inr (.inl (fun _ => 0)))), ((rr 3), .inl (cJ, 91, .inr (.inl (fun _ => 0)))), ((rr 4), .inl (cJ, 91, .inr (.inl (fun _ => 0)))), ((rr 5), .inl (cJ, 91, .inr (.inl (fun _ => 0)))), ((rr 6), .inl (cJ, 91, .inr (.inl (fun _ => 0)))), ((rr 7), .inl (cJ, 91, .inr (.inl (fun _ => 0)))), ((rr 8), .inl (cJ, 91, .inr (.inl (fun _ => 0)))), ((rr 9), .inl (cJ, 91, .inr (.inl (fun _ => 0)))), ((rr 10), .inl (cJ, 91, .inr (.inl (fun _ => 0))))]) := hD
  refine lv_iconst (v := 1) hx hb dX3_init_51 (by decide) ?_
  refine lv_istore_n (lv' := [(2, .int 1), (1, .int 1), (0, .ref h0)]) hx hb dX3_init_52 rfl hl (by decide) rfl (fun ls hl => ?_)
  have hF_0 : ∀ z, z < 91 → (vp_updL (fun _ => 0) 0 1) z = WW 0 z := fun z _ => rfl
  have hP : va_P D vwCl ([(h0, .inr (10, [.ref q])), (q, .inl (cO, 11, .inr (.inr (.inr (.inr (fun i => if i < 11 then some (rr i) else none)))))), ((rr 0), .inl (cJ, 91, .inr (.inl (vp_updL (fun _ => 0) 0 1)))), ((rr 1), .inl (cJ, 91, .inr (.inl (vp_updL (fun _ => 0) 0 (v_2))))), ((rr 2), .inl (cJ, 91, .inr (.inl (fun _ => 0)))), ((rr 3), .inl (cJ, 91, .inr (.inl (fun _ => 0)))), ((rr 4), .inl (cJ, 91, .inr (.inl (fun _ => 0)))), ((rr 5), .inl (cJ, 91, .inr (.inl (fun _ => 0)))), ((rr 6), .inl (cJ, 91, .inr (.inl (fun _ => 0)))), ((rr 7), .inl (cJ, 91, .inr (.inl (fun _ => 0)))), ((rr 8), .inl (cJ, 91, .inr (.inl (fun _ => 0)))), ((rr 9), .inl (cJ, 91, .inr (.inl (fun _ => 0)))), ((rr 10), .inl (cJ, 91, .inr (.inl (fun _ => 0))))]) H := hP
  have hD : va_D A ([(h0, .inr (10, [.ref q])), (q, .inl (cO, 11, .inr (.inr (.inr (.inr (fun i => if i < 11 then some (rr i) else none)))))), ((rr 0), .inl (cJ, 91, .inr (.inl (vp_updL (fun _ => 0) 0 1)))), ((rr 1), .inl (cJ, 91, .inr (.inl (vp_updL (fun _ => 0) 0 (v_2))))), ((rr 2), .inl (cJ, 91, .inr (.inl (fun _ => 0)))), ((rr 3), .inl (cJ, 91, .inr (.inl (fun _ => 0)))), ((rr 4), .inl (cJ, 91, .inr (.inl (fun _ => 0)))), ((rr 5), .inl (cJ, 91, .inr (.inl (fun _ => 0)))), ((rr 6), .inl (cJ, 91, .inr (.inl (fun _ => 0)))), ((rr 7), .inl (cJ, 91, .inr (.inl (fun _ => 0)))), ((rr 8), .inl (cJ, 91, .inr (.inl (fun _ => 0)))), ((rr 9), .inl (cJ, 91, .inr (.inl (fun _ => 0)))), ((rr 10), .inl (cJ, 91, .inr (.inl (fun _ => 0))))]) := hD
  refine x3_inner (i := 0) (xi := 1) (g := (fun i => if i < 11 then some (rr i) else none)) (k0 := 2) (k1 := 3) (kx := 0) (kq := 1) (tO := 0) (tJ := 1) (h0 := h0) (q := q) (cO := cO) (cJ := cJ) (a1 := (rr 1)) (a0 := (rr 0)) (f0 := (vp_updL (fun _ => 0) 0 1)) (ws0 := [(h0, .inr (10, [.ref q])), (q, .inl (cO, 11, .inr (.inr (.inr (.inr (fun i => if i < 11 then some (rr i) else none)))))), ((rr 0), .inl (cJ, 91, .inr (.inl (vp_updL (fun _ => 0) 0 1)))), ((rr 1), .inl (cJ, 91, .inr (.inl (vp_updL (fun _ => 0) 0 (v_2))))), ((rr 2), .inl (cJ, 91, .inr (.inl (fun _ => 0)))), ((rr 3), .inl (cJ, 91, .inr (.inl (fun _ => 0)))), ((rr 4), .inl (cJ, 91, .inr (.inl (fun _ => 0)))), ((rr 5), .inl (cJ, 91, .inr (.inl (fun _ => 0)))), ((rr 6), .inl (cJ, 91, .inr (.inl (fun _ => 0)))), ((rr 7), .inl (cJ, 91, .inr (.inl (fun _ => 0)))), ((rr 8), .inl (cJ, 91, .inr (.inl (fun _ => 0)))), ((rr 9), .inl (cJ, 91, .inr (.inl (fun _ => 0)))), ((rr 10), .inl (cJ, 91, .inr (.inl (fun _ => 0))))]) hx hb hown hts iRX3 (hts (.fieldLink RX3 11 "Sowingcourt$Rows" "ways" "[[J") (by decide +kernel)) hK rfl rfl rfl (by decide) rfl rfl (by decide) (by decide) (by decide) hF_0 (fun f1_1 H locs ls hF_1 hP hD hS hl => ?_) 100 0 (vp_updL (fun _ => 0) 0 (v_2)) [(h0, .inr (10, [.ref q])), (q, .inl (cO, 11, .inr (.inr (.inr (.inr (fun i => if i < 11 then some (rr i) else none)))))), ((rr 0), .inl (cJ, 91, .inr (.inl (vp_updL (fun _ => 0) 0 1)))), ((rr 1), .inl (cJ, 91, .inr (.inl (vp_updL (fun _ => 0) 0 (v_2))))), ((rr 2), .inl (cJ, 91, .inr (.inl (fun _ => 0)))), ((rr 3), .inl (cJ, 91, .inr (.inl (fun _ => 0)))), ((rr 4), .inl (cJ, 91, .inr (.inl (fun _ => 0)))), ((rr 5), .inl (cJ, 91, .inr (.inl (fun _ => 0)))), ((rr 6), .inl (cJ, 91, .inr (.inl (fun _ => 0)))), ((rr 7), .inl (cJ, 91, .inr (.inl (fun _ => 0)))), ((rr 8), .inl (cJ, 91, .inr (.inl (fun _ => 0)))), ((rr 9), .inl (cJ, 91, .inr (.inl (fun _ => 0)))), ((rr 10), .inl (cJ, 91, .inr (.inl (fun _ => 0))))] H locs ls (by omega) (by omega) (fun z hz => by rcases (show z = 0 by omega) with rfl; exact ev_2.trans (hF_0 0 (by omega))) (fun _ => rfl) rfl rfl rfl rfl hP hD hS (lv_sub hl [0, 1, 2] rfl)
  have hP : va_P D vwCl ([(h0, .inr (10, [.ref q])), (q, .inl (cO, 11, .inr (.inr (.inr (.inr (fun i => if i < 11 then some (rr i) else none)))))), ((rr 0), .inl (cJ, 91, .inr (.inl (vp_updL (fun _ => 0) 0 1)))), ((rr 1), .inl (cJ, 91, .inr (.inl f1_1))), ((rr 2), .inl (cJ, 91, .inr (.inl (fun _ => 0)))), ((rr 3), .inl (cJ, 91, .inr (.inl (fun _ => 0)))), ((rr 4), .inl (cJ, 91, .inr (.inl (fun _ => 0)))), ((rr 5), .inl (cJ, 91, .inr (.inl (fun _ => 0)))), ((rr 6), .inl (cJ, 91, .inr (.inl (fun _ => 0)))), ((rr 7), .inl (cJ, 91, .inr (.inl (fun _ => 0)))), ((rr 8), .inl (cJ, 91, .inr (.inl (fun _ => 0)))), ((rr 9), .inl (cJ, 91, .inr (.inl (fun _ => 0)))), ((rr 10), .inl (cJ, 91, .inr (.inl (fun _ => 0))))]) H := hP
  have hD : va_D A ([(h0, .inr (10, [.ref q])), (q, .inl (cO, 11, .inr (.inr (.inr (.inr (fun i => if i < 11 then some (rr i) else none)))))), ((rr 0), .inl (cJ, 91, .inr (.inl (vp_updL (fun _ => 0) 0 1)))), ((rr 1), .inl (cJ, 91, .inr (.inl f1_1))), ((rr 2), .inl (cJ, 91, .inr (.inl (fun _ => 0)))), ((rr 3), .inl (cJ, 91, .inr (.inl (fun _ => 0)))), ((rr 4), .inl (cJ, 91, .inr (.inl (fun _ => 0)))), ((rr 5), .inl (cJ, 91, .inr (.inl (fun _ => 0)))), ((rr 6), .inl (cJ, 91, .inr (.inl (fun _ => 0)))), ((rr 7), .inl (cJ, 91, .inr (.inl (fun _ => 0)))), ((rr 8), .inl (cJ, 91, .inr (.inl (fun _ => 0)))), ((rr 9), .inl (cJ, 91, .inr (.inl (fun _ => 0)))), ((rr 10), .inl (cJ, 91, .inr (.inl (fun _ => 0))))]) := hD
  refine lv_iinc (v := 2) (lv' := [(1, .int 2), (0, .ref h0)]) hx hb dX3_init_94 hl (k := 1) rfl (by decide) (by decide) rfl (fun ls hl => ?_)
  refine lv_goto (tgt := 27) hx hb dX3_init_97 (by decide) ?_
  refine lv_iload_n hx hb dX3_init_27 rfl (lv_at hl 0 rfl) ?_
  refine lv_bipush (v := 10) hx hb dX3_init_28 (by decide) ?_
  refine lv_icmp_gt (tgt := 100) hx hb dX3_init_30 (by decide) (fun c_30 => absurd c_30 (by decide)) (fun _ => ?_)
  refine lv_aload_n hx hb dX3_init_33 rfl (lv_at hl 1 rfl) ?_
  refine va_get (D := D) (ci := 10) (v := .ref q) (C := RX3) (T := TX3) (N := 1) hx hb hts iRX3 hown hK hP 0 rfl rfl 0 (by decide) (hts (.fieldLink RX3 11 "Sowingcourt$Rows" "ways" "[[J") (by decide +kernel)) (fun _ h9 => h9) rfl dX3_init_34 ?_
  refine lv_iload_n hx hb dX3_init_37 rfl (lv_at hl 0 rfl) ?_
  refine va_aldg hx hb hK hP 1 0 rfl rfl (i := 2) (by unfold vp_in; decide) dX3_init_38 ?_
  refine W.eq (g2 := F0 m 39 ls [.ref (rr 2)]) (congrArg (fun z9 => F0 m 39 ls (z9 :: [])) (rfl)) ?_
  refine lv_iconst (v := 0) hx hb dX3_init_39 (by decide) ?_
  refine lv_aload_n hx hb dX3_init_40 rfl (lv_at hl 1 rfl) ?_
  refine va_get (D := D) (ci := 10) (v := .ref q) (C := RX3) (T := TX3) (N := 1) hx hb hts iRX3 hown hK hP 0 rfl rfl 0 (by decide) (hts (.fieldLink RX3 11 "Sowingcourt$Rows" "ways" "[[J") (by decide +kernel)) (fun _ h9 => h9) rfl dX3_init_41 ?_
  refine lv_iload_n hx hb dX3_init_44 rfl (lv_at hl 0 rfl) ?_
  refine lv_iconst (v := 1) hx hb dX3_init_45 (by decide) ?_
  refine lv_isub hx hb dX3_init_46 ?_
  refine lv_topi (fun v_3 ev_3 => ?_)
  have ev_3 : v_3 = 1 := ev_3.trans (by decide)
  subst ev_3
  refine va_aldg hx hb hK hP 1 0 rfl rfl (i := 1) (by unfold vp_in; decide) dX3_init_47 ?_
  refine W.eq (g2 := F0 m 48 ls [.ref (rr 1), .int 0, .ref (rr 2)]) (congrArg (fun z9 => F0 m 48 ls (z9 :: [.int 0, .ref (rr 2)])) (rfl)) ?_
  refine lv_iconst (v := 0) hx hb dX3_init_48 (by decide) ?_
  refine va_lald hx hb hK hP 3 1 rfl rfl (i := 0) (by unfold vp_in; decide) dX3_init_49 ?_
  refine lv_topl (fun v_4 ev_4 => ?_)
  refine va_last hx hb hK hP hD hS 4 1 rfl rfl (i := 0) (by unfold vp_in; decide) dX3_init_50 (fun H locs hP hD hS => ?_)
  have hP : va_P D vwCl ([(h0, .inr (10, [.ref q])), (q, .inl (cO, 11, .inr (.inr (.inr (.inr (fun i => if i < 11 then some (rr i) else none)))))), ((rr 0), .inl (cJ, 91, .inr (.inl (vp_updL (fun _ => 0) 0 1)))), ((rr 1), .inl (cJ, 91, .inr (.inl f1_1))), ((rr 2), .inl (cJ, 91, .inr (.inl (vp_updL (fun _ => 0) 0 (v_4))))), ((rr 3), .inl (cJ, 91, .inr (.inl (fun _ => 0)))), ((rr 4), .inl (cJ, 91, .inr (.inl (fun _ => 0)))), ((rr 5), .inl (cJ, 91, .inr (.inl (fun _ => 0)))), ((rr 6), .inl (cJ, 91, .inr (.inl (fun _ => 0)))), ((rr 7), .inl (cJ, 91, .inr (.inl (fun _ => 0)))), ((rr 8), .inl (cJ, 91, .inr (.inl (fun _ => 0)))), ((rr 9), .inl (cJ, 91, .inr (.inl (fun _ => 0)))), ((rr 10), .inl (cJ, 91, .inr (.inl (fun _ => 0))))]) H := hP
  have hD : va_D A ([(h0, .inr (10, [.ref q])), (q, .inl (cO, 11, .inr (.inr (.inr (.inr (fun i => if i < 11 then some (rr i) else none)))))), ((rr 0), .inl (cJ, 91, .inr (.inl (vp_updL (fun _ => 0) 0 1)))), ((rr 1), .inl (cJ, 91, .inr (.inl f1_1))), ((rr 2), .inl (cJ, 91, .inr (.inl (vp_updL (fun _ => 0) 0 (v_4))))), ((rr 3), .inl (cJ, 91, .inr (.inl (fun _ => 0)))), ((rr 4), .inl (cJ, 91, .inr (.inl (fun _ => 0)))), ((rr 5), .inl (cJ, 91, .inr (.inl (fun _ => 0)))), ((rr 6), .inl (cJ, 91, .inr (.inl (fun _ => 0)))), ((rr 7), .inl (cJ, 91, .inr (.inl (fun _ => 0)))), ((rr 8), .inl (cJ, 91, .inr (.inl (fun _ => 0)))), ((rr 9), .inl (cJ, 91, .inr (.inl (fun _ => 0)))), ((rr 10), .inl (cJ, 91, .inr (.inl (fun _ => 0))))]) := hD
  refine lv_iconst (v := 1) hx hb dX3_init_51 (by decide) ?_
  refine lv_istore_n (lv' := [(2, .int 1), (1, .int 2), (0, .ref h0)]) hx hb dX3_init_52 rfl hl (by decide) rfl (fun ls hl => ?_)
  refine x3_inner (i := 1) (xi := 2) (g := (fun i => if i < 11 then some (rr i) else none)) (k0 := 3) (k1 := 4) (kx := 0) (kq := 1) (tO := 0) (tJ := 1) (h0 := h0) (q := q) (cO := cO) (cJ := cJ) (a1 := (rr 2)) (a0 := (rr 1)) (f0 := f1_1) (ws0 := [(h0, .inr (10, [.ref q])), (q, .inl (cO, 11, .inr (.inr (.inr (.inr (fun i => if i < 11 then some (rr i) else none)))))), ((rr 0), .inl (cJ, 91, .inr (.inl (vp_updL (fun _ => 0) 0 1)))), ((rr 1), .inl (cJ, 91, .inr (.inl f1_1))), ((rr 2), .inl (cJ, 91, .inr (.inl (vp_updL (fun _ => 0) 0 (v_4))))), ((rr 3), .inl (cJ, 91, .inr (.inl (fun _ => 0)))), ((rr 4), .inl (cJ, 91, .inr (.inl (fun _ => 0)))), ((rr 5), .inl (cJ, 91, .inr (.inl (fun _ => 0)))), ((rr 6), .inl (cJ, 91, .inr (.inl (fun _ => 0)))), ((rr 7), .inl (cJ, 91, .inr (.inl (fun _ => 0)))), ((rr 8), .inl (cJ, 91, .inr (.inl (fun _ => 0)))), ((rr 9), .inl (cJ, 91, .inr (.inl (fun _ => 0)))), ((rr 10), .inl (cJ, 91, .inr (.inl (fun _ => 0))))]) hx hb hown hts iRX3 (hts (.fieldLink RX3 11 "Sowingcourt$Rows" "ways" "[[J") (by decide +kernel)) hK rfl rfl rfl (by decide) rfl rfl (by decide) (by decide) (by decide) hF_1 (fun f1_2 H locs ls hF_2 hP hD hS hl => ?_) 100 0 (vp_updL (fun _ => 0) 0 (v_4)) [(h0, .inr (10, [.ref q])), (q, .inl (cO, 11, .inr (.inr (.inr (.inr (fun i => if i < 11 then some (rr i) else none)))))), ((rr 0), .inl (cJ, 91, .inr (.inl (vp_updL (fun _ => 0) 0 1)))), ((rr 1), .inl (cJ, 91, .inr (.inl f1_1))), ((rr 2), .inl (cJ, 91, .inr (.inl (vp_updL (fun _ => 0) 0 (v_4))))), ((rr 3), .inl (cJ, 91, .inr (.inl (fun _ => 0)))), ((rr 4), .inl (cJ, 91, .inr (.inl (fun _ => 0)))), ((rr 5), .inl (cJ, 91, .inr (.inl (fun _ => 0)))), ((rr 6), .inl (cJ, 91, .inr (.inl (fun _ => 0)))), ((rr 7), .inl (cJ, 91, .inr (.inl (fun _ => 0)))), ((rr 8), .inl (cJ, 91, .inr (.inl (fun _ => 0)))), ((rr 9), .inl (cJ, 91, .inr (.inl (fun _ => 0)))), ((rr 10), .inl (cJ, 91, .inr (.inl (fun _ => 0))))] H locs ls (by omega) (by omega) (fun z hz => by rcases (show z = 0 by omega) with rfl; exact ev_4.trans (hF_1 0 (by omega))) (fun _ => rfl) rfl rfl rfl rfl hP hD hS (lv_sub hl [0, 1, 2] rfl)
  have hP : va_P D vwCl ([(h0, .inr (10, [.ref q])), (q, .inl (cO, 11, .inr (.inr (.inr (.inr (fun i => if i < 11 then some (rr i) else none)))))), ((rr 0), .inl (cJ, 91, .inr (.inl (vp_updL (fun _ => 0) 0 1)))), ((rr 1), .inl (cJ, 91, .inr (.inl f1_1))), ((rr 2), .inl (cJ, 91, .inr (.inl f1_2))), ((rr 3), .inl (cJ, 91, .inr (.inl (fun _ => 0)))), ((rr 4), .inl (cJ, 91, .inr (.inl (fun _ => 0)))), ((rr 5), .inl (cJ, 91, .inr (.inl (fun _ => 0)))), ((rr 6), .inl (cJ, 91, .inr (.inl (fun _ => 0)))), ((rr 7), .inl (cJ, 91, .inr (.inl (fun _ => 0)))), ((rr 8), .inl (cJ, 91, .inr (.inl (fun _ => 0)))), ((rr 9), .inl (cJ, 91, .inr (.inl (fun _ => 0)))), ((rr 10), .inl (cJ, 91, .inr (.inl (fun _ => 0))))]) H := hP
  have hD : va_D A ([(h0, .inr (10, [.ref q])), (q, .inl (cO, 11, .inr (.inr (.inr (.inr (fun i => if i < 11 then some (rr i) else none)))))), ((rr 0), .inl (cJ, 91, .inr (.inl (vp_updL (fun _ => 0) 0 1)))), ((rr 1), .inl (cJ, 91, .inr (.inl f1_1))), ((rr 2), .inl (cJ, 91, .inr (.inl f1_2))), ((rr 3), .inl (cJ, 91, .inr (.inl (fun _ => 0)))), ((rr 4), .inl (cJ, 91, .inr (.inl (fun _ => 0)))), ((rr 5), .inl (cJ, 91, .inr (.inl (fun _ => 0)))), ((rr 6), .inl (cJ, 91, .inr (.inl (fun _ => 0)))), ((rr 7), .inl (cJ, 91, .inr (.inl (fun _ => 0)))), ((rr 8), .inl (cJ, 91, .inr (.inl (fun _ => 0)))), ((rr 9), .inl (cJ, 91, .inr (.inl (fun _ => 0)))), ((rr 10), .inl (cJ, 91, .inr (.inl (fun _ => 0))))]) := hD
  refine lv_iinc (v := 3) (lv' := [(1, .int 3), (0, .ref h0)]) hx hb dX3_init_94 hl (k := 1) rfl (by decide) (by decide) rfl (fun ls hl => ?_)
  refine lv_goto (tgt := 27) hx hb dX3_init_97 (by decide) ?_
  refine lv_iload_n hx hb dX3_init_27 rfl (lv_at hl 0 rfl) ?_
  refine lv_bipush (v := 10) hx hb dX3_init_28 (by decide) ?_
  refine lv_icmp_gt (tgt := 100) hx hb dX3_init_30 (by decide) (fun c_30 => absurd c_30 (by decide)) (fun _ => ?_)
  refine lv_aload_n hx hb dX3_init_33 rfl (lv_at hl 1 rfl) ?_
  refine va_get (D := D) (ci := 10) (v := .ref q) (C := RX3) (T := TX3) (N := 1) hx hb hts iRX3 hown hK hP 0 rfl rfl 0 (by decide) (hts (.fieldLink RX3 11 "Sowingcourt$Rows" "ways" "[[J") (by decide +kernel)) (fun _ h9 => h9) rfl dX3_init_34 ?_
  refine lv_iload_n hx hb dX3_init_37 rfl (lv_at hl 0 rfl) ?_
  refine va_aldg hx hb hK hP 1 0 rfl rfl (i := 3) (by unfold vp_in; decide) dX3_init_38 ?_
  refine W.eq (g2 := F0 m 39 ls [.ref (rr 3)]) (congrArg (fun z9 => F0 m 39 ls (z9 :: [])) (rfl)) ?_
  refine lv_iconst (v := 0) hx hb dX3_init_39 (by decide) ?_
  refine lv_aload_n hx hb dX3_init_40 rfl (lv_at hl 1 rfl) ?_
  refine va_get (D := D) (ci := 10) (v := .ref q) (C := RX3) (T := TX3) (N := 1) hx hb hts iRX3 hown hK hP 0 rfl rfl 0 (by decide) (hts (.fieldLink RX3 11 "Sowingcourt$Rows" "ways" "[[J") (by decide +kernel)) (fun _ h9 => h9) rfl dX3_init_41 ?_
  refine lv_iload_n hx hb dX3_init_44 rfl (lv_at hl 0 rfl) ?_
  refine lv_iconst (v := 1) hx hb dX3_init_45 (by decide) ?_
  refine lv_isub hx hb dX3_init_46 ?_
  refine lv_topi (fun v_5 ev_5 => ?_)
  have ev_5 : v_5 = 2 := ev_5.trans (by decide)
  subst ev_5
  refine va_aldg hx hb hK hP 1 0 rfl rfl (i := 2) (by unfold vp_in; decide) dX3_init_47 ?_
  refine W.eq (g2 := F0 m 48 ls [.ref (rr 2), .int 0, .ref (rr 3)]) (congrArg (fun z9 => F0 m 48 ls (z9 :: [.int 0, .ref (rr 3)])) (rfl)) ?_
  refine lv_iconst (v := 0) hx hb dX3_init_48 (by decide) ?_
  refine va_lald hx hb hK hP 4 1 rfl rfl (i := 0) (by unfold vp_in; decide) dX3_init_49 ?_
  refine lv_topl (fun v_6 ev_6 => ?_)
  refine va_last hx hb hK hP hD hS 5 1 rfl rfl (i := 0) (by unfold vp_in; decide) dX3_init_50 (fun H locs hP hD hS => ?_)
  have hP : va_P D vwCl ([(h0, .inr (10, [.ref q])), (q, .inl (cO, 11, .inr (.inr (.inr (.inr (fun i => if i < 11 then some (rr i) else none)))))), ((rr 0), .inl (cJ, 91, .inr (.inl (vp_updL (fun _ => 0) 0 1)))), ((rr 1), .inl (cJ, 91, .inr (.inl f1_1))), ((rr 2), .inl (cJ, 91, .inr (.inl f1_2))), ((rr 3), .inl (cJ, 91, .inr (.inl (vp_updL (fun _ => 0) 0 (v_6))))), ((rr 4), .inl (cJ, 91, .inr (.inl (fun _ => 0)))), ((rr 5), .inl (cJ, 91, .inr (.inl (fun _ => 0)))), ((rr 6), .inl (cJ, 91, .inr (.inl (fun _ => 0)))), ((rr 7), .inl (cJ, 91, .inr (.inl (fun _ => 0)))), ((rr 8), .inl (cJ, 91, .inr (.inl (fun _ => 0)))), ((rr 9), .inl (cJ, 91, .inr (.inl (fun _ => 0)))), ((rr 10), .inl (cJ, 91, .inr (.inl (fun _ => 0))))]) H := hP
  have hD : va_D A ([(h0, .inr (10, [.ref q])), (q, .inl (cO, 11, .inr (.inr (.inr (.inr (fun i => if i < 11 then some (rr i) else none)))))), ((rr 0), .inl (cJ, 91, .inr (.inl (vp_updL (fun _ => 0) 0 1)))), ((rr 1), .inl (cJ, 91, .inr (.inl f1_1))), ((rr 2), .inl (cJ, 91, .inr (.inl f1_2))), ((rr 3), .inl (cJ, 91, .inr (.inl (vp_updL (fun _ => 0) 0 (v_6))))), ((rr 4), .inl (cJ, 91, .inr (.inl (fun _ => 0)))), ((rr 5), .inl (cJ, 91, .inr (.inl (fun _ => 0)))), ((rr 6), .inl (cJ, 91, .inr (.inl (fun _ => 0)))), ((rr 7), .inl (cJ, 91, .inr (.inl (fun _ => 0)))), ((rr 8), .inl (cJ, 91, .inr (.inl (fun _ => 0)))), ((rr 9), .inl (cJ, 91, .inr (.inl (fun _ => 0)))), ((rr 10), .inl (cJ, 91, .inr (.inl (fun _ => 0))))]) := hD
  refine lv_iconst (v := 1) hx hb dX3_init_51 (by decide) ?_
  refine lv_istore_n (lv' := [(2, .int 1), (1, .int 3), (0, .ref h0)]) hx hb dX3_init_52 rfl hl (by decide) rfl (fun ls hl => ?_)
  refine x3_inner (i := 2) (xi := 3) (g := (fun i => if i < 11 then some (rr i) else none)) (k0 := 4) (k1 := 5) (kx := 0) (kq := 1) (tO := 0) (tJ := 1) (h0 := h0) (q := q) (cO := cO) (cJ := cJ) (a1 := (rr 3)) (a0 := (rr 2)) (f0 := f1_2) (ws0 := [(h0, .inr (10, [.ref q])), (q, .inl (cO, 11, .inr (.inr (.inr (.inr (fun i => if i < 11 then some (rr i) else none)))))), ((rr 0), .inl (cJ, 91, .inr (.inl (vp_updL (fun _ => 0) 0 1)))), ((rr 1), .inl (cJ, 91, .inr (.inl f1_1))), ((rr 2), .inl (cJ, 91, .inr (.inl f1_2))), ((rr 3), .inl (cJ, 91, .inr (.inl (vp_updL (fun _ => 0) 0 (v_6))))), ((rr 4), .inl (cJ, 91, .inr (.inl (fun _ => 0)))), ((rr 5), .inl (cJ, 91, .inr (.inl (fun _ => 0)))), ((rr 6), .inl (cJ, 91, .inr (.inl (fun _ => 0)))), ((rr 7), .inl (cJ, 91, .inr (.inl (fun _ => 0)))), ((rr 8), .inl (cJ, 91, .inr (.inl (fun _ => 0)))), ((rr 9), .inl (cJ, 91, .inr (.inl (fun _ => 0)))), ((rr 10), .inl (cJ, 91, .inr (.inl (fun _ => 0))))]) hx hb hown hts iRX3 (hts (.fieldLink RX3 11 "Sowingcourt$Rows" "ways" "[[J") (by decide +kernel)) hK rfl rfl rfl (by decide) rfl rfl (by decide) (by decide) (by decide) hF_2 (fun f1_3 H locs ls hF_3 hP hD hS hl => ?_) 100 0 (vp_updL (fun _ => 0) 0 (v_6)) [(h0, .inr (10, [.ref q])), (q, .inl (cO, 11, .inr (.inr (.inr (.inr (fun i => if i < 11 then some (rr i) else none)))))), ((rr 0), .inl (cJ, 91, .inr (.inl (vp_updL (fun _ => 0) 0 1)))), ((rr 1), .inl (cJ, 91, .inr (.inl f1_1))), ((rr 2), .inl (cJ, 91, .inr (.inl f1_2))), ((rr 3), .inl (cJ, 91, .inr (.inl (vp_updL (fun _ => 0) 0 (v_6))))), ((rr 4), .inl (cJ, 91, .inr (.inl (fun _ => 0)))), ((rr 5), .inl (cJ, 91, .inr (.inl (fun _ => 0)))), ((rr 6), .inl (cJ, 91, .inr (.inl (fun _ => 0)))), ((rr 7), .inl (cJ, 91, .inr (.inl (fun _ => 0)))), ((rr 8), .inl (cJ, 91, .inr (.inl (fun _ => 0)))), ((rr 9), .inl (cJ, 91, .inr (.inl (fun _ => 0)))), ((rr 10), .inl (cJ, 91, .inr (.inl (fun _ => 0))))] H locs ls (by omega) (by omega) (fun z hz => by rcases (show z = 0 by omega) with rfl; exact ev_6.trans (hF_2 0 (by omega))) (fun _ => rfl) rfl rfl rfl rfl hP hD hS (lv_sub hl [0, 1, 2] rfl)
  have hP : va_P D vwCl ([(h0, .inr (10, [.ref q])), (q, .inl (cO, 11, .inr (.inr (.inr (.inr (fun i => if i < 11 then some (rr i) else none)))))), ((rr 0), .inl (cJ, 91, .inr (.inl (vp_updL (fun _ => 0) 0 1)))), ((rr 1), .inl (cJ, 91, .inr (.inl f1_1))), ((rr 2), .inl (cJ, 91, .inr (.inl f1_2))), ((rr 3), .inl (cJ, 91, .inr (.inl f1_3))), ((rr 4), .inl (cJ, 91, .inr (.inl (fun _ => 0)))), ((rr 5), .inl (cJ, 91, .inr (.inl (fun _ => 0)))), ((rr 6), .inl (cJ, 91, .inr (.inl (fun _ => 0)))), ((rr 7), .inl (cJ, 91, .inr (.inl (fun _ => 0)))), ((rr 8), .inl (cJ, 91, .inr (.inl (fun _ => 0)))), ((rr 9), .inl (cJ, 91, .inr (.inl (fun _ => 0)))), ((rr 10), .inl (cJ, 91, .inr (.inl (fun _ => 0))))]) H := hP
  have hD : va_D A ([(h0, .inr (10, [.ref q])), (q, .inl (cO, 11, .inr (.inr (.inr (.inr (fun i => if i < 11 then some (rr i) else none)))))), ((rr 0), .inl (cJ, 91, .inr (.inl (vp_updL (fun _ => 0) 0 1)))), ((rr 1), .inl (cJ, 91, .inr (.inl f1_1))), ((rr 2), .inl (cJ, 91, .inr (.inl f1_2))), ((rr 3), .inl (cJ, 91, .inr (.inl f1_3))), ((rr 4), .inl (cJ, 91, .inr (.inl (fun _ => 0)))), ((rr 5), .inl (cJ, 91, .inr (.inl (fun _ => 0)))), ((rr 6), .inl (cJ, 91, .inr (.inl (fun _ => 0)))), ((rr 7), .inl (cJ, 91, .inr (.inl (fun _ => 0)))), ((rr 8), .inl (cJ, 91, .inr (.inl (fun _ => 0)))), ((rr 9), .inl (cJ, 91, .inr (.inl (fun _ => 0)))), ((rr 10), .inl (cJ, 91, .inr (.inl (fun _ => 0))))]) := hD
  refine lv_iinc (v := 4) (lv' := [(1, .int 4), (0, .ref h0)]) hx hb dX3_init_94 hl (k := 1) rfl (by decide) (by decide) rfl (fun ls hl => ?_)
  refine lv_goto (tgt := 27) hx hb dX3_init_97 (by decide) ?_
  refine lv_iload_n hx hb dX3_init_27 rfl (lv_at hl 0 rfl) ?_
  refine lv_bipush (v := 10) hx hb dX3_init_28 (by decide) ?_
  refine lv_icmp_gt (tgt := 100) hx hb dX3_init_30 (by decide) (fun c_30 => absurd c_30 (by decide)) (fun _ => ?_)
  refine lv_aload_n hx hb dX3_init_33 rfl (lv_at hl 1 rfl) ?_
  refine va_get (D := D) (ci := 10) (v := .ref q) (C := RX3) (T := TX3) (N := 1) hx hb hts iRX3 hown hK hP 0 rfl rfl 0 (by decide) (hts (.fieldLink RX3 11 "Sowingcourt$Rows" "ways" "[[J") (by decide +kernel)) (fun _ h9 => h9) rfl dX3_init_34 ?_
  refine lv_iload_n hx hb dX3_init_37 rfl (lv_at hl 0 rfl) ?_
  refine va_aldg hx hb hK hP 1 0 rfl rfl (i := 4) (by unfold vp_in; decide) dX3_init_38 ?_
  refine W.eq (g2 := F0 m 39 ls [.ref (rr 4)]) (congrArg (fun z9 => F0 m 39 ls (z9 :: [])) (rfl)) ?_
  refine lv_iconst (v := 0) hx hb dX3_init_39 (by decide) ?_
  refine lv_aload_n hx hb dX3_init_40 rfl (lv_at hl 1 rfl) ?_
  refine va_get (D := D) (ci := 10) (v := .ref q) (C := RX3) (T := TX3) (N := 1) hx hb hts iRX3 hown hK hP 0 rfl rfl 0 (by decide) (hts (.fieldLink RX3 11 "Sowingcourt$Rows" "ways" "[[J") (by decide +kernel)) (fun _ h9 => h9) rfl dX3_init_41 ?_
  refine lv_iload_n hx hb dX3_init_44 rfl (lv_at hl 0 rfl) ?_
  refine lv_iconst (v := 1) hx hb dX3_init_45 (by decide) ?_
  refine lv_isub hx hb dX3_init_46 ?_
  refine lv_topi (fun v_7 ev_7 => ?_)
  have ev_7 : v_7 = 3 := ev_7.trans (by decide)
  subst ev_7
  refine va_aldg hx hb hK hP 1 0 rfl rfl (i := 3) (by unfold vp_in; decide) dX3_init_47 ?_
  refine W.eq (g2 := F0 m 48 ls [.ref (rr 3), .int 0, .ref (rr 4)]) (congrArg (fun z9 => F0 m 48 ls (z9 :: [.int 0, .ref (rr 4)])) (rfl)) ?_
  refine lv_iconst (v := 0) hx hb dX3_init_48 (by decide) ?_
  refine va_lald hx hb hK hP 5 1 rfl rfl (i := 0) (by unfold vp_in; decide) dX3_init_49 ?_
  refine lv_topl (fun v_8 ev_8 => ?_)
  refine va_last hx hb hK hP hD hS 6 1 rfl rfl (i := 0) (by unfold vp_in; decide) dX3_init_50 (fun H locs hP hD hS => ?_)
  have hP : va_P D vwCl ([(h0, .inr (10, [.ref q])), (q, .inl (cO, 11, .inr (.inr (.inr (.inr (fun i => if i < 11 then some (rr i) else none)))))), ((rr 0), .inl (cJ, 91, .inr (.inl (vp_updL (fun _ => 0) 0 1)))), ((rr 1), .inl (cJ, 91, .inr (.inl f1_1))), ((rr 2), .inl (cJ, 91, .inr (.inl f1_2))), ((rr 3), .inl (cJ, 91, .inr (.inl f1_3))), ((rr 4), .inl (cJ, 91, .inr (.inl (vp_updL (fun _ => 0) 0 (v_8))))), ((rr 5), .inl (cJ, 91, .inr (.inl (fun _ => 0)))), ((rr 6), .inl (cJ, 91, .inr (.inl (fun _ => 0)))), ((rr 7), .inl (cJ, 91, .inr (.inl (fun _ => 0)))), ((rr 8), .inl (cJ, 91, .inr (.inl (fun _ => 0)))), ((rr 9), .inl (cJ, 91, .inr (.inl (fun _ => 0)))), ((rr 10), .inl (cJ, 91, .inr (.inl (fun _ => 0))))]) H := hP
  have hD : va_D A ([(h0, .inr (10, [.ref q])), (q, .inl (cO, 11, .inr (.inr (.inr (.inr (fun i => if i < 11 then some (rr i) else none)))))), ((rr 0), .inl (cJ, 91, .inr (.inl (vp_updL (fun _ => 0) 0 1)))), ((rr 1), .inl (cJ, 91, .inr (.inl f1_1))), ((rr 2), .inl (cJ, 91, .inr (.inl f1_2))), ((rr 3), .inl (cJ, 91, .inr (.inl f1_3))), ((rr 4), .inl (cJ, 91, .inr (.inl (vp_updL (fun _ => 0) 0 (v_8))))), ((rr 5), .inl (cJ, 91, .inr (.inl (fun _ => 0)))), ((rr 6), .inl (cJ, 91, .inr (.inl (fun _ => 0)))), ((rr 7), .inl (cJ, 91, .inr (.inl (fun _ => 0)))), ((rr 8), .inl (cJ, 91, .inr (.inl (fun _ => 0)))), ((rr 9), .inl (cJ, 91, .inr (.inl (fun _ => 0)))), ((rr 10), .inl (cJ, 91, .inr (.inl (fun _ => 0))))]) := hD
  refine lv_iconst (v := 1) hx hb dX3_init_51 (by decide) ?_
  refine lv_istore_n (lv' := [(2, .int 1), (1, .int 4), (0, .ref h0)]) hx hb dX3_init_52 rfl hl (by decide) rfl (fun ls hl => ?_)
  refine x3_inner (i := 3) (xi := 4) (g := (fun i => if i < 11 then some (rr i) else none)) (k0 := 5) (k1 := 6) (kx := 0) (kq := 1) (tO := 0) (tJ := 1) (h0 := h0) (q := q) (cO := cO) (cJ := cJ) (a1 := (rr 4)) (a0 := (rr 3)) (f0 := f1_3) (ws0 := [(h0, .inr (10, [.ref q])), (q, .inl (cO, 11, .inr (.inr (.inr (.inr (fun i => if i < 11 then some (rr i) else none)))))), ((rr 0), .inl (cJ, 91, .inr (.inl (vp_updL (fun _ => 0) 0 1)))), ((rr 1), .inl (cJ, 91, .inr (.inl f1_1))), ((rr 2), .inl (cJ, 91, .inr (.inl f1_2))), ((rr 3), .inl (cJ, 91, .inr (.inl f1_3))), ((rr 4), .inl (cJ, 91, .inr (.inl (vp_updL (fun _ => 0) 0 (v_8))))), ((rr 5), .inl (cJ, 91, .inr (.inl (fun _ => 0)))), ((rr 6), .inl (cJ, 91, .inr (.inl (fun _ => 0)))), ((rr 7), .inl (cJ, 91, .inr (.inl (fun _ => 0)))), ((rr 8), .inl (cJ, 91, .inr (.inl (fun _ => 0)))), ((rr 9), .inl (cJ, 91, .inr (.inl (fun _ => 0)))), ((rr 10), .inl (cJ, 91, .inr (.inl (fun _ => 0))))]) hx hb hown hts iRX3 (hts (.fieldLink RX3 11 "Sowingcourt$Rows" "ways" "[[J") (by decide +kernel)) hK rfl rfl rfl (by decide) rfl rfl (by decide) (by decide) (by decide) hF_3 (fun f1_4 H locs ls hF_4 hP hD hS hl => ?_) 100 0 (vp_updL (fun _ => 0) 0 (v_8)) [(h0, .inr (10, [.ref q])), (q, .inl (cO, 11, .inr (.inr (.inr (.inr (fun i => if i < 11 then some (rr i) else none)))))), ((rr 0), .inl (cJ, 91, .inr (.inl (vp_updL (fun _ => 0) 0 1)))), ((rr 1), .inl (cJ, 91, .inr (.inl f1_1))), ((rr 2), .inl (cJ, 91, .inr (.inl f1_2))), ((rr 3), .inl (cJ, 91, .inr (.inl f1_3))), ((rr 4), .inl (cJ, 91, .inr (.inl (vp_updL (fun _ => 0) 0 (v_8))))), ((rr 5), .inl (cJ, 91, .inr (.inl (fun _ => 0)))), ((rr 6), .inl (cJ, 91, .inr (.inl (fun _ => 0)))), ((rr 7), .inl (cJ, 91, .inr (.inl (fun _ => 0)))), ((rr 8), .inl (cJ, 91, .inr (.inl (fun _ => 0)))), ((rr 9), .inl (cJ, 91, .inr (.inl (fun _ => 0)))), ((rr 10), .inl (cJ, 91, .inr (.inl (fun _ => 0))))] H locs ls (by omega) (by omega) (fun z hz => by rcases (show z = 0 by omega) with rfl; exact ev_8.trans (hF_3 0 (by omega))) (fun _ => rfl) rfl rfl rfl rfl hP hD hS (lv_sub hl [0, 1, 2] rfl)
  have hP : va_P D vwCl ([(h0, .inr (10, [.ref q])), (q, .inl (cO, 11, .inr (.inr (.inr (.inr (fun i => if i < 11 then some (rr i) else none)))))), ((rr 0), .inl (cJ, 91, .inr (.inl (vp_updL (fun _ => 0) 0 1)))), ((rr 1), .inl (cJ, 91, .inr (.inl f1_1))), ((rr 2), .inl (cJ, 91, .inr (.inl f1_2))), ((rr 3), .inl (cJ, 91, .inr (.inl f1_3))), ((rr 4), .inl (cJ, 91, .inr (.inl f1_4))), ((rr 5), .inl (cJ, 91, .inr (.inl (fun _ => 0)))), ((rr 6), .inl (cJ, 91, .inr (.inl (fun _ => 0)))), ((rr 7), .inl (cJ, 91, .inr (.inl (fun _ => 0)))), ((rr 8), .inl (cJ, 91, .inr (.inl (fun _ => 0)))), ((rr 9), .inl (cJ, 91, .inr (.inl (fun _ => 0)))), ((rr 10), .inl (cJ, 91, .inr (.inl (fun _ => 0))))]) H := hP
  have hD : va_D A ([(h0, .inr (10, [.ref q])), (q, .inl (cO, 11, .inr (.inr (.inr (.inr (fun i => if i < 11 then some (rr i) else none)))))), ((rr 0), .inl (cJ, 91, .inr (.inl (vp_updL (fun _ => 0) 0 1)))), ((rr 1), .inl (cJ, 91, .inr (.inl f1_1))), ((rr 2), .inl (cJ, 91, .inr (.inl f1_2))), ((rr 3), .inl (cJ, 91, .inr (.inl f1_3))), ((rr 4), .inl (cJ, 91, .inr (.inl f1_4))), ((rr 5), .inl (cJ, 91, .inr (.inl (fun _ => 0)))), ((rr 6), .inl (cJ, 91, .inr (.inl (fun _ => 0)))), ((rr 7), .inl (cJ, 91, .inr (.inl (fun _ => 0)))), ((rr 8), .inl (cJ, 91, .inr (.inl (fun _ => 0)))), ((rr 9), .inl (cJ, 91, .inr (.inl (fun _ => 0)))), ((rr 10), .inl (cJ, 91, .inr (.inl (fun _ => 0))))]) := hD
  refine lv_iinc (v := 5) (lv' := [(1, .int 5), (0, .ref h0)]) hx hb dX3_init_94 hl (k := 1) rfl (by decide) (by decide) rfl (fun ls hl => ?_)
  refine lv_goto (tgt := 27) hx hb dX3_init_97 (by decide) ?_
  refine lv_iload_n hx hb dX3_init_27 rfl (lv_at hl 0 rfl) ?_
  refine lv_bipush (v := 10) hx hb dX3_init_28 (by decide) ?_
  refine lv_icmp_gt (tgt := 100) hx hb dX3_init_30 (by decide) (fun c_30 => absurd c_30 (by decide)) (fun _ => ?_)
  refine lv_aload_n hx hb dX3_init_33 rfl (lv_at hl 1 rfl) ?_
  refine va_get (D := D) (ci := 10) (v := .ref q) (C := RX3) (T := TX3) (N := 1) hx hb hts iRX3 hown hK hP 0 rfl rfl 0 (by decide) (hts (.fieldLink RX3 11 "Sowingcourt$Rows" "ways" "[[J") (by decide +kernel)) (fun _ h9 => h9) rfl dX3_init_34 ?_
  refine lv_iload_n hx hb dX3_init_37 rfl (lv_at hl 0 rfl) ?_
  refine va_aldg hx hb hK hP 1 0 rfl rfl (i := 5) (by unfold vp_in; decide) dX3_init_38 ?_
  refine W.eq (g2 := F0 m 39 ls [.ref (rr 5)]) (congrArg (fun z9 => F0 m 39 ls (z9 :: [])) (rfl)) ?_
  refine lv_iconst (v := 0) hx hb dX3_init_39 (by decide) ?_
  refine lv_aload_n hx hb dX3_init_40 rfl (lv_at hl 1 rfl) ?_
  refine va_get (D := D) (ci := 10) (v := .ref q) (C := RX3) (T := TX3) (N := 1) hx hb hts iRX3 hown hK hP 0 rfl rfl 0 (by decide) (hts (.fieldLink RX3 11 "Sowingcourt$Rows" "ways" "[[J") (by decide +kernel)) (fun _ h9 => h9) rfl dX3_init_41 ?_
  refine lv_iload_n hx hb dX3_init_44 rfl (lv_at hl 0 rfl) ?_
  refine lv_iconst (v := 1) hx hb dX3_init_45 (by decide) ?_
  refine lv_isub hx hb dX3_init_46 ?_
  refine lv_topi (fun v_9 ev_9 => ?_)
  have ev_9 : v_9 = 4 := ev_9.trans (by decide)
  subst ev_9
  refine va_aldg hx hb hK hP 1 0 rfl rfl (i := 4) (by unfold vp_in; decide) dX3_init_47 ?_
  refine W.eq (g2 := F0 m 48 ls [.ref (rr 4), .int 0, .ref (rr 5)]) (congrArg (fun z9 => F0 m 48 ls (z9 :: [.int 0, .ref (rr 5)])) (rfl)) ?_
  refine lv_iconst (v := 0) hx hb dX3_init_48 (by decide) ?_
  refine va_lald hx hb hK hP 6 1 rfl rfl (i := 0) (by unfold vp_in; decide) dX3_init_49 ?_
  refine lv_topl (fun v_10 ev_10 => ?_)
  refine va_last hx hb hK hP hD hS 7 1 rfl rfl (i := 0) (by unfold vp_in; decide) dX3_init_50 (fun H locs hP hD hS => ?_)
  have hP : va_P D vwCl ([(h0, .inr (10, [.ref q])), (q, .inl (cO, 11, .inr (.inr (.inr (.inr (fun i => if i < 11 then some (rr i) else none)))))), ((rr 0), .inl (cJ, 91, .inr (.inl (vp_updL (fun _ => 0) 0 1)))), ((rr 1), .inl (cJ, 91, .inr (.inl f1_1))), ((rr 2), .inl (cJ, 91, .inr (.inl f1_2))), ((rr 3), .inl (cJ, 91, .inr (.inl f1_3))), ((rr 4), .inl (cJ, 91, .inr (.inl f1_4))), ((rr 5), .inl (cJ, 91, .inr (.inl (vp_updL (fun _ => 0) 0 (v_10))))), ((rr 6), .inl (cJ, 91, .inr (.inl (fun _ => 0)))), ((rr 7), .inl (cJ, 91, .inr (.inl (fun _ => 0)))), ((rr 8), .inl (cJ, 91, .inr (.inl (fun _ => 0)))), ((rr 9), .inl (cJ, 91, .inr (.inl (fun _ => 0)))), ((rr 10), .inl (cJ, 91, .inr (.inl (fun _ => 0))))]) H := hP
  have hD : va_D A ([(h0, .inr (10, [.ref q])), (q, .inl (cO, 11, .inr (.inr (.inr (.inr (fun i => if i < 11 then some (rr i) else none)))))), ((rr 0), .inl (cJ, 91, .inr (.inl (vp_updL (fun _ => 0) 0 1)))), ((rr 1), .inl (cJ, 91, .inr (.inl f1_1))), ((rr 2), .inl (cJ, 91, .inr (.inl f1_2))), ((rr 3), .inl (cJ, 91, .inr (.inl f1_3))), ((rr 4), .inl (cJ, 91, .inr (.inl f1_4))), ((rr 5), .inl (cJ, 91, .inr (.inl (vp_updL (fun _ => 0) 0 (v_10))))), ((rr 6), .inl (cJ, 91, .inr (.inl (fun _ => 0)))), ((rr 7), .inl (cJ, 91, .inr (.inl (fun _ => 0)))), ((rr 8), .inl (cJ, 91, .inr (.inl (fun _ => 0)))), ((rr 9), .inl (cJ, 91, .inr (.inl (fun _ => 0)))), ((rr 10), .inl (cJ, 91, .inr (.inl (fun _ => 0))))]) := hD
  refine lv_iconst (v := 1) hx hb dX3_init_51 (by decide) ?_
  refine lv_istore_n (lv' := [(2, .int 1), (1, .int 5), (0, .ref h0)]) hx hb dX3_init_52 rfl hl (by decide) rfl (fun ls hl => ?_)
  refine x3_inner (i := 4) (xi := 5) (g := (fun i => if i < 11 then some (rr i) else none)) (k0 := 6) (k1 := 7) (kx := 0) (kq := 1) (tO := 0) (tJ := 1) (h0 := h0) (q := q) (cO := cO) (cJ := cJ) (a1 := (rr 5)) (a0 := (rr 4)) (f0 := f1_4) (ws0 := [(h0, .inr (10, [.ref q])), (q, .inl (cO, 11, .inr (.inr (.inr (.inr (fun i => if i < 11 then some (rr i) else none)))))), ((rr 0), .inl (cJ, 91, .inr (.inl (vp_updL (fun _ => 0) 0 1)))), ((rr 1), .inl (cJ, 91, .inr (.inl f1_1))), ((rr 2), .inl (cJ, 91, .inr (.inl f1_2))), ((rr 3), .inl (cJ, 91, .inr (.inl f1_3))), ((rr 4), .inl (cJ, 91, .inr (.inl f1_4))), ((rr 5), .inl (cJ, 91, .inr (.inl (vp_updL (fun _ => 0) 0 (v_10))))), ((rr 6), .inl (cJ, 91, .inr (.inl (fun _ => 0)))), ((rr 7), .inl (cJ, 91, .inr (.inl (fun _ => 0)))), ((rr 8), .inl (cJ, 91, .inr (.inl (fun _ => 0)))), ((rr 9), .inl (cJ, 91, .inr (.inl (fun _ => 0)))), ((rr 10), .inl (cJ, 91, .inr (.inl (fun _ => 0))))]) hx hb hown hts iRX3 (hts (.fieldLink RX3 11 "Sowingcourt$Rows" "ways" "[[J") (by decide +kernel)) hK rfl rfl rfl (by decide) rfl rfl (by decide) (by decide) (by decide) hF_4 (fun f1_5 H locs ls hF_5 hP hD hS hl => ?_) 100 0 (vp_updL (fun _ => 0) 0 (v_10)) [(h0, .inr (10, [.ref q])), (q, .inl (cO, 11, .inr (.inr (.inr (.inr (fun i => if i < 11 then some (rr i) else none)))))), ((rr 0), .inl (cJ, 91, .inr (.inl (vp_updL (fun _ => 0) 0 1)))), ((rr 1), .inl (cJ, 91, .inr (.inl f1_1))), ((rr 2), .inl (cJ, 91, .inr (.inl f1_2))), ((rr 3), .inl (cJ, 91, .inr (.inl f1_3))), ((rr 4), .inl (cJ, 91, .inr (.inl f1_4))), ((rr 5), .inl (cJ, 91, .inr (.inl (vp_updL (fun _ => 0) 0 (v_10))))), ((rr 6), .inl (cJ, 91, .inr (.inl (fun _ => 0)))), ((rr 7), .inl (cJ, 91, .inr (.inl (fun _ => 0)))), ((rr 8), .inl (cJ, 91, .inr (.inl (fun _ => 0)))), ((rr 9), .inl (cJ, 91, .inr (.inl (fun _ => 0)))), ((rr 10), .inl (cJ, 91, .inr (.inl (fun _ => 0))))] H locs ls (by omega) (by omega) (fun z hz => by rcases (show z = 0 by omega) with rfl; exact ev_10.trans (hF_4 0 (by omega))) (fun _ => rfl) rfl rfl rfl rfl hP hD hS (lv_sub hl [0, 1, 2] rfl)
  have hP : va_P D vwCl ([(h0, .inr (10, [.ref q])), (q, .inl (cO, 11, .inr (.inr (.inr (.inr (fun i => if i < 11 then some (rr i) else none)))))), ((rr 0), .inl (cJ, 91, .inr (.inl (vp_updL (fun _ => 0) 0 1)))), ((rr 1), .inl (cJ, 91, .inr (.inl f1_1))), ((rr 2), .inl (cJ, 91, .inr (.inl f1_2))), ((rr 3), .inl (cJ, 91, .inr (.inl f1_3))), ((rr 4), .inl (cJ, 91, .inr (.inl f1_4))), ((rr 5), .inl (cJ, 91, .inr (.inl f1_5))), ((rr 6), .inl (cJ, 91, .inr (.inl (fun _ => 0)))), ((rr 7), .inl (cJ, 91, .inr (.inl (fun _ => 0)))), ((rr 8), .inl (cJ, 91, .inr (.inl (fun _ => 0)))), ((rr 9), .inl (cJ, 91, .inr (.inl (fun _ => 0)))), ((rr 10), .inl (cJ, 91, .inr (.inl (fun _ => 0))))]) H := hP
  have hD : va_D A ([(h0, .inr (10, [.ref q])), (q, .inl (cO, 11, .inr (.inr (.inr (.inr (fun i => if i < 11 then some (rr i) else none)))))), ((rr 0), .inl (cJ, 91, .inr (.inl (vp_updL (fun _ => 0) 0 1)))), ((rr 1), .inl (cJ, 91, .inr (.inl f1_1))), ((rr 2), .inl (cJ, 91, .inr (.inl f1_2))), ((rr 3), .inl (cJ, 91, .inr (.inl f1_3))), ((rr 4), .inl (cJ, 91, .inr (.inl f1_4))), ((rr 5), .inl (cJ, 91, .inr (.inl f1_5))), ((rr 6), .inl (cJ, 91, .inr (.inl (fun _ => 0)))), ((rr 7), .inl (cJ, 91, .inr (.inl (fun _ => 0)))), ((rr 8), .inl (cJ, 91, .inr (.inl (fun _ => 0)))), ((rr 9), .inl (cJ, 91, .inr (.inl (fun _ => 0)))), ((rr 10), .inl (cJ, 91, .inr (.inl (fun _ => 0))))]) := hD
  refine lv_iinc (v := 6) (lv' := [(1, .int 6), (0, .ref h0)]) hx hb dX3_init_94 hl (k := 1) rfl (by decide) (by decide) rfl (fun ls hl => ?_)
  refine lv_goto (tgt := 27) hx hb dX3_init_97 (by decide) ?_
  refine lv_iload_n hx hb dX3_init_27 rfl (lv_at hl 0 rfl) ?_
  refine lv_bipush (v := 10) hx hb dX3_init_28 (by decide) ?_
  refine lv_icmp_gt (tgt := 100) hx hb dX3_init_30 (by decide) (fun c_30 => absurd c_30 (by decide)) (fun _ => ?_)
  refine lv_aload_n hx hb dX3_init_33 rfl (lv_at hl 1 rfl) ?_
  refine va_get (D := D) (ci := 10) (v := .ref q) (C := RX3) (T := TX3) (N := 1) hx hb hts iRX3 hown hK hP 0 rfl rfl 0 (by decide) (hts (.fieldLink RX3 11 "Sowingcourt$Rows" "ways" "[[J") (by decide +kernel)) (fun _ h9 => h9) rfl dX3_init_34 ?_
  refine lv_iload_n hx hb dX3_init_37 rfl (lv_at hl 0 rfl) ?_
  refine va_aldg hx hb hK hP 1 0 rfl rfl (i := 6) (by unfold vp_in; decide) dX3_init_38 ?_
  refine W.eq (g2 := F0 m 39 ls [.ref (rr 6)]) (congrArg (fun z9 => F0 m 39 ls (z9 :: [])) (rfl)) ?_
  refine lv_iconst (v := 0) hx hb dX3_init_39 (by decide) ?_
  refine lv_aload_n hx hb dX3_init_40 rfl (lv_at hl 1 rfl) ?_
  refine va_get (D := D) (ci := 10) (v := .ref q) (C := RX3) (T := TX3) (N := 1) hx hb hts iRX3 hown hK hP 0 rfl rfl 0 (by decide) (hts (.fieldLink RX3 11 "Sowingcourt$Rows" "ways" "[[J") (by decide +kernel)) (fun _ h9 => h9) rfl dX3_init_41 ?_
  refine lv_iload_n hx hb dX3_init_44 rfl (lv_at hl 0 rfl) ?_
  refine lv_iconst (v := 1) hx hb dX3_init_45 (by decide) ?_
  refine lv_isub hx hb dX3_init_46 ?_
  refine lv_topi (fun v_11 ev_11 => ?_)
  have ev_11 : v_11 = 5 := ev_11.trans (by decide)
  subst ev_11
  refine va_aldg hx hb hK hP 1 0 rfl rfl (i := 5) (by unfold vp_in; decide) dX3_init_47 ?_
  refine W.eq (g2 := F0 m 48 ls [.ref (rr 5), .int 0, .ref (rr 6)]) (congrArg (fun z9 => F0 m 48 ls (z9 :: [.int 0, .ref (rr 6)])) (rfl)) ?_
  refine lv_iconst (v := 0) hx hb dX3_init_48 (by decide) ?_
  refine va_lald hx hb hK hP 7 1 rfl rfl (i := 0) (by unfold vp_in; decide) dX3_init_49 ?_
  refine lv_topl (fun v_12 ev_12 => ?_)
  refine va_last hx hb hK hP hD hS 8 1 rfl rfl (i := 0) (by unfold vp_in; decide) dX3_init_50 (fun H locs hP hD hS => ?_)
  have hP : va_P D vwCl ([(h0, .inr (10, [.ref q])), (q, .inl (cO, 11, .inr (.inr (.inr (.inr (fun i => if i < 11 then some (rr i) else none)))))), ((rr 0), .inl (cJ, 91, .inr (.inl (vp_updL (fun _ => 0) 0 1)))), ((rr 1), .inl (cJ, 91, .inr (.inl f1_1))), ((rr 2), .inl (cJ, 91, .inr (.inl f1_2))), ((rr 3), .inl (cJ, 91, .inr (.inl f1_3))), ((rr 4), .inl (cJ, 91, .inr (.inl f1_4))), ((rr 5), .inl (cJ, 91, .inr (.inl f1_5))), ((rr 6), .inl (cJ, 91, .inr (.inl (vp_updL (fun _ => 0) 0 (v_12))))), ((rr 7), .inl (cJ, 91, .inr (.inl (fun _ => 0)))), ((rr 8), .inl (cJ, 91, .inr (.inl (fun _ => 0)))), ((rr 9), .inl (cJ, 91, .inr (.inl (fun _ => 0)))), ((rr 10), .inl (cJ, 91, .inr (.inl (fun _ => 0))))]) H := hP
  have hD : va_D A ([(h0, .inr (10, [.ref q])), (q, .inl (cO, 11, .inr (.inr (.inr (.inr (fun i => if i < 11 then some (rr i) else none)))))), ((rr 0), .inl (cJ, 91, .inr (.inl (vp_updL (fun _ => 0) 0 1)))), ((rr 1), .inl (cJ, 91, .inr (.inl f1_1))), ((rr 2), .inl (cJ, 91, .inr (.inl f1_2))), ((rr 3), .inl (cJ, 91, .inr (.inl f1_3))), ((rr 4), .inl (cJ, 91, .inr (.inl f1_4))), ((rr 5), .inl (cJ, 91, .inr (.inl f1_5))), ((rr 6), .inl (cJ, 91, .inr (.inl (vp_updL (fun _ => 0) 0 (v_12))))), ((rr 7), .inl (cJ, 91, .inr (.inl (fun _ => 0)))), ((rr 8), .inl (cJ, 91, .inr (.inl (fun _ => 0)))), ((rr 9), .inl (cJ, 91, .inr (.inl (fun _ => 0)))), ((rr 10), .inl (cJ, 91, .inr (.inl (fun _ => 0))))]) := hD
  refine lv_iconst (v := 1) hx hb dX3_init_51 (by decide) ?_
  refine lv_istore_n (lv' := [(2, .int 1), (1, .int 6), (0, .ref h0)]) hx hb dX3_init_52 rfl hl (by decide) rfl (fun ls hl => ?_)
  refine x3_inner (i := 5) (xi := 6) (g := (fun i => if i < 11 then some (rr i) else none)) (k0 := 7) (k1 := 8) (kx := 0) (kq := 1) (tO := 0) (tJ := 1) (h0 := h0) (q := q) (cO := cO) (cJ := cJ) (a1 := (rr 6)) (a0 := (rr 5)) (f0 := f1_5) (ws0 := [(h0, .inr (10, [.ref q])), (q, .inl (cO, 11, .inr (.inr (.inr (.inr (fun i => if i < 11 then some (rr i) else none)))))), ((rr 0), .inl (cJ, 91, .inr (.inl (vp_updL (fun _ => 0) 0 1)))), ((rr 1), .inl (cJ, 91, .inr (.inl f1_1))), ((rr 2), .inl (cJ, 91, .inr (.inl f1_2))), ((rr 3), .inl (cJ, 91, .inr (.inl f1_3))), ((rr 4), .inl (cJ, 91, .inr (.inl f1_4))), ((rr 5), .inl (cJ, 91, .inr (.inl f1_5))), ((rr 6), .inl (cJ, 91, .inr (.inl (vp_updL (fun _ => 0) 0 (v_12))))), ((rr 7), .inl (cJ, 91, .inr (.inl (fun _ => 0)))), ((rr 8), .inl (cJ, 91, .inr (.inl (fun _ => 0)))), ((rr 9), .inl (cJ, 91, .inr (.inl (fun _ => 0)))), ((rr 10), .inl (cJ, 91, .inr (.inl (fun _ => 0))))]) hx hb hown hts iRX3 (hts (.fieldLink RX3 11 "Sowingcourt$Rows" "ways" "[[J") (by decide +kernel)) hK rfl rfl rfl (by decide) rfl rfl (by decide) (by decide) (by decide) hF_5 (fun f1_6 H locs ls hF_6 hP hD hS hl => ?_) 100 0 (vp_updL (fun _ => 0) 0 (v_12)) [(h0, .inr (10, [.ref q])), (q, .inl (cO, 11, .inr (.inr (.inr (.inr (fun i => if i < 11 then some (rr i) else none)))))), ((rr 0), .inl (cJ, 91, .inr (.inl (vp_updL (fun _ => 0) 0 1)))), ((rr 1), .inl (cJ, 91, .inr (.inl f1_1))), ((rr 2), .inl (cJ, 91, .inr (.inl f1_2))), ((rr 3), .inl (cJ, 91, .inr (.inl f1_3))), ((rr 4), .inl (cJ, 91, .inr (.inl f1_4))), ((rr 5), .inl (cJ, 91, .inr (.inl f1_5))), ((rr 6), .inl (cJ, 91, .inr (.inl (vp_updL (fun _ => 0) 0 (v_12))))), ((rr 7), .inl (cJ, 91, .inr (.inl (fun _ => 0)))), ((rr 8), .inl (cJ, 91, .inr (.inl (fun _ => 0)))), ((rr 9), .inl (cJ, 91, .inr (.inl (fun _ => 0)))), ((rr 10), .inl (cJ, 91, .inr (.inl (fun _ => 0))))] H locs ls (by omega) (by omega) (fun z hz => by rcases (show z = 0 by omega) with rfl; exact ev_12.trans (hF_5 0 (by omega))) (fun _ => rfl) rfl rfl rfl rfl hP hD hS (lv_sub hl [0, 1, 2] rfl)
  have hP : va_P D vwCl ([(h0, .inr (10, [.ref q])), (q, .inl (cO, 11, .inr (.inr (.inr (.inr (fun i => if i < 11 then some (rr i) else none)))))), ((rr 0), .inl (cJ, 91, .inr (.inl (vp_updL (fun _ => 0) 0 1)))), ((rr 1), .inl (cJ, 91, .inr (.inl f1_1))), ((rr 2), .inl (cJ, 91, .inr (.inl f1_2))), ((rr 3), .inl (cJ, 91, .inr (.inl f1_3))), ((rr 4), .inl (cJ, 91, .inr (.inl f1_4))), ((rr 5), .inl (cJ, 91, .inr (.inl f1_5))), ((rr 6), .inl (cJ, 91, .inr (.inl f1_6))), ((rr 7), .inl (cJ, 91, .inr (.inl (fun _ => 0)))), ((rr 8), .inl (cJ, 91, .inr (.inl (fun _ => 0)))), ((rr 9), .inl (cJ, 91, .inr (.inl (fun _ => 0)))), ((rr 10), .inl (cJ, 91, .inr (.inl (fun _ => 0))))]) H := hP
  have hD : va_D A ([(h0, .inr (10, [.ref q])), (q, .inl (cO, 11, .inr (.inr (.inr (.inr (fun i => if i < 11 then some (rr i) else none)))))), ((rr 0), .inl (cJ, 91, .inr (.inl (vp_updL (fun _ => 0) 0 1)))), ((rr 1), .inl (cJ, 91, .inr (.inl f1_1))), ((rr 2), .inl (cJ, 91, .inr (.inl f1_2))), ((rr 3), .inl (cJ, 91, .inr (.inl f1_3))), ((rr 4), .inl (cJ, 91, .inr (.inl f1_4))), ((rr 5), .inl (cJ, 91, .inr (.inl f1_5))), ((rr 6), .inl (cJ, 91, .inr (.inl f1_6))), ((rr 7), .inl (cJ, 91, .inr (.inl (fun _ => 0)))), ((rr 8), .inl (cJ, 91, .inr (.inl (fun _ => 0)))), ((rr 9), .inl (cJ, 91, .inr (.inl (fun _ => 0)))), ((rr 10), .inl (cJ, 91, .inr (.inl (fun _ => 0))))]) := hD
  refine lv_iinc (v := 7) (lv' := [(1, .int 7), (0, .ref h0)]) hx hb dX3_init_94 hl (k := 1) rfl (by decide) (by decide) rfl (fun ls hl => ?_)
  refine lv_goto (tgt := 27) hx hb dX3_init_97 (by decide) ?_
  refine lv_iload_n hx hb dX3_init_27 rfl (lv_at hl 0 rfl) ?_
  refine lv_bipush (v := 10) hx hb dX3_init_28 (by decide) ?_
  refine lv_icmp_gt (tgt := 100) hx hb dX3_init_30 (by decide) (fun c_30 => absurd c_30 (by decide)) (fun _ => ?_)
  refine lv_aload_n hx hb dX3_init_33 rfl (lv_at hl 1 rfl) ?_
  refine va_get (D := D) (ci := 10) (v := .ref q) (C := RX3) (T := TX3) (N := 1) hx hb hts iRX3 hown hK hP 0 rfl rfl 0 (by decide) (hts (.fieldLink RX3 11 "Sowingcourt$Rows" "ways" "[[J") (by decide +kernel)) (fun _ h9 => h9) rfl dX3_init_34 ?_
  refine lv_iload_n hx hb dX3_init_37 rfl (lv_at hl 0 rfl) ?_
  refine va_aldg hx hb hK hP 1 0 rfl rfl (i := 7) (by unfold vp_in; decide) dX3_init_38 ?_
  refine W.eq (g2 := F0 m 39 ls [.ref (rr 7)]) (congrArg (fun z9 => F0 m 39 ls (z9 :: [])) (rfl)) ?_
  refine lv_iconst (v := 0) hx hb dX3_init_39 (by decide) ?_
  refine lv_aload_n hx hb dX3_init_40 rfl (lv_at hl 1 rfl) ?_
  refine va_get (D := D) (ci := 10) (v := .ref q) (C := RX3) (T := TX3) (N := 1) hx hb hts iRX3 hown hK hP 0 rfl rfl 0 (by decide) (hts (.fieldLink RX3 11 "Sowingcourt$Rows" "ways" "[[J") (by decide +kernel)) (fun _ h9 => h9) rfl dX3_init_41 ?_
  refine lv_iload_n hx hb dX3_init_44 rfl (lv_at hl 0 rfl) ?_
  refine lv_iconst (v := 1) hx hb dX3_init_45 (by decide) ?_
  refine lv_isub hx hb dX3_init_46 ?_
  refine lv_topi (fun v_13 ev_13 => ?_)
  have ev_13 : v_13 = 6 := ev_13.trans (by decide)
  subst ev_13
  refine va_aldg hx hb hK hP 1 0 rfl rfl (i := 6) (by unfold vp_in; decide) dX3_init_47 ?_
  refine W.eq (g2 := F0 m 48 ls [.ref (rr 6), .int 0, .ref (rr 7)]) (congrArg (fun z9 => F0 m 48 ls (z9 :: [.int 0, .ref (rr 7)])) (rfl)) ?_
  refine lv_iconst (v := 0) hx hb dX3_init_48 (by decide) ?_
  refine va_lald hx hb hK hP 8 1 rfl rfl (i := 0) (by unfold vp_in; decide) dX3_init_49 ?_
  refine lv_topl (fun v_14 ev_14 => ?_)
  refine va_last hx hb hK hP hD hS 9 1 rfl rfl (i := 0) (by unfold vp_in; decide) dX3_init_50 (fun H locs hP hD hS => ?_)
  have hP : va_P D vwCl ([(h0, .inr (10, [.ref q])), (q, .inl (cO, 11, .inr (.inr (.inr (.inr (fun i => if i < 11 then some (rr i) else none)))))), ((rr 0), .inl (cJ, 91, .inr (.inl (vp_updL (fun _ => 0) 0 1)))), ((rr 1), .inl (cJ, 91, .inr (.inl f1_1))), ((rr 2), .inl (cJ, 91, .inr (.inl f1_2))), ((rr 3), .inl (cJ, 91, .inr (.inl f1_3))), ((rr 4), .inl (cJ, 91, .inr (.inl f1_4))), ((rr 5), .inl (cJ, 91, .inr (.inl f1_5))), ((rr 6), .inl (cJ, 91, .inr (.inl f1_6))), ((rr 7), .inl (cJ, 91, .inr (.inl (vp_updL (fun _ => 0) 0 (v_14))))), ((rr 8), .inl (cJ, 91, .inr (.inl (fun _ => 0)))), ((rr 9), .inl (cJ, 91, .inr (.inl (fun _ => 0)))), ((rr 10), .inl (cJ, 91, .inr (.inl (fun _ => 0))))]) H := hP
  have hD : va_D A ([(h0, .inr (10, [.ref q])), (q, .inl (cO, 11, .inr (.inr (.inr (.inr (fun i => if i < 11 then some (rr i) else none)))))), ((rr 0), .inl (cJ, 91, .inr (.inl (vp_updL (fun _ => 0) 0 1)))), ((rr 1), .inl (cJ, 91, .inr (.inl f1_1))), ((rr 2), .inl (cJ, 91, .inr (.inl f1_2))), ((rr 3), .inl (cJ, 91, .inr (.inl f1_3))), ((rr 4), .inl (cJ, 91, .inr (.inl f1_4))), ((rr 5), .inl (cJ, 91, .inr (.inl f1_5))), ((rr 6), .inl (cJ, 91, .inr (.inl f1_6))), ((rr 7), .inl (cJ, 91, .inr (.inl (vp_updL (fun _ => 0) 0 (v_14))))), ((rr 8), .inl (cJ, 91, .inr (.inl (fun _ => 0)))), ((rr 9), .inl (cJ, 91, .inr (.inl (fun _ => 0)))), ((rr 10), .inl (cJ, 91, .inr (.inl (fun _ => 0))))]) := hD
  refine lv_iconst (v := 1) hx hb dX3_init_51 (by decide) ?_
  refine lv_istore_n (lv' := [(2, .int 1), (1, .int 7), (0, .ref h0)]) hx hb dX3_init_52 rfl hl (by decide) rfl (fun ls hl => ?_)
  refine x3_inner (i := 6) (xi := 7) (g := (fun i => if i < 11 then some (rr i) else none)) (k0 := 8) (k1 := 9) (kx := 0) (kq := 1) (tO := 0) (tJ := 1) (h0 := h0) (q := q) (cO := cO) (cJ := cJ) (a1 := (rr 7)) (a0 := (rr 6)) (f0 := f1_6) (ws0 := [(h0, .inr (10, [.ref q])), (q, .inl (cO, 11, .inr (.inr (.inr (.inr (fun i => if i < 11 then some (rr i) else none)))))), ((rr 0), .inl (cJ, 91, .inr (.inl (vp_updL (fun _ => 0) 0 1)))), ((rr 1), .inl (cJ, 91, .inr (.inl f1_1))), ((rr 2), .inl (cJ, 91, .inr (.inl f1_2))), ((rr 3), .inl (cJ, 91, .inr (.inl f1_3))), ((rr 4), .inl (cJ, 91, .inr (.inl f1_4))), ((rr 5), .inl (cJ, 91, .inr (.inl f1_5))), ((rr 6), .inl (cJ, 91, .inr (.inl f1_6))), ((rr 7), .inl (cJ, 91, .inr (.inl (vp_updL (fun _ => 0) 0 (v_14))))), ((rr 8), .inl (cJ, 91, .inr (.inl (fun _ => 0)))), ((rr 9), .inl (cJ, 91, .inr (.inl (fun _ => 0)))), ((rr 10), .inl (cJ, 91, .inr (.inl (fun _ => 0))))]) hx hb hown hts iRX3 (hts (.fieldLink RX3 11 "Sowingcourt$Rows" "ways" "[[J") (by decide +kernel)) hK rfl rfl rfl (by decide) rfl rfl (by decide) (by decide) (by decide) hF_6 (fun f1_7 H locs ls hF_7 hP hD hS hl => ?_) 100 0 (vp_updL (fun _ => 0) 0 (v_14)) [(h0, .inr (10, [.ref q])), (q, .inl (cO, 11, .inr (.inr (.inr (.inr (fun i => if i < 11 then some (rr i) else none)))))), ((rr 0), .inl (cJ, 91, .inr (.inl (vp_updL (fun _ => 0) 0 1)))), ((rr 1), .inl (cJ, 91, .inr (.inl f1_1))), ((rr 2), .inl (cJ, 91, .inr (.inl f1_2))), ((rr 3), .inl (cJ, 91, .inr (.inl f1_3))), ((rr 4), .inl (cJ, 91, .inr (.inl f1_4))), ((rr 5), .inl (cJ, 91, .inr (.inl f1_5))), ((rr 6), .inl (cJ, 91, .inr (.inl f1_6))), ((rr 7), .inl (cJ, 91, .inr (.inl (vp_updL (fun _ => 0) 0 (v_14))))), ((rr 8), .inl (cJ, 91, .inr (.inl (fun _ => 0)))), ((rr 9), .inl (cJ, 91, .inr (.inl (fun _ => 0)))), ((rr 10), .inl (cJ, 91, .inr (.inl (fun _ => 0))))] H locs ls (by omega) (by omega) (fun z hz => by rcases (show z = 0 by omega) with rfl; exact ev_14.trans (hF_6 0 (by omega))) (fun _ => rfl) rfl rfl rfl rfl hP hD hS (lv_sub hl [0, 1, 2] rfl)
  have hP : va_P D vwCl ([(h0, .inr (10, [.ref q])), (q, .inl (cO, 11, .inr (.inr (.inr (.inr (fun i => if i < 11 then some (rr i) else none)))))), ((rr 0), .inl (cJ, 91, .inr (.inl (vp_updL (fun _ => 0) 0 1)))), ((rr 1), .inl (cJ, 91, .inr (.inl f1_1))), ((rr 2), .inl (cJ, 91, .inr (.inl f1_2))), ((rr 3), .inl (cJ, 91, .inr (.inl f1_3))), ((rr 4), .inl (cJ, 91, .inr (.inl f1_4))), ((rr 5), .inl (cJ, 91, .inr (.inl f1_5))), ((rr 6), .inl (cJ, 91, .inr (.inl f1_6))), ((rr 7), .inl (cJ, 91, .inr (.inl f1_7))), ((rr 8), .inl (cJ, 91, .inr (.inl (fun _ => 0)))), ((rr 9), .inl (cJ, 91, .inr (.inl (fun _ => 0)))), ((rr 10), .inl (cJ, 91, .inr (.inl (fun _ => 0))))]) H := hP
  have hD : va_D A ([(h0, .inr (10, [.ref q])), (q, .inl (cO, 11, .inr (.inr (.inr (.inr (fun i => if i < 11 then some (rr i) else none)))))), ((rr 0), .inl (cJ, 91, .inr (.inl (vp_updL (fun _ => 0) 0 1)))), ((rr 1), .inl (cJ, 91, .inr (.inl f1_1))), ((rr 2), .inl (cJ, 91, .inr (.inl f1_2))), ((rr 3), .inl (cJ, 91, .inr (.inl f1_3))), ((rr 4), .inl (cJ, 91, .inr (.inl f1_4))), ((rr 5), .inl (cJ, 91, .inr (.inl f1_5))), ((rr 6), .inl (cJ, 91, .inr (.inl f1_6))), ((rr 7), .inl (cJ, 91, .inr (.inl f1_7))), ((rr 8), .inl (cJ, 91, .inr (.inl (fun _ => 0)))), ((rr 9), .inl (cJ, 91, .inr (.inl (fun _ => 0)))), ((rr 10), .inl (cJ, 91, .inr (.inl (fun _ => 0))))]) := hD
  refine lv_iinc (v := 8) (lv' := [(1, .int 8), (0, .ref h0)]) hx hb dX3_init_94 hl (k := 1) rfl (by decide) (by decide) rfl (fun ls hl => ?_)
  refine lv_goto (tgt := 27) hx hb dX3_init_97 (by decide) ?_
  refine lv_iload_n hx hb dX3_init_27 rfl (lv_at hl 0 rfl) ?_
  refine lv_bipush (v := 10) hx hb dX3_init_28 (by decide) ?_
  refine lv_icmp_gt (tgt := 100) hx hb dX3_init_30 (by decide) (fun c_30 => absurd c_30 (by decide)) (fun _ => ?_)
  refine lv_aload_n hx hb dX3_init_33 rfl (lv_at hl 1 rfl) ?_
  refine va_get (D := D) (ci := 10) (v := .ref q) (C := RX3) (T := TX3) (N := 1) hx hb hts iRX3 hown hK hP 0 rfl rfl 0 (by decide) (hts (.fieldLink RX3 11 "Sowingcourt$Rows" "ways" "[[J") (by decide +kernel)) (fun _ h9 => h9) rfl dX3_init_34 ?_
  refine lv_iload_n hx hb dX3_init_37 rfl (lv_at hl 0 rfl) ?_
  refine va_aldg hx hb hK hP 1 0 rfl rfl (i := 8) (by unfold vp_in; decide) dX3_init_38 ?_
  refine W.eq (g2 := F0 m 39 ls [.ref (rr 8)]) (congrArg (fun z9 => F0 m 39 ls (z9 :: [])) (rfl)) ?_
  refine lv_iconst (v := 0) hx hb dX3_init_39 (by decide) ?_
  refine lv_aload_n hx hb dX3_init_40 rfl (lv_at hl 1 rfl) ?_
  refine va_get (D := D) (ci := 10) (v := .ref q) (C := RX3) (T := TX3) (N := 1) hx hb hts iRX3 hown hK hP 0 rfl rfl 0 (by decide) (hts (.fieldLink RX3 11 "Sowingcourt$Rows" "ways" "[[J") (by decide +kernel)) (fun _ h9 => h9) rfl dX3_init_41 ?_
  refine lv_iload_n hx hb dX3_init_44 rfl (lv_at hl 0 rfl) ?_
  refine lv_iconst (v := 1) hx hb dX3_init_45 (by decide) ?_
  refine lv_isub hx hb dX3_init_46 ?_
  refine lv_topi (fun v_15 ev_15 => ?_)
  have ev_15 : v_15 = 7 := ev_15.trans (by decide)
  subst ev_15
  refine va_aldg hx hb hK hP 1 0 rfl rfl (i := 7) (by unfold vp_in; decide) dX3_init_47 ?_
  refine W.eq (g2 := F0 m 48 ls [.ref (rr 7), .int 0, .ref (rr 8)]) (congrArg (fun z9 => F0 m 48 ls (z9 :: [.int 0, .ref (rr 8)])) (rfl)) ?_
  refine lv_iconst (v := 0) hx hb dX3_init_48 (by decide) ?_
  refine va_lald hx hb hK hP 9 1 rfl rfl (i := 0) (by unfold vp_in; decide) dX3_init_49 ?_
  refine lv_topl (fun v_16 ev_16 => ?_)
  refine va_last hx hb hK hP hD hS 10 1 rfl rfl (i := 0) (by unfold vp_in; decide) dX3_init_50 (fun H locs hP hD hS => ?_)
  have hP : va_P D vwCl ([(h0, .inr (10, [.ref q])), (q, .inl (cO, 11, .inr (.inr (.inr (.inr (fun i => if i < 11 then some (rr i) else none)))))), ((rr 0), .inl (cJ, 91, .inr (.inl (vp_updL (fun _ => 0) 0 1)))), ((rr 1), .inl (cJ, 91, .inr (.inl f1_1))), ((rr 2), .inl (cJ, 91, .inr (.inl f1_2))), ((rr 3), .inl (cJ, 91, .inr (.inl f1_3))), ((rr 4), .inl (cJ, 91, .inr (.inl f1_4))), ((rr 5), .inl (cJ, 91, .inr (.inl f1_5))), ((rr 6), .inl (cJ, 91, .inr (.inl f1_6))), ((rr 7), .inl (cJ, 91, .inr (.inl f1_7))), ((rr 8), .inl (cJ, 91, .inr (.inl (vp_updL (fun _ => 0) 0 (v_16))))), ((rr 9), .inl (cJ, 91, .inr (.inl (fun _ => 0)))), ((rr 10), .inl (cJ, 91, .inr (.inl (fun _ => 0))))]) H := hP
  have hD : va_D A ([(h0, .inr (10, [.ref q])), (q, .inl (cO, 11, .inr (.inr (.inr (.inr (fun i => if i < 11 then some (rr i) else none)))))), ((rr 0), .inl (cJ, 91, .inr (.inl (vp_updL (fun _ => 0) 0 1)))), ((rr 1), .inl (cJ, 91, .inr (.inl f1_1))), ((rr 2), .inl (cJ, 91, .inr (.inl f1_2))), ((rr 3), .inl (cJ, 91, .inr (.inl f1_3))), ((rr 4), .inl (cJ, 91, .inr (.inl f1_4))), ((rr 5), .inl (cJ, 91, .inr (.inl f1_5))), ((rr 6), .inl (cJ, 91, .inr (.inl f1_6))), ((rr 7), .inl (cJ, 91, .inr (.inl f1_7))), ((rr 8), .inl (cJ, 91, .inr (.inl (vp_updL (fun _ => 0) 0 (v_16))))), ((rr 9), .inl (cJ, 91, .inr (.inl (fun _ => 0)))), ((rr 10), .inl (cJ, 91, .inr (.inl (fun _ => 0))))]) := hD
  refine lv_iconst (v := 1) hx hb dX3_init_51 (by decide) ?_
  refine lv_istore_n (lv' := [(2, .int 1), (1, .int 8), (0, .ref h0)]) hx hb dX3_init_52 rfl hl (by decide) rfl (fun ls hl => ?_)
  refine x3_inner (i := 7) (xi := 8) (g := (fun i => if i < 11 then some (rr i) else none)) (k0 := 9) (k1 := 10) (kx := 0) (kq := 1) (tO := 0) (tJ := 1) (h0 := h0) (q := q) (cO := cO) (cJ := cJ) (a1 := (rr 8)) (a0 := (rr 7)) (f0 := f1_7) (ws0 := [(h0, .inr (10, [.ref q])), (q, .inl (cO, 11, .inr (.inr (.inr (.inr (fun i => if i < 11 then some (rr i) else none)))))), ((rr 0), .inl (cJ, 91, .inr (.inl (vp_updL (fun _ => 0) 0 1)))), ((rr 1), .inl (cJ, 91, .inr (.inl f1_1))), ((rr 2), .inl (cJ, 91, .inr (.inl f1_2))), ((rr 3), .inl (cJ, 91, .inr (.inl f1_3))), ((rr 4), .inl (cJ, 91, .inr (.inl f1_4))), ((rr 5), .inl (cJ, 91, .inr (.inl f1_5))), ((rr 6), .inl (cJ, 91, .inr (.inl f1_6))), ((rr 7), .inl (cJ, 91, .inr (.inl f1_7))), ((rr 8), .inl (cJ, 91, .inr (.inl (vp_updL (fun _ => 0) 0 (v_16))))), ((rr 9), .inl (cJ, 91, .inr (.inl (fun _ => 0)))), ((rr 10), .inl (cJ, 91, .inr (.inl (fun _ => 0))))]) hx hb hown hts iRX3 (hts (.fieldLink RX3 11 "Sowingcourt$Rows" "ways" "[[J") (by decide +kernel)) hK rfl rfl rfl (by decide) rfl rfl (by decide) (by decide) (by decide) hF_7 (fun f1_8 H locs ls hF_8 hP hD hS hl => ?_) 100 0 (vp_updL (fun _ => 0) 0 (v_16)) [(h0, .inr (10, [.ref q])), (q, .inl (cO, 11, .inr (.inr (.inr (.inr (fun i => if i < 11 then some (rr i) else none)))))), ((rr 0), .inl (cJ, 91, .inr (.inl (vp_updL (fun _ => 0) 0 1)))), ((rr 1), .inl (cJ, 91, .inr (.inl f1_1))), ((rr 2), .inl (cJ, 91, .inr (.inl f1_2))), ((rr 3), .inl (cJ, 91, .inr (.inl f1_3))), ((rr 4), .inl (cJ, 91, .inr (.inl f1_4))), ((rr 5), .inl (cJ, 91, .inr (.inl f1_5))), ((rr 6), .inl (cJ, 91, .inr (.inl f1_6))), ((rr 7), .inl (cJ, 91, .inr (.inl f1_7))), ((rr 8), .inl (cJ, 91, .inr (.inl (vp_updL (fun _ => 0) 0 (v_16))))), ((rr 9), .inl (cJ, 91, .inr (.inl (fun _ => 0)))), ((rr 10), .inl (cJ, 91, .inr (.inl (fun _ => 0))))] H locs ls (by omega) (by omega) (fun z hz => by rcases (show z = 0 by omega) with rfl; exact ev_16.trans (hF_7 0 (by omega))) (fun _ => rfl) rfl rfl rfl rfl hP hD hS (lv_sub hl [0, 1, 2] rfl)
  have hP : va_P D vwCl ([(h0, .inr (10, [.ref q])), (q, .inl (cO, 11, .inr (.inr (.inr (.inr (fun i => if i < 11 then some (rr i) else none)))))), ((rr 0), .inl (cJ, 91, .inr (.inl (vp_updL (fun _ => 0) 0 1)))), ((rr 1), .inl (cJ, 91, .inr (.inl f1_1))), ((rr 2), .inl (cJ, 91, .inr (.inl f1_2))), ((rr 3), .inl (cJ, 91, .inr (.inl f1_3))), ((rr 4), .inl (cJ, 91, .inr (.inl f1_4))), ((rr 5), .inl (cJ, 91, .inr (.inl f1_5))), ((rr 6), .inl (cJ, 91, .inr (.inl f1_6))), ((rr 7), .inl (cJ, 91, .inr (.inl f1_7))), ((rr 8), .inl (cJ, 91, .inr (.inl f1_8))), ((rr 9), .inl (cJ, 91, .inr (.inl (fun _ => 0)))), ((rr 10), .inl (cJ, 91, .inr (.inl (fun _ => 0))))]) H := hP
  have hD : va_D A ([(h0, .inr (10, [.ref q])), (q, .inl (cO, 11, .inr (.inr (.inr (.inr (fun i => if i < 11 then some (rr i) else none)))))), ((rr 0), .inl (cJ, 91, .inr (.inl (vp_updL (fun _ => 0) 0 1)))), ((rr 1), .inl (cJ, 91, .inr (.inl f1_1))), ((rr 2), .inl (cJ, 91, .inr (.inl f1_2))), ((rr 3), .inl (cJ, 91, .inr (.inl f1_3))), ((rr 4), .inl (cJ, 91, .inr (.inl f1_4))), ((rr 5), .inl (cJ, 91, .inr (.inl f1_5))), ((rr 6), .inl (cJ, 91, .inr (.inl f1_6))), ((rr 7), .inl (cJ, 91, .inr (.inl f1_7))), ((rr 8), .inl (cJ, 91, .inr (.inl f1_8))), ((rr 9), .inl (cJ, 91, .inr (.inl (fun _ => 0)))), ((rr 10), .inl (cJ, 91, .inr (.inl (fun _ => 0))))]) := hD
  refine lv_iinc (v := 9) (lv' := [(1, .int 9), (0, .ref h0)]) hx hb dX3_init_94 hl (k := 1) rfl (by decide) (by decide) rfl (fun ls hl => ?_)
  refine lv_goto (tgt := 27) hx hb dX3_init_97 (by decide) ?_
  refine lv_iload_n hx hb dX3_init_27 rfl (lv_at hl 0 rfl) ?_
  refine lv_bipush (v := 10) hx hb dX3_init_28 (by decide) ?_
  refine lv_icmp_gt (tgt := 100) hx hb dX3_init_30 (by decide) (fun c_30 => absurd c_30 (by decide)) (fun _ => ?_)
  refine lv_aload_n hx hb dX3_init_33 rfl (lv_at hl 1 rfl) ?_
  refine va_get (D := D) (ci := 10) (v := .ref q) (C := RX3) (T := TX3) (N := 1) hx hb hts iRX3 hown hK hP 0 rfl rfl 0 (by decide) (hts (.fieldLink RX3 11 "Sowingcourt$Rows" "ways" "[[J") (by decide +kernel)) (fun _ h9 => h9) rfl dX3_init_34 ?_
  refine lv_iload_n hx hb dX3_init_37 rfl (lv_at hl 0 rfl) ?_
  refine va_aldg hx hb hK hP 1 0 rfl rfl (i := 9) (by unfold vp_in; decide) dX3_init_38 ?_
  refine W.eq (g2 := F0 m 39 ls [.ref (rr 9)]) (congrArg (fun z9 => F0 m 39 ls (z9 :: [])) (rfl)) ?_
  refine lv_iconst (v := 0) hx hb dX3_init_39 (by decide) ?_
  refine lv_aload_n hx hb dX3_init_40 rfl (lv_at hl 1 rfl) ?_
  refine va_get (D := D) (ci := 10) (v := .ref q) (C := RX3) (T := TX3) (N := 1) hx hb hts iRX3 hown hK hP 0 rfl rfl 0 (by decide) (hts (.fieldLink RX3 11 "Sowingcourt$Rows" "ways" "[[J") (by decide +kernel)) (fun _ h9 => h9) rfl dX3_init_41 ?_
  refine lv_iload_n hx hb dX3_init_44 rfl (lv_at hl 0 rfl) ?_
  refine lv_iconst (v := 1) hx hb dX3_init_45 (by decide) ?_
  refine lv_isub hx hb dX3_init_46 ?_
  refine lv_topi (fun v_17 ev_17 => ?_)
  have ev_17 : v_17 = 8 := ev_17.trans (by decide)
  subst ev_17
  refine va_aldg hx hb hK hP 1 0 rfl rfl (i := 8) (by unfold vp_in; decide) dX3_init_47 ?_
  refine W.eq (g2 := F0 m 48 ls [.ref (rr 8), .int 0, .ref (rr 9)]) (congrArg (fun z9 => F0 m 48 ls (z9 :: [.int 0, .ref (rr 9)])) (rfl)) ?_
  refine lv_iconst (v := 0) hx hb dX3_init_48 (by decide) ?_
  refine va_lald hx hb hK hP 10 1 rfl rfl (i := 0) (by unfold vp_in; decide) dX3_init_49 ?_
  refine lv_topl (fun v_18 ev_18 => ?_)
  refine va_last hx hb hK hP hD hS 11 1 rfl rfl (i := 0) (by unfold vp_in; decide) dX3_init_50 (fun H locs hP hD hS => ?_)
  have hP : va_P D vwCl ([(h0, .inr (10, [.ref q])), (q, .inl (cO, 11, .inr (.inr (.inr (.inr (fun i => if i < 11 then some (rr i) else none)))))), ((rr 0), .inl (cJ, 91, .inr (.inl (vp_updL (fun _ => 0) 0 1)))), ((rr 1), .inl (cJ, 91, .inr (.inl f1_1))), ((rr 2), .inl (cJ, 91, .inr (.inl f1_2))), ((rr 3), .inl (cJ, 91, .inr (.inl f1_3))), ((rr 4), .inl (cJ, 91, .inr (.inl f1_4))), ((rr 5), .inl (cJ, 91, .inr (.inl f1_5))), ((rr 6), .inl (cJ, 91, .inr (.inl f1_6))), ((rr 7), .inl (cJ, 91, .inr (.inl f1_7))), ((rr 8), .inl (cJ, 91, .inr (.inl f1_8))), ((rr 9), .inl (cJ, 91, .inr (.inl (vp_updL (fun _ => 0) 0 (v_18))))), ((rr 10), .inl (cJ, 91, .inr (.inl (fun _ => 0))))]) H := hP
  have hD : va_D A ([(h0, .inr (10, [.ref q])), (q, .inl (cO, 11, .inr (.inr (.inr (.inr (fun i => if i < 11 then some (rr i) else none)))))), ((rr 0), .inl (cJ, 91, .inr (.inl (vp_updL (fun _ => 0) 0 1)))), ((rr 1), .inl (cJ, 91, .inr (.inl f1_1))), ((rr 2), .inl (cJ, 91, .inr (.inl f1_2))), ((rr 3), .inl (cJ, 91, .inr (.inl f1_3))), ((rr 4), .inl (cJ, 91, .inr (.inl f1_4))), ((rr 5), .inl (cJ, 91, .inr (.inl f1_5))), ((rr 6), .inl (cJ, 91, .inr (.inl f1_6))), ((rr 7), .inl (cJ, 91, .inr (.inl f1_7))), ((rr 8), .inl (cJ, 91, .inr (.inl f1_8))), ((rr 9), .inl (cJ, 91, .inr (.inl (vp_updL (fun _ => 0) 0 (v_18))))), ((rr 10), .inl (cJ, 91, .inr (.inl (fun _ => 0))))]) := hD
  refine lv_iconst (v := 1) hx hb dX3_init_51 (by decide) ?_
  refine lv_istore_n (lv' := [(2, .int 1), (1, .int 9), (0, .ref h0)]) hx hb dX3_init_52 rfl hl (by decide) rfl (fun ls hl => ?_)
  refine x3_inner (i := 8) (xi := 9) (g := (fun i => if i < 11 then some (rr i) else none)) (k0 := 10) (k1 := 11) (kx := 0) (kq := 1) (tO := 0) (tJ := 1) (h0 := h0) (q := q) (cO := cO) (cJ := cJ) (a1 := (rr 9)) (a0 := (rr 8)) (f0 := f1_8) (ws0 := [(h0, .inr (10, [.ref q])), (q, .inl (cO, 11, .inr (.inr (.inr (.inr (fun i => if i < 11 then some (rr i) else none)))))), ((rr 0), .inl (cJ, 91, .inr (.inl (vp_updL (fun _ => 0) 0 1)))), ((rr 1), .inl (cJ, 91, .inr (.inl f1_1))), ((rr 2), .inl (cJ, 91, .inr (.inl f1_2))), ((rr 3), .inl (cJ, 91, .inr (.inl f1_3))), ((rr 4), .inl (cJ, 91, .inr (.inl f1_4))), ((rr 5), .inl (cJ, 91, .inr (.inl f1_5))), ((rr 6), .inl (cJ, 91, .inr (.inl f1_6))), ((rr 7), .inl (cJ, 91, .inr (.inl f1_7))), ((rr 8), .inl (cJ, 91, .inr (.inl f1_8))), ((rr 9), .inl (cJ, 91, .inr (.inl (vp_updL (fun _ => 0) 0 (v_18))))), ((rr 10), .inl (cJ, 91, .inr (.inl (fun _ => 0))))]) hx hb hown hts iRX3 (hts (.fieldLink RX3 11 "Sowingcourt$Rows" "ways" "[[J") (by decide +kernel)) hK rfl rfl rfl (by decide) rfl rfl (by decide) (by decide) (by decide) hF_8 (fun f1_9 H locs ls hF_9 hP hD hS hl => ?_) 100 0 (vp_updL (fun _ => 0) 0 (v_18)) [(h0, .inr (10, [.ref q])), (q, .inl (cO, 11, .inr (.inr (.inr (.inr (fun i => if i < 11 then some (rr i) else none)))))), ((rr 0), .inl (cJ, 91, .inr (.inl (vp_updL (fun _ => 0) 0 1)))), ((rr 1), .inl (cJ, 91, .inr (.inl f1_1))), ((rr 2), .inl (cJ, 91, .inr (.inl f1_2))), ((rr 3), .inl (cJ, 91, .inr (.inl f1_3))), ((rr 4), .inl (cJ, 91, .inr (.inl f1_4))), ((rr 5), .inl (cJ, 91, .inr (.inl f1_5))), ((rr 6), .inl (cJ, 91, .inr (.inl f1_6))), ((rr 7), .inl (cJ, 91, .inr (.inl f1_7))), ((rr 8), .inl (cJ, 91, .inr (.inl f1_8))), ((rr 9), .inl (cJ, 91, .inr (.inl (vp_updL (fun _ => 0) 0 (v_18))))), ((rr 10), .inl (cJ, 91, .inr (.inl (fun _ => 0))))] H locs ls (by omega) (by omega) (fun z hz => by rcases (show z = 0 by omega) with rfl; exact ev_18.trans (hF_8 0 (by omega))) (fun _ => rfl) rfl rfl rfl rfl hP hD hS (lv_sub hl [0, 1, 2] rfl)
  have hP : va_P D vwCl ([(h0, .inr (10, [.ref q])), (q, .inl (cO, 11, .inr (.inr (.inr (.inr (fun i => if i < 11 then some (rr i) else none)))))), ((rr 0), .inl (cJ, 91, .inr (.inl (vp_updL (fun _ => 0) 0 1)))), ((rr 1), .inl (cJ, 91, .inr (.inl f1_1))), ((rr 2), .inl (cJ, 91, .inr (.inl f1_2))), ((rr 3), .inl (cJ, 91, .inr (.inl f1_3))), ((rr 4), .inl (cJ, 91, .inr (.inl f1_4))), ((rr 5), .inl (cJ, 91, .inr (.inl f1_5))), ((rr 6), .inl (cJ, 91, .inr (.inl f1_6))), ((rr 7), .inl (cJ, 91, .inr (.inl f1_7))), ((rr 8), .inl (cJ, 91, .inr (.inl f1_8))), ((rr 9), .inl (cJ, 91, .inr (.inl f1_9))), ((rr 10), .inl (cJ, 91, .inr (.inl (fun _ => 0))))]) H := hP
  have hD : va_D A ([(h0, .inr (10, [.ref q])), (q, .inl (cO, 11, .inr (.inr (.inr (.inr (fun i => if i < 11 then some (rr i) else none)))))), ((rr 0), .inl (cJ, 91, .inr (.inl (vp_updL (fun _ => 0) 0 1)))), ((rr 1), .inl (cJ, 91, .inr (.inl f1_1))), ((rr 2), .inl (cJ, 91, .inr (.inl f1_2))), ((rr 3), .inl (cJ, 91, .inr (.inl f1_3))), ((rr 4), .inl (cJ, 91, .inr (.inl f1_4))), ((rr 5), .inl (cJ, 91, .inr (.inl f1_5))), ((rr 6), .inl (cJ, 91, .inr (.inl f1_6))), ((rr 7), .inl (cJ, 91, .inr (.inl f1_7))), ((rr 8), .inl (cJ, 91, .inr (.inl f1_8))), ((rr 9), .inl (cJ, 91, .inr (.inl f1_9))), ((rr 10), .inl (cJ, 91, .inr (.inl (fun _ => 0))))]) := hD
  refine lv_iinc (v := 10) (lv' := [(1, .int 10), (0, .ref h0)]) hx hb dX3_init_94 hl (k := 1) rfl (by decide) (by decide) rfl (fun ls hl => ?_)
  refine lv_goto (tgt := 27) hx hb dX3_init_97 (by decide) ?_
  refine lv_iload_n hx hb dX3_init_27 rfl (lv_at hl 0 rfl) ?_
  refine lv_bipush (v := 10) hx hb dX3_init_28 (by decide) ?_
  refine lv_icmp_gt (tgt := 100) hx hb dX3_init_30 (by decide) (fun c_30 => absurd c_30 (by decide)) (fun _ => ?_)
  refine lv_aload_n hx hb dX3_init_33 rfl (lv_at hl 1 rfl) ?_
  refine va_get (D := D) (ci := 10) (v := .ref q) (C := RX3) (T := TX3) (N := 1) hx hb hts iRX3 hown hK hP 0 rfl rfl 0 (by decide) (hts (.fieldLink RX3 11 "Sowingcourt$Rows" "ways" "[[J") (by decide +kernel)) (fun _ h9 => h9) rfl dX3_init_34 ?_
  refine lv_iload_n hx hb dX3_init_37 rfl (lv_at hl 0 rfl) ?_
  refine va_aldg hx hb hK hP 1 0 rfl rfl (i := 10) (by unfold vp_in; decide) dX3_init_38 ?_
  refine W.eq (g2 := F0 m 39 ls [.ref (rr 10)]) (congrArg (fun z9 => F0 m 39 ls (z9 :: [])) (rfl)) ?_
  refine lv_iconst (v := 0) hx hb dX3_init_39 (by decide) ?_
  refine lv_aload_n hx hb dX3_init_40 rfl (lv_at hl 1 rfl) ?_
  refine va_get (D := D) (ci := 10) (v := .ref q) (C := RX3) (T := TX3) (N := 1) hx hb hts iRX3 hown hK hP 0 rfl rfl 0 (by decide) (hts (.fieldLink RX3 11 "Sowingcourt$Rows" "ways" "[[J") (by decide +kernel)) (fun _ h9 => h9) rfl dX3_init_41 ?_
  refine lv_iload_n hx hb dX3_init_44 rfl (lv_at hl 0 rfl) ?_
  refine lv_iconst (v := 1) hx hb dX3_init_45 (by decide) ?_
  refine lv_isub hx hb dX3_init_46 ?_
  refine lv_topi (fun v_19 ev_19 => ?_)
  have ev_19 : v_19 = 9 := ev_19.trans (by decide)
  subst ev_19
  refine va_aldg hx hb hK hP 1 0 rfl rfl (i := 9) (by unfold vp_in; decide) dX3_init_47 ?_
  refine W.eq (g2 := F0 m 48 ls [.ref (rr 9), .int 0, .ref (rr 10)]) (congrArg (fun z9 => F0 m 48 ls (z9 :: [.int 0, .ref (rr 10)])) (rfl)) ?_
  refine lv_iconst (v := 0) hx hb dX3_init_48 (by decide) ?_
  refine va_lald hx hb hK hP 11 1 rfl rfl (i := 0) (by unfold vp_in; decide) dX3_init_49 ?_
  refine lv_topl (fun v_20 ev_20 => ?_)
  refine va_last hx hb hK hP hD hS 12 1 rfl rfl (i := 0) (by unfold vp_in; decide) dX3_init_50 (fun H locs hP hD hS => ?_)
  have hP : va_P D vwCl ([(h0, .inr (10, [.ref q])), (q, .inl (cO, 11, .inr (.inr (.inr (.inr (fun i => if i < 11 then some (rr i) else none)))))), ((rr 0), .inl (cJ, 91, .inr (.inl (vp_updL (fun _ => 0) 0 1)))), ((rr 1), .inl (cJ, 91, .inr (.inl f1_1))), ((rr 2), .inl (cJ, 91, .inr (.inl f1_2))), ((rr 3), .inl (cJ, 91, .inr (.inl f1_3))), ((rr 4), .inl (cJ, 91, .inr (.inl f1_4))), ((rr 5), .inl (cJ, 91, .inr (.inl f1_5))), ((rr 6), .inl (cJ, 91, .inr (.inl f1_6))), ((rr 7), .inl (cJ, 91, .inr (.inl f1_7))), ((rr 8), .inl (cJ, 91, .inr (.inl f1_8))), ((rr 9), .inl (cJ, 91, .inr (.inl f1_9))), ((rr 10), .inl (cJ, 91, .inr (.inl (vp_updL (fun _ => 0) 0 (v_20)))))]) H := hP
  have hD : va_D A ([(h0, .inr (10, [.ref q])), (q, .inl (cO, 11, .inr (.inr (.inr (.inr (fun i => if i < 11 then some (rr i) else none)))))), ((rr 0), .inl (cJ, 91, .inr (.inl (vp_updL (fun _ => 0) 0 1)))), ((rr 1), .inl (cJ, 91, .inr (.inl f1_1))), ((rr 2), .inl (cJ, 91, .inr (.inl f1_2))), ((rr 3), .inl (cJ, 91, .inr (.inl f1_3))), ((rr 4), .inl (cJ, 91, .inr (.inl f1_4))), ((rr 5), .inl (cJ, 91, .inr (.inl f1_5))), ((rr 6), .inl (cJ, 91, .inr (.inl f1_6))), ((rr 7), .inl (cJ, 91, .inr (.inl f1_7))), ((rr 8), .inl (cJ, 91, .inr (.inl f1_8))), ((rr 9), .inl (cJ, 91, .inr (.inl f1_9))), ((rr 10), .inl (cJ, 91, .inr (.inl (vp_updL (fun _ => 0) 0 (v_20)))))]) := hD
  refine lv_iconst (v := 1) hx hb dX3_init_51 (by decide) ?_
  refine lv_istore_n (lv' := [(2, .int 1), (1, .int 10), (0, .ref h0)]) hx hb dX3_init_52 rfl hl (by decide) rfl (fun ls hl => ?_)
  refine x3_inner (i := 9) (xi := 10) (g := (fun i => if i < 11 then some (rr i) else none)) (k0 := 11) (k1 := 12) (kx := 0) (kq := 1) (tO := 0) (tJ := 1) (h0 := h0) (q := q) (cO := cO) (cJ := cJ) (a1 := (rr 10)) (a0 := (rr 9)) (f0 := f1_9) (ws0 := [(h0, .inr (10, [.ref q])), (q, .inl (cO, 11, .inr (.inr (.inr (.inr (fun i => if i < 11 then some (rr i) else none)))))), ((rr 0), .inl (cJ, 91, .inr (.inl (vp_updL (fun _ => 0) 0 1)))), ((rr 1), .inl (cJ, 91, .inr (.inl f1_1))), ((rr 2), .inl (cJ, 91, .inr (.inl f1_2))), ((rr 3), .inl (cJ, 91, .inr (.inl f1_3))), ((rr 4), .inl (cJ, 91, .inr (.inl f1_4))), ((rr 5), .inl (cJ, 91, .inr (.inl f1_5))), ((rr 6), .inl (cJ, 91, .inr (.inl f1_6))), ((rr 7), .inl (cJ, 91, .inr (.inl f1_7))), ((rr 8), .inl (cJ, 91, .inr (.inl f1_8))), ((rr 9), .inl (cJ, 91, .inr (.inl f1_9))), ((rr 10), .inl (cJ, 91, .inr (.inl (vp_updL (fun _ => 0) 0 (v_20)))))]) hx hb hown hts iRX3 (hts (.fieldLink RX3 11 "Sowingcourt$Rows" "ways" "[[J") (by decide +kernel)) hK rfl rfl rfl (by decide) rfl rfl (by decide) (by decide) (by decide) hF_9 (fun f1_10 H locs ls hF_10 hP hD hS hl => ?_) 100 0 (vp_updL (fun _ => 0) 0 (v_20)) [(h0, .inr (10, [.ref q])), (q, .inl (cO, 11, .inr (.inr (.inr (.inr (fun i => if i < 11 then some (rr i) else none)))))), ((rr 0), .inl (cJ, 91, .inr (.inl (vp_updL (fun _ => 0) 0 1)))), ((rr 1), .inl (cJ, 91, .inr (.inl f1_1))), ((rr 2), .inl (cJ, 91, .inr (.inl f1_2))), ((rr 3), .inl (cJ, 91, .inr (.inl f1_3))), ((rr 4), .inl (cJ, 91, .inr (.inl f1_4))), ((rr 5), .inl (cJ, 91, .inr (.inl f1_5))), ((rr 6), .inl (cJ, 91, .inr (.inl f1_6))), ((rr 7), .inl (cJ, 91, .inr (.inl f1_7))), ((rr 8), .inl (cJ, 91, .inr (.inl f1_8))), ((rr 9), .inl (cJ, 91, .inr (.inl f1_9))), ((rr 10), .inl (cJ, 91, .inr (.inl (vp_updL (fun _ => 0) 0 (v_20)))))] H locs ls (by omega) (by omega) (fun z hz => by rcases (show z = 0 by omega) with rfl; exact ev_20.trans (hF_9 0 (by omega))) (fun _ => rfl) rfl rfl rfl rfl hP hD hS (lv_sub hl [0, 1, 2] rfl)
  have hP : va_P D vwCl ([(h0, .inr (10, [.ref q])), (q, .inl (cO, 11, .inr (.inr (.inr (.inr (fun i => if i < 11 then some (rr i) else none)))))), ((rr 0), .inl (cJ, 91, .inr (.inl (vp_updL (fun _ => 0) 0 1)))), ((rr 1), .inl (cJ, 91, .inr (.inl f1_1))), ((rr 2), .inl (cJ, 91, .inr (.inl f1_2))), ((rr 3), .inl (cJ, 91, .inr (.inl f1_3))), ((rr 4), .inl (cJ, 91, .inr (.inl f1_4))), ((rr 5), .inl (cJ, 91, .inr (.inl f1_5))), ((rr 6), .inl (cJ, 91, .inr (.inl f1_6))), ((rr 7), .inl (cJ, 91, .inr (.inl f1_7))), ((rr 8), .inl (cJ, 91, .inr (.inl f1_8))), ((rr 9), .inl (cJ, 91, .inr (.inl f1_9))), ((rr 10), .inl (cJ, 91, .inr (.inl f1_10)))]) H := hP
  have hD : va_D A ([(h0, .inr (10, [.ref q])), (q, .inl (cO, 11, .inr (.inr (.inr (.inr (fun i => if i < 11 then some (rr i) else none)))))), ((rr 0), .inl (cJ, 91, .inr (.inl (vp_updL (fun _ => 0) 0 1)))), ((rr 1), .inl (cJ, 91, .inr (.inl f1_1))), ((rr 2), .inl (cJ, 91, .inr (.inl f1_2))), ((rr 3), .inl (cJ, 91, .inr (.inl f1_3))), ((rr 4), .inl (cJ, 91, .inr (.inl f1_4))), ((rr 5), .inl (cJ, 91, .inr (.inl f1_5))), ((rr 6), .inl (cJ, 91, .inr (.inl f1_6))), ((rr 7), .inl (cJ, 91, .inr (.inl f1_7))), ((rr 8), .inl (cJ, 91, .inr (.inl f1_8))), ((rr 9), .inl (cJ, 91, .inr (.inl f1_9))), ((rr 10), .inl (cJ, 91, .inr (.inl f1_10)))]) := hD
  refine lv_iinc (v := 11) (lv' := [(1, .int 11), (0, .ref h0)]) hx hb dX3_init_94 hl (k := 1) rfl (by decide) (by decide) rfl (fun ls hl => ?_)
  refine lv_goto (tgt := 27) hx hb dX3_init_97 (by decide) ?_
  refine lv_iload_n hx hb dX3_init_27 rfl (lv_at hl 0 rfl) ?_
  refine lv_bipush (v := 10) hx hb dX3_init_28 (by decide) ?_
  refine lv_icmp_gt (tgt := 100) hx hb dX3_init_30 (by decide) (fun _ => ?_) (fun c_30 => absurd (by decide) c_30)
  refine W.widen (k := 12) (n := 1012) (Nat.le_of_ble_eq_true rfl) (Nat.le_of_ble_eq_true rfl) ?_
  exact W.vret hx hb hr (fun t ht hW => ⟨⟨(), rfl, trivial, q, cO, cJ, rr, (fun k => match k with | 0 => (vp_updL (fun _ => 0) 0 1) | 1 => f1_1 | 2 => f1_2 | 3 => f1_3 | 4 => f1_4 | 5 => f1_5 | 6 => f1_6 | 7 => f1_7 | 8 => f1_8 | 9 => f1_9 | _ => f1_10), (fun k hk => match k, hk with | 0, _ => hF_0 | 1, _ => hF_1 | 2, _ => hF_2 | 3, _ => hF_3 | 4, _ => hF_4 | 5, _ => hF_5 | 6, _ => hF_6 | 7, _ => hF_7 | 8, _ => hF_8 | 9, _ => hF_9 | 10, _ => hF_10 | n9 + 11, h9 => absurd h9 (by omega)), PB.at hP hK hD hW.alike ht [0, 1, 2, 3, 4, 5, 6, 7, 8, 9, 10, 11, 12] rfl (by decide) [0, 1] rfl⟩, hS.F ht⟩) hS.2.2 dX3_init_100

def wm_c_J5_init : List Cond := .code yJ5_init_d00df cJ5_init_d00df 2 none :: ([.methodLink RJ5 3 objectInit, .instanceMethod objectInit, .code objectInit ⟨#[0xb1]⟩ 1 none, .fieldLink RJ5 18 "java/lang/String" "COMPACT_STRINGS" "Z", .arrayClass .byte, .fieldLink RJ5 15 "java/lang/AbstractStringBuilder" "value" "[B", .fieldLink RJ5 22 "java/lang/AbstractStringBuilder" "coder" "B"] ++ wsJ40)
set_option maxHeartbeats 4000000 in
set_option maxRecDepth 100000 in
theorem c_J5_init (l : Launch) (κ : Nat → Nat) (D : va_G) (sz : Nat) (h0 : Nat)  : Met l yJ5_init_d00df wm_c_J5_init ({ frames := 8, cells := 1, slots := 16, locals := 200 }) (va_Pc [.ref h0, .int 16] (PC κ D [] [(h0, .inr (1, [.null, .int 0, .int 0, .int 0]))] sz)) (va_Qv (fun _ : Unit => True) (fun _ t => PB D [] [] (va_A [(h0, .inr (1, [.null, .int 0, .int 0, .int 0]))] sz) t) (va_A [(h0, .inr (1, [.null, .int 0, .int 0, .int 0]))] sz)) 1 16 (va_A [(h0, .inr (1, [.null, .int 0, .int 0, .int 0]))] sz) := by
  refine Met.ofW (cc := cJ5_init_d00df) (maxL := 2) (ret := none) (by decide +kernel) rfl ?_
  intro p e s m args below meth c s₁ B hml hv
  obtain ⟨rfl, hsz, hP, hK, hD0, hE⟩ := hv
  have hx := B.exec
  have hb := B.bytes
  have hr := B.returns
  have hts := atoms_spec (ws := wm_c_J5_init) B.pre
  have hown : s.vm.findClass RJ5 = some m.cls := findClass_of_methodNamed B.named
  have hlocks := B.notSynchronized
  have hin : meth.name = "<init>" := (name_of_methodNamed B.named B.method).1
  have iRJ4 : ∀ w ∈ u_ws RJ4 TJ4 4, w ∈ wm_c_J5_init := by decide +kernel
  subst hsz
  have hD := hD0.self (sz := s.heap.size)
  generalize hAe : va_A [(h0, .inr (1, [.null, .int 0, .int 0, .int 0]))] s.heap.size = A at hD hE ⊢
  have hA : ∀ q : Nat, s.heap.size ≤ q → A q := fun q h => by rw [← hAe]; exact Or.inr h
  have hS : va_S A s.heap s.heap [] := va_S.rf
  have hl := lv_entry ([.ref h0, .int 16]) (n := 2) (Nat.le_of_ble_eq_true rfl)
  rw [lg_entry_eq]
  generalize (lg_sl ([.ref h0, .int 16]) ++ List.replicate (2 - (lg_sl ([.ref h0, .int 16])).length) Slot.unset).toArray = ls at hl ⊢
  have hl : lv_has ls 2 [(0, .ref h0), (1, .int 16)] := hl
  refine lv_aload_n hx hb dJ5_init_d00df_0 rfl (lv_at hl 0 rfl) ?_
  refine W.objInit hx hb hown (hts (.methodLink RJ5 3 objectInit) (by decide +kernel)) (hts (.instanceMethod objectInit) (by decide +kernel)) (hts (.code objectInit ⟨#[0xb1]⟩ 1 none) (by decide +kernel)) rfl (by rw [hml]; exact hl.1) rfl dJ5_init_d00df_1 (Nat.le_of_ble_eq_true rfl) (Nat.le_of_ble_eq_true rfl) ?_
  refine W.eq (g2 := F0 m 4 ls []) rfl ?_
  refine va_gets hx hb hE.cs hS hown (hts (.fieldLink RJ5 18 "java/lang/String" "COMPACT_STRINGS" "Z") (by decide +kernel)) (fun _ h9 => h9) dJ5_init_d00df_4 ?_
  refine lv_if_eq (tgt := 25) hx hb dJ5_init_d00df_7 (by decide) (fun c_7 => absurd c_7 (by decide)) (fun _ => ?_)
  refine lv_aload_n hx hb dJ5_init_d00df_10 rfl (lv_at hl 0 rfl) ?_
  refine lv_iload_n hx hb dJ5_init_d00df_11 rfl (lv_at hl 1 rfl) ?_
  refine va_newa (atype := .byte) (ty := .byte) (a0 := (16, .inl (fun _ => 0))) hx hb (hts (.arrayClass .byte) (by decide +kernel)) rfl hK hP hD hS hA (fun _ => rfl) (N' := 16) (by decide) (by decide +kernel) (Nat.le_of_ble_eq_true rfl) (Nat.le_of_ble_eq_true rfl) (Nat.le_of_ble_eq_true rfl) dJ5_init_d00df_12 (fun q_1 cA_2 H hK hP hD hS => ?_)
  have hP : va_P D vwCl ([(h0, .inr (1, [.null, .int 0, .int 0, .int 0])), (q_1, .inl (cA_2, 16, .inl (fun _ => 0)))]) H := hP
  have hD : va_D A ([(h0, .inr (1, [.null, .int 0, .int 0, .int 0])), (q_1, .inl (cA_2, 16, .inl (fun _ => 0)))]) := hD
  have hK : va_K D vwCl [(cA_2, .byte)] s := hK
  refine W.widen (k := 1) (n := 16) (Nat.le_of_ble_eq_true rfl) (Nat.le_of_ble_eq_true rfl) ?_
  refine va_put (D := D) (ci := 1) (v := .ref q_1) (ty := .array .byte) (C := RJ4) (T := TJ4) (N := 4) hx hb hts iRJ4 tyJ4 tyJ4_ok nmJ4 hown hK hP hD hS 0 rfl rfl 0 (by decide) (hts (.fieldLink RJ5 15 "java/lang/AbstractStringBuilder" "value" "[B") (by decide +kernel)) (fun _ h9 => h9) rfl (by decide +kernel) rfl rfl (Nat.le_of_ble_eq_true rfl) dJ5_init_d00df_14 (fun H locs hP hD hS => ?_)
  have hP : va_P D vwCl ([(h0, .inr (1, [.ref q_1, .int 0, .int 0, .int 0])), (q_1, .inl (cA_2, 16, .inl (fun _ => 0)))]) H := hP
  have hD : va_D A ([(h0, .inr (1, [.ref q_1, .int 0, .int 0, .int 0])), (q_1, .inl (cA_2, 16, .inl (fun _ => 0)))]) := hD
  refine lv_aload_n hx hb dJ5_init_d00df_17 rfl (lv_at hl 0 rfl) ?_
  refine lv_iconst (v := 0) hx hb dJ5_init_d00df_18 (by decide) ?_
  refine va_put (D := D) (ci := 1) (v := .int 0) (ty := .byte) (C := RJ4) (T := TJ4) (N := 4) hx hb hts iRJ4 tyJ4 tyJ4_ok nmJ4 hown hK hP hD hS 0 rfl rfl 1 (by decide) (hts (.fieldLink RJ5 22 "java/lang/AbstractStringBuilder" "coder" "B") (by decide +kernel)) (fun _ h9 => h9) rfl (by decide +kernel) rfl rfl (Nat.le_of_ble_eq_true rfl) dJ5_init_d00df_19 (fun H locs hP hD hS => ?_)
  have hP : va_P D vwCl ([(h0, .inr (1, [.ref q_1, .int 0, .int 0, .int 0])), (q_1, .inl (cA_2, 16, .inl (fun _ => 0)))]) H := hP
  have hD : va_D A ([(h0, .inr (1, [.ref q_1, .int 0, .int 0, .int 0])), (q_1, .inl (cA_2, 16, .inl (fun _ => 0)))]) := hD
  refine lv_goto (tgt := 38) hx hb dJ5_init_d00df_22 (by decide) ?_
  refine W.widen (k := 1) (n := 16) (Nat.le_of_ble_eq_true rfl) (Nat.le_of_ble_eq_true rfl) ?_
  exact W.vret hx hb hr (fun t ht hW => ⟨⟨(), rfl, trivial, PB.at hP hK hD hW.alike ht [] rfl (by decide) [] rfl⟩, hS.F ht⟩) hS.2.2 dJ5_init_d00df_38

def wm_c_J4_init : List Cond := .code yJ4_init_da8c8 cJ4_init_da8c8 1 none :: ([.code yJ5_init_d00df cJ5_init_d00df 2 none, .methodLink RJ5 3 objectInit, .instanceMethod objectInit, .code objectInit ⟨#[0xb1]⟩ 1 none, .fieldLink RJ5 18 "java/lang/String" "COMPACT_STRINGS" "Z", .arrayClass .byte, .fieldLink RJ5 15 "java/lang/AbstractStringBuilder" "value" "[B", .fieldLink RJ5 22 "java/lang/AbstractStringBuilder" "coder" "B", .initialized RJ5, .methodLink RJ4 1 yJ5_init_d00df, .instanceMethod yJ5_init_d00df] ++ wsJ40)
set_option maxRecDepth 20000 in
theorem gd_c_J4_init_3 : GoodIn wm_c_J4_init wm_c_J5_init := goodIn_of _ (by decide +kernel)
set_option maxHeartbeats 4000000 in
set_option maxRecDepth 100000 in
theorem c_J4_init (l : Launch) (κ : Nat → Nat) (D : va_G) (sz : Nat) (h0 : Nat)  : Met l yJ4_init_da8c8 wm_c_J4_init ({ frames := 9, cells := 1, slots := 16, locals := 260 }) (va_Pc [.ref h0] (PC κ D [] [(h0, .inr (1, [.null, .int 0, .int 0, .int 0]))] sz)) (va_Qv (fun _ : Unit => True) (fun _ t => PB D [] [] (va_A [(h0, .inr (1, [.null, .int 0, .int 0, .int 0]))] sz) t) (va_A [(h0, .inr (1, [.null, .int 0, .int 0, .int 0]))] sz)) 1 16 (va_A [(h0, .inr (1, [.null, .int 0, .int 0, .int 0]))] sz) := by
  refine Met.ofW (cc := cJ4_init_da8c8) (maxL := 1) (ret := none) (by decide +kernel) rfl ?_
  intro p e s m args below meth c s₁ B hml hv
  obtain ⟨rfl, hsz, hP, hK, hD0, hE⟩ := hv
  have hx := B.exec
  have hb := B.bytes
  have hr := B.returns
  have hts := atoms_spec (ws := wm_c_J4_init) B.pre
  have hown : s.vm.findClass RJ4 = some m.cls := findClass_of_methodNamed B.named
  have hlocks := B.notSynchronized
  have hin : meth.name = "<init>" := (name_of_methodNamed B.named B.method).1
  have iRJ4 : ∀ w ∈ u_ws RJ4 TJ4 4, w ∈ wm_c_J4_init := by decide +kernel
  subst hsz
  have hD := hD0.self (sz := s.heap.size)
  generalize hAe : va_A [(h0, .inr (1, [.null, .int 0, .int 0, .int 0]))] s.heap.size = A at hD hE ⊢
  have hA : ∀ q : Nat, s.heap.size ≤ q → A q := fun q h => by rw [← hAe]; exact Or.inr h
  have hS : va_S A s.heap s.heap [] := va_S.rf
  have hl := lv_entry ([.ref h0]) (n := 1) (Nat.le_of_ble_eq_true rfl)
  rw [lg_entry_eq]
  generalize (lg_sl ([.ref h0]) ++ List.replicate (1 - (lg_sl ([.ref h0])).length) Slot.unset).toArray = ls at hl ⊢
  have hl : lv_has ls 1 [(0, .ref h0)] := hl
  refine lv_aload_n hx hb dJ4_init_da8c8_0 rfl (lv_at hl 0 rfl) ?_
  refine lv_bipush (v := 16) hx hb dJ4_init_da8c8_1 (by decide) ?_
  have hS0 := hS
  have hFc := va_free (wc := [(h0, .inr (1, [.null, .int 0, .int 0, .int 0]))]) hD hS hA [0] rfl
  refine va_callv (va_runI (As := [.int 16]) (rest := []) ⟨hx, hb, hml, hown, hts⟩ (c_J5_init l κ D (s.heap).size (h0) ) (cwI 1 hts gd_c_J4_init_3 rfl rfl rfl (hts (.initialized RJ5) (by decide +kernel)) (hts (.methodLink RJ4 1 yJ5_init_d00df) (by decide +kernel)) (hts (.instanceMethod yJ5_init_d00df) (by decide +kernel)) rfl (by decide +kernel) ⟨(Nat.le_of_ble_eq_true rfl), (Nat.le_of_ble_eq_true rfl)⟩) (preS hE hK hP hD hS hA [0] rfl (by decide) [] rfl) rfl rfl hl.1 rfl (lv_room (Nat.le_of_ble_eq_true rfl)) dJ4_init_da8c8_3 ⟨(Nat.le_of_ble_eq_true rfl), (Nat.le_of_ble_eq_true rfl)⟩) hS (fun q _ h => hFc q h) hFc (fun u t H1 locs ht hvm hw hB hz1 hk1 hS => ?_)
  try dsimp only at hw
  obtain ⟨hP, hD, hK⟩ := jn (wc := [(h0, .inr (1, [.null, .int 0, .int 0, .int 0]))]) (wr := []) (w1 := []) (t1 := []) hP hD hK hS0 hA [0] [] rfl rfl (by decide) (by decide) ht hvm hk1 hB
  generalize H1 = H at hP hS ⊢
  have hP : va_P D vwCl ([]) H := hP
  have hD : va_D A ([]) := hD
  have hK : va_K D vwCl [] s := hK
  refine W.widen (k := 1) (n := 16) (Nat.le_of_ble_eq_true rfl) (Nat.le_of_ble_eq_true rfl) ?_
  refine W.widen (k := 1) (n := 16) (Nat.le_of_ble_eq_true rfl) (Nat.le_of_ble_eq_true rfl) ?_
  exact W.vret hx hb hr (fun t ht hW => ⟨⟨(), rfl, trivial, PB.at hP hK hD hW.alike ht [] rfl (by decide) [] rfl⟩, hS.F ht⟩) hS.2.2 dJ4_init_da8c8_6
