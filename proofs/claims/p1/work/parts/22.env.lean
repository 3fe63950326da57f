set_option maxRecDepth 100000 in
theorem tw_J0 : ∀ w ∈ u_ws RJ0 TJ0 4, w ∈ lw_tbl := by decide +kernel
set_option maxRecDepth 100000 in
theorem tw_J4 : ∀ w ∈ u_ws RJ4 TJ4 4, w ∈ lw_tbl := by decide +kernel
set_option maxRecDepth 100000 in
theorem tw_J6 : ∀ w ∈ u_ws RJ6 TJ6 1, w ∈ lw_tbl := by decide +kernel
set_option maxRecDepth 100000 in
theorem tw_Jx00060 : ∀ w ∈ u_ws RJx00060 TJx00060 6, w ∈ lw_tbl := by decide +kernel
set_option maxRecDepth 100000 in
theorem tw_Jx7c733 : ∀ w ∈ u_ws RJx7c733 TJx7c733 6, w ∈ lw_tbl := by decide +kernel
set_option maxRecDepth 100000 in
theorem tw_Jx35411 : ∀ w ∈ u_ws RJx35411 TJx35411 4, w ∈ lw_tbl := by decide +kernel
set_option maxRecDepth 100000 in
theorem tw_Jx4a65c : ∀ w ∈ u_ws RJx4a65c TJx4a65c 3, w ∈ lw_tbl := by decide +kernel
set_option maxRecDepth 100000 in
theorem tw_X0 : ∀ w ∈ u_ws RX0 TX0 4, w ∈ lw_tbl := by decide +kernel
set_option maxRecDepth 100000 in
theorem tw_X1 : ∀ w ∈ u_ws RX1 TX1 10, w ∈ lw_tbl := by decide +kernel
set_option maxRecDepth 100000 in
theorem tw_X2 : ∀ w ∈ u_ws RX2 TX2 5, w ∈ lw_tbl := by decide +kernel
set_option maxRecDepth 100000 in
theorem tw_X3 : ∀ w ∈ u_ws RX3 TX3 1, w ∈ lw_tbl := by decide +kernel
set_option maxRecDepth 100000 in
theorem tw_X4 : ∀ w ∈ u_ws RX4 TX4 6, w ∈ lw_tbl := by decide +kernel
set_option maxRecDepth 100000 in
theorem tw_X5 : ∀ w ∈ u_ws RX5 TX5 9, w ∈ lw_tbl := by decide +kernel
set_option maxRecDepth 100000 in
theorem tw_X6 : ∀ w ∈ u_ws RX6 TX6 3, w ∈ lw_tbl := by decide +kernel
set_option maxRecDepth 100000 in
theorem tw_X7 : ∀ w ∈ u_ws RX7 TX7 5, w ∈ lw_tbl := by decide +kernel
set_option maxRecDepth 100000 in
theorem tw_X8 : ∀ w ∈ u_ws RX8 TX8 8, w ∈ lw_tbl := by decide +kernel
set_option maxRecDepth 100000 in
theorem tw_X9 : ∀ w ∈ u_ws RX9 TX9 4, w ∈ lw_tbl := by decide +kernel
set_option maxHeartbeats 4000000 in
/-- the classes at the law's entry -/
theorem law_D {s : State} {args : Array Value} (hts : ∀ w ∈ lw_tbl, w.before args s = true) : ∃ D : va_G, va_K D vwCl [] s := by
  have h : ∀ k : Nat, ∃ x : ClassId × (Nat → Nat), ∀ q : vw_C, vwCl[k]? = some q → u_Kn s q.1 q.2.1 q.2.2 x.1 x.2 := by
    intro k
    obtain ⟨c0, i0, h0⟩ := u_known (C := RJ0) (T := TJ0) (N := 4) (n := 4) hts tw_J0 (hts (.instantiable RJ0 4) (List.mem_of_getElem? (i := 591) (by decide +kernel)))
    obtain ⟨c1, i1, h1⟩ := u_known (C := RJ4) (T := TJ4) (N := 4) (n := 4) hts tw_J4 (hts (.instantiable RJ4 4) (List.mem_of_getElem? (i := 245) (by decide +kernel)))
    obtain ⟨c2, i2, h2⟩ := u_known (C := RJ6) (T := TJ6) (N := 1) (n := 1) hts tw_J6 (hts (.instantiable RJ6 1) (List.mem_of_getElem? (i := 1947) (by decide +kernel)))
    obtain ⟨c3, i3, h3⟩ := u_known (C := RJx00060) (T := TJx00060) (N := 6) (n := 6) hts tw_Jx00060 (hts (.instantiable RJx00060 6) (List.mem_of_getElem? (i := 573) (by decide +kernel)))
    obtain ⟨c4, i4, h4⟩ := u_known (C := RJx7c733) (T := TJx7c733) (N := 6) (n := 6) hts tw_Jx7c733 (hts (.instantiable RJx7c733 6) (List.mem_of_getElem? (i := 991) (by decide +kernel)))
    obtain ⟨c5, i5, h5⟩ := u_known (C := RJx35411) (T := TJx35411) (N := 4) (n := 4) hts tw_Jx35411 (hts (.instantiable RJx35411 4) (List.mem_of_getElem? (i := 1753) (by decide +kernel)))
    obtain ⟨c6, i6, h6⟩ := u_known (C := RJx4a65c) (T := TJx4a65c) (N := 3) (n := 3) hts tw_Jx4a65c (hts (.instantiable RJx4a65c 3) (List.mem_of_getElem? (i := 1316) (by decide +kernel)))
    obtain ⟨c7, i7, h7⟩ := u_known (C := RX0) (T := TX0) (N := 4) (n := 4) hts tw_X0 (hts (.instantiable RX0 4) (List.mem_of_getElem? (i := 132) (by decide +kernel)))
    obtain ⟨c8, i8, h8⟩ := u_known (C := RX1) (T := TX1) (N := 10) (n := 10) hts tw_X1 (hts (.instantiable RX1 10) (List.mem_of_getElem? (i := 124) (by decide +kernel)))
    obtain ⟨c9, i9, h9⟩ := u_known (C := RX2) (T := TX2) (N := 5) (n := 5) hts tw_X2 (hts (.instantiable RX2 5) (List.mem_of_getElem? (i := 90) (by decide +kernel)))
    obtain ⟨c10, i10, h10⟩ := u_known (C := RX3) (T := TX3) (N := 1) (n := 1) hts tw_X3 (hts (.instantiable RX3 1) (List.mem_of_getElem? (i := 231) (by decide +kernel)))
    obtain ⟨c11, i11, h11⟩ := u_known (C := RX4) (T := TX4) (N := 6) (n := 6) hts tw_X4 (hts (.instantiable RX4 6) (List.mem_of_getElem? (i := 198) (by decide +kernel)))
    obtain ⟨c12, i12, h12⟩ := u_known (C := RX5) (T := TX5) (N := 9) (n := 9) hts tw_X5 (hts (.instantiable RX5 9) (List.mem_of_getElem? (i := 81) (by decide +kernel)))
    obtain ⟨c13, i13, h13⟩ := u_known (C := RX6) (T := TX6) (N := 3) (n := 3) hts tw_X6 (hts (.instantiable RX6 3) (List.mem_of_getElem? (i := 1607) (by decide +kernel)))
    obtain ⟨c14, i14, h14⟩ := u_known (C := RX7) (T := TX7) (N := 5) (n := 5) hts tw_X7 (hts (.instantiable RX7 5) (List.mem_of_getElem? (i := 1441) (by decide +kernel)))
    obtain ⟨c15, i15, h15⟩ := u_known (C := RX8) (T := TX8) (N := 8) (n := 8) hts tw_X8 (hts (.instantiable RX8 8) (List.mem_of_getElem? (i := 1615) (by decide +kernel)))
    obtain ⟨c16, i16, h16⟩ := u_known (C := RX9) (T := TX9) (N := 4) (n := 4) hts tw_X9 (hts (.instantiable RX9 4) (List.mem_of_getElem? (i := 1310) (by decide +kernel)))
    match k with
    | 0 => exact ⟨(c0, i0), fun q hq => by have e : (RJ0, TJ0, 4) = q := Option.some.inj hq; subst e; exact h0⟩
    | 1 => exact ⟨(c1, i1), fun q hq => by have e : (RJ4, TJ4, 4) = q := Option.some.inj hq; subst e; exact h1⟩
    | 2 => exact ⟨(c2, i2), fun q hq => by have e : (RJ6, TJ6, 1) = q := Option.some.inj hq; subst e; exact h2⟩
    | 3 => exact ⟨(c3, i3), fun q hq => by have e : (RJx00060, TJx00060, 6) = q := Option.some.inj hq; subst e; exact h3⟩
    | 4 => exact ⟨(c4, i4), fun q hq => by have e : (RJx7c733, TJx7c733, 6) = q := Option.some.inj hq; subst e; exact h4⟩
    | 5 => exact ⟨(c5, i5), fun q hq => by have e : (RJx35411, TJx35411, 4) = q := Option.some.inj hq; subst e; exact h5⟩
    | 6 => exact ⟨(c6, i6), fun q hq => by have e : (RJx4a65c, TJx4a65c, 3) = q := Option.some.inj hq; subst e; exact h6⟩
    | 7 => exact ⟨(c7, i7), fun q hq => by have e : (RX0, TX0, 4) = q := Option.some.inj hq; subst e; exact h7⟩
    | 8 => exact ⟨(c8, i8), fun q hq => by have e : (RX1, TX1, 10) = q := Option.some.inj hq; subst e; exact h8⟩
    | 9 => exact ⟨(c9, i9), fun q hq => by have e : (RX2, TX2, 5) = q := Option.some.inj hq; subst e; exact h9⟩
    | 10 => exact ⟨(c10, i10), fun q hq => by have e : (RX3, TX3, 1) = q := Option.some.inj hq; subst e; exact h10⟩
    | 11 => exact ⟨(c11, i11), fun q hq => by have e : (RX4, TX4, 6) = q := Option.some.inj hq; subst e; exact h11⟩
    | 12 => exact ⟨(c12, i12), fun q hq => by have e : (RX5, TX5, 9) = q := Option.some.inj hq; subst e; exact h12⟩
    | 13 => exact ⟨(c13, i13), fun q hq => by have e : (RX6, TX6, 3) = q := Option.some.inj hq; subst e; exact h13⟩
    | 14 => exact ⟨(c14, i14), fun q hq => by have e : (RX7, TX7, 5) = q := Option.some.inj hq; subst e; exact h14⟩
    | 15 => exact ⟨(c15, i15), fun q hq => by have e : (RX8, TX8, 8) = q := Option.some.inj hq; subst e; exact h15⟩
    | 16 => exact ⟨(c16, i16), fun q hq => by have e : (RX9, TX9, 4) = q := Option.some.inj hq; subst e; exact h16⟩
    | k + 17 => exact ⟨(c0, i0), fun q hq => by have e : (none : Option vw_C) = some q := hq; cases e⟩
  obtain ⟨f, hf⟩ := Classical.axiomOfChoice h
  exact ⟨(fun k => (f k).1, fun k => (f k).2), fun k q hq => hf k q hq, fun k q h9 => by simp at h9⟩
theorem law_str {s : State} {args : Array Value} {own tx : String} {k : Nat} (h1 : (Cond.stringRef own k tx).before args s = true) (h2 : (Cond.exactly (.string own k) "java/lang/String").before args s = true) : ∃ sa, vk_R own k tx sa s := by
  obtain ⟨a, c, cA, kA, q1, -⟩ := Cond.exactly_spec (args := args) (first := s) (o := none) (s := s) (idx := []) (t := .string own k) (cls := "java/lang/String") h2
  exact ⟨a, vk_R.of h1 q1⟩
theorem vk_ne {a b v w n m : Nat} {f g : Nat → Value} {A : Nat → Prop} {U : State} {H : Heap} (h1 : va_OF "java/lang/String" "value" "[B" (.ref v) a A U H) (t1 : va_T .byte v n f A U H) (h2 : va_OF "java/lang/String" "value" "[B" (.ref w) b A U H) (t2 : va_T .byte w m g A U H) (hnm : Int32.ofNat n ≠ Int32.ofNat m) : a ≠ b := by
  intro e
  subst e
  obtain ⟨cf, k, i, f1, c1, p1, -, p3, -, p5, -⟩ := h1
  obtain ⟨cf', k', i', f2, c2, q1, -, q3, -, q5, -⟩ := h2
  cases p1.symm.trans q1
  cases p3.symm.trans q3
  cases p5.symm.trans q5
  obtain ⟨d1, r1, -, -, -, r5, -⟩ := t1
  obtain ⟨d2, s1, -, -, -, s5, -⟩ := t2
  cases r1.symm.trans s1
  exact hnm (r5.symm.trans s5)
set_option maxHeartbeats 8000000 in
set_option maxRecDepth 100000 in
/-- the environment at the law's entry -/
theorem law_env {s : State} {args : Array Value} (hts : ∀ w ∈ lw_tbl, w.before args s = true) (hgv : (Jvm.Cond.and given_1 narrow_1).before args s = true) : ∃ κ : Nat → Nat, EN κ (LA s) s s.heap := by
  have hs := flat_of_before _ hgv
  have hA : ∀ a : Nat, a < s.heap.size → ¬ LA s a := fun a h => Nat.not_le.mpr h
  obtain ⟨t0, e0, hT0⟩ := va_Tof (A := LA s) (N := 0) (f := fun _ => .null) (by decide) (hs (.arrayOf (.static "java/util/ArrayList" "DEFAULTCAPACITY_EMPTY_ELEMENTDATA" "[Ljava/lang/Object;") (.object "java/lang/Object")) (by decide +kernel)) (va_eqt (hs (.eq (.length (.static "java/util/ArrayList" "DEFAULTCAPACITY_EMPTY_ELEMENTDATA" "[Ljava/lang/Object;")) (.int 0)) (by decide +kernel))) (fun j hj => absurd hj (Nat.not_lt_zero j)) hA
  have hl1 : (Term.length (.static "java/lang/Integer$IntegerCache" "cache" "[Ljava/lang/Integer;")).eval args s none [] s = some (.int (Int32.ofNat 256)) := va_eqt (hs (.eq (.length (.static "java/lang/Integer$IntegerCache" "cache" "[Ljava/lang/Integer;")) (.int 256)) (by decide +kernel))
  obtain ⟨ad, hC, had⟩ := vb_Cof (A := LA s) (st := (.static "java/lang/Integer$IntegerCache" "cache" "[Ljava/lang/Integer;")) rfl hl1 (hs (.all (.static "java/lang/Integer$IntegerCache" "cache" "[Ljava/lang/Integer;") (.and (.exactly (.elem (.static "java/lang/Integer$IntegerCache" "cache" "[Ljava/lang/Integer;") (.index 0)) "java/lang/Integer") (.eq (.field (.elem (.static "java/lang/Integer$IntegerCache" "cache" "[Ljava/lang/Integer;") (.index 0)) "java/lang/Integer" "value" "I") (.sub (.index 0) (.int 128))))) (by decide +kernel)) hA
  obtain ⟨t1, e1, hT1⟩ := va_Tof (A := LA s) (N := 256) (f := fun j => .ref (ad j)) (by decide) (hs (.arrayOf (.static "java/lang/Integer$IntegerCache" "cache" "[Ljava/lang/Integer;") (.object "java/lang/Integer")) (by decide +kernel)) hl1 had hA
  have a40 : ∀ i : Nat, i < 1 → ([3] : List Nat).getD i 0 < 2 ^ 31 := by
    intro i hi
    obtain rfl : i = 0 := by omega
    decide
  have b40 : ∀ i : Nat, i < 1 → (Cond.eq (.length (.field (.string "SowingcourtModel" 40) "java/lang/String" "value" "[B")) (.int (Int32.ofNat (([3] : List Nat).getD i 0)))).before args s = true := by
    intro i hi
    obtain rfl : i = 0 := by omega
    exact (hs (.eq (.length (.field (.string "SowingcourtModel" 40) "java/lang/String" "value" "[B")) (.int 3)) (by decide +kernel))
  have d40 : ∀ i : Nat, i < 1 → ∀ j : Nat, j < ([3] : List Nat).getD i 0 → (Cond.eq (.elem (.field (.string "SowingcourtModel" 40) "java/lang/String" "value" "[B") (.int (Int32.ofNat j))) (.int ((([[115, 114, 112]] : List (List Int32)).getD i []).getD j 0))).before args s = true := by
    intro i hi j hj
    obtain rfl : i = 0 := by omega
    have hj : j < 3 := hj
    rcases (show j = 0 ∨ j = 1 ∨ j = 2 by omega) with rfl | rfl | rfl
    · exact (hs (.eq (.elem (.field (.string "SowingcourtModel" 40) "java/lang/String" "value" "[B") (.int 0)) (.int 115)) (by decide +kernel))
    · exact (hs (.eq (.elem (.field (.string "SowingcourtModel" 40) "java/lang/String" "value" "[B") (.int 1)) (.int 114)) (by decide +kernel))
    · exact (hs (.eq (.elem (.field (.string "SowingcourtModel" 40) "java/lang/String" "value" "[B") (.int 2)) (.int 112)) (by decide +kernel))
  obtain ⟨K40, V40, hS40, hev40⟩ := vk_Sof (args := args) (s := s) (N := 1) (A := LA s) (tm := fun _ => (.string "SowingcourtModel" 40)) (len := [3]) (byt := [[115, 114, 112]]) a40 (fun i hi => (hs (.exactly (.string "SowingcourtModel" 40) "java/lang/String") (by decide +kernel))) (fun i hi => (hs (.eq (.field (.string "SowingcourtModel" 40) "java/lang/String" "coder" "B") (.int 0)) (by decide +kernel))) (fun i hi => (hs (.arrayOf (.field (.string "SowingcourtModel" 40) "java/lang/String" "value" "[B") .byte) (by decide +kernel))) b40 d40 (fun i j hi hj hij => absurd (show i = j by omega) hij) hA
  have a48 : ∀ i : Nat, i < 1 → ([4] : List Nat).getD i 0 < 2 ^ 31 := by
    intro i hi
    obtain rfl : i = 0 := by omega
    decide
  have b48 : ∀ i : Nat, i < 1 → (Cond.eq (.length (.field (.string "SowingcourtModel" 48) "java/lang/String" "value" "[B")) (.int (Int32.ofNat (([4] : List Nat).getD i 0)))).before args s = true := by
    intro i hi
    obtain rfl : i = 0 := by omega
    exact (hs (.eq (.length (.field (.string "SowingcourtModel" 48) "java/lang/String" "value" "[B")) (.int 4)) (by decide +kernel))
  have d48 : ∀ i : Nat, i < 1 → ∀ j : Nat, j < ([4] : List Nat).getD i 0 → (Cond.eq (.elem (.field (.string "SowingcourtModel" 48) "java/lang/String" "value" "[B") (.int (Int32.ofNat j))) (.int ((([[110, 111, 99, 101]] : List (List Int32)).getD i []).getD j 0))).before args s = true := by
    intro i hi j hj
    obtain rfl : i = 0 := by omega
    have hj : j < 4 := hj
    rcases (show j = 0 ∨ j = 1 ∨ j = 2 ∨ j = 3 by omega) with rfl | rfl | rfl | rfl
    · exact (hs (.eq (.elem (.field (.string "SowingcourtModel" 48) "java/lang/String" "value" "[B") (.int 0)) (.int 110)) (by decide +kernel))
    · exact (hs (.eq (.elem (.field (.string "SowingcourtModel" 48) "java/lang/String" "value" "[B") (.int 1)) (.int 111)) (by decide +kernel))
    · exact (hs (.eq (.elem (.field (.string "SowingcourtModel" 48) "java/lang/String" "value" "[B") (.int 2)) (.int 99)) (by decide +kernel))
    · exact (hs (.eq (.elem (.field (.string "SowingcourtModel" 48) "java/lang/String" "value" "[B") (.int 3)) (.int 101)) (by decide +kernel))
  obtain ⟨K48, V48, hS48, hev48⟩ := vk_Sof (args := args) (s := s) (N := 1) (A := LA s) (tm := fun _ => (.string "SowingcourtModel" 48)) (len := [4]) (byt := [[110, 111, 99, 101]]) a48 (fun i hi => (hs (.exactly (.string "SowingcourtModel" 48) "java/lang/String") (by decide +kernel))) (fun i hi => (hs (.eq (.field (.string "SowingcourtModel" 48) "java/lang/String" "coder" "B") (.int 0)) (by decide +kernel))) (fun i hi => (hs (.arrayOf (.field (.string "SowingcourtModel" 48) "java/lang/String" "value" "[B") .byte) (by decide +kernel))) b48 d48 (fun i j hi hj hij => absurd (show i = j by omega) hij) hA
  obtain ⟨κ, k0, k1, k2, k3, k4, k5, k10⟩ : ∃ κ : Nat → Nat, κ 0 = t0 ∧ κ 1 = t1 ∧ κ 2 = K40 0 ∧ κ 3 = K48 0 ∧ κ 4 = V40 0 ∧ κ 5 = V48 0 ∧ ∀ k, κ (10 + k) = ad k :=
    ⟨fun q => match q with | 0 => t0 | 1 => t1 | 2 => K40 0 | 3 => K48 0 | 4 => V40 0 | 5 => V48 0 | q => ad (q - 10), rfl, rfl, rfl, rfl, rfl, rfl, fun k => by rw [Nat.add_comm]; exact congrArg ad (Nat.add_sub_cancel (n := k) (m := 10))⟩
  have w_ao0 : va_AO "Sowingcourt$Kind" s := va_AO.of (hts (.arrayOver (.object "Sowingcourt$Kind")) (List.mem_of_getElem? (i := 89) (by decide +kernel)))
  have w_ao1 : va_AO "Sowingcourt$Board" s := va_AO.of (hts (.arrayOver (.object "Sowingcourt$Board")) (List.mem_of_getElem? (i := 204) (by decide +kernel)))
  have w_ao2 : va_AO "java/lang/Object" s := va_AO.of (hts (.arrayOver (.object "java/lang/Object")) (List.mem_of_getElem? (i := 1527) (by decide +kernel)))
  have w_aoa : va_AOA .long s := (show va_AOA .long s from (hts (.arrayOver (.array .long)) (List.mem_of_getElem? (i := 237) (by decide +kernel))))
  have w_nm0 : va_Nw (.methodLinkNest RX5 15 yX2_init RX5) s := va_Nw.of rfl (hts (.methodLinkNest RX5 15 yX2_init RX5) (List.mem_of_getElem? (i := 91) (by decide +kernel)))
  have w_nm1 : va_Nw (.methodLinkNest RX5 18 yX1_init RX5) s := va_Nw.of rfl (hts (.methodLinkNest RX5 18 yX1_init RX5) (List.mem_of_getElem? (i := 125) (by decide +kernel)))
  have w_nm2 : va_Nw (.methodLinkNest RX1 11 yX2_init RX5) s := va_Nw.of rfl (hts (.methodLinkNest RX1 11 yX2_init RX5) (List.mem_of_getElem? (i := 130) (by decide +kernel)))
  have w_nm3 : va_Nw (.methodLinkNest RX9 56 yX7_init RX9) s := va_Nw.of rfl (hts (.methodLinkNest RX9 56 yX7_init RX9) (List.mem_of_getElem? (i := 1442) (by decide +kernel)))
  have w_nf0 : va_Nw (.fieldLinkNest RX9 57 RX7 "holes" "I" RX9) s := va_Nw.of rfl (hts (.fieldLinkNest RX9 57 RX7 "holes" "I" RX9) (List.mem_of_getElem? (i := 1448) (by decide +kernel)))
  have w_nf1 : va_Nw (.fieldLinkNest RX9 60 RX7 "seeds" "I" RX9) s := va_Nw.of rfl (hts (.fieldLinkNest RX9 60 RX7 "seeds" "I" RX9) (List.mem_of_getElem? (i := 1451) (by decide +kernel)))
  have w_nf2 : va_Nw (.fieldLinkNest RX9 63 RX7 "lap" "C" RX9) s := va_Nw.of rfl (hts (.fieldLinkNest RX9 63 RX7 "lap" "C" RX9) (List.mem_of_getElem? (i := 1454) (by decide +kernel)))
  have w_nf3 : va_Nw (.fieldLinkNest RX9 67 RX7 "capture" "C" RX9) s := va_Nw.of rfl (hts (.fieldLinkNest RX9 67 RX7 "capture" "C" RX9) (List.mem_of_getElem? (i := 1456) (by decide +kernel)))
  have w_fw0 : va_Fw RJx4a65c ⟨"java/util/List", "size", "()I"⟩ yJx4a65c_size_8abf5 s := va_Fw.of (hts (.declares ⟨"java/util/List", "size", "()I"⟩) (List.mem_of_getElem? (i := 1433) (by decide +kernel))) (hts (.interfaceMethod "java/util/List" "java/util/List" "size" "()I") (List.mem_of_getElem? (i := 1432) (by decide +kernel))) (hts (.publicMethod yJx4a65c_size_8abf5) (List.mem_of_getElem? (i := 1438) (by decide +kernel))) (hts (.unhidden RJx4a65c "size" "()I") (List.mem_of_getElem? (i := 1436) (by decide +kernel))) (hts (.castable RJx4a65c "java/util/List") (List.mem_of_getElem? (i := 1434) (by decide +kernel)))
  have w_fw1 : va_Fw RJx4a65c ⟨"java/util/List", "add", "(Ljava/lang/Object;)Z"⟩ yJx4a65c_add_9ea2d s := va_Fw.of (hts (.declares ⟨"java/util/List", "add", "(Ljava/lang/Object;)Z"⟩) (List.mem_of_getElem? (i := 1474) (by decide +kernel))) (hts (.interfaceMethod "java/util/List" "java/util/List" "add" "(Ljava/lang/Object;)Z") (List.mem_of_getElem? (i := 1473) (by decide +kernel))) (hts (.publicMethod yJx4a65c_add_9ea2d) (List.mem_of_getElem? (i := 1478) (by decide +kernel))) (hts (.unhidden RJx4a65c "add" "(Ljava/lang/Object;)Z") (List.mem_of_getElem? (i := 1476) (by decide +kernel))) (hts (.castable RJx4a65c "java/util/List") (List.mem_of_getElem? (i := 1434) (by decide +kernel)))
  have w_fw2 : va_Fw RJx4a65c ⟨"java/util/List", "isEmpty", "()Z"⟩ yJx4a65c_isEmpty_aae02 s := va_Fw.of (hts (.declares ⟨"java/util/List", "isEmpty", "()Z"⟩) (List.mem_of_getElem? (i := 1992) (by decide +kernel))) (hts (.interfaceMethod "java/util/List" "java/util/List" "isEmpty" "()Z") (List.mem_of_getElem? (i := 1991) (by decide +kernel))) (hts (.publicMethod yJx4a65c_isEmpty_aae02) (List.mem_of_getElem? (i := 1996) (by decide +kernel))) (hts (.unhidden RJx4a65c "isEmpty" "()Z") (List.mem_of_getElem? (i := 1994) (by decide +kernel))) (hts (.castable RJx4a65c "java/util/List") (List.mem_of_getElem? (i := 1434) (by decide +kernel)))
  have w_fw3 : va_Fw RJx4a65c ⟨"java/util/List", "clear", "()V"⟩ yJx4a65c_clear_da8c8 s := va_Fw.of (hts (.declares ⟨"java/util/List", "clear", "()V"⟩) (List.mem_of_getElem? (i := 1966) (by decide +kernel))) (hts (.interfaceMethod "java/util/List" "java/util/List" "clear" "()V") (List.mem_of_getElem? (i := 1965) (by decide +kernel))) (hts (.publicMethod yJx4a65c_clear_da8c8) (List.mem_of_getElem? (i := 1970) (by decide +kernel))) (hts (.unhidden RJx4a65c "clear" "()V") (List.mem_of_getElem? (i := 1968) (by decide +kernel))) (hts (.castable RJx4a65c "java/util/List") (List.mem_of_getElem? (i := 1434) (by decide +kernel)))
  have w_ca0 : va_Nw (.castable "java/lang/IllegalArgumentException" "java/lang/IllegalArgumentException") s := va_Nw.of rfl (hts (.castable "java/lang/IllegalArgumentException" "java/lang/IllegalArgumentException") (List.mem_of_getElem? (i := 472) (by decide +kernel)))
  have w_ca1 : va_Nw (.castable "java/lang/IllegalStateException" "java/lang/IllegalStateException") s := va_Nw.of rfl (hts (.castable "java/lang/IllegalStateException" "java/lang/IllegalStateException") (List.mem_of_getElem? (i := 555) (by decide +kernel)))
  have w_ca2 : va_Nw (.castable "java/lang/IndexOutOfBoundsException" "java/lang/IndexOutOfBoundsException") s := va_Nw.of rfl (hts (.castable "java/lang/IndexOutOfBoundsException" "java/lang/IndexOutOfBoundsException") (List.mem_of_getElem? (i := 606) (by decide +kernel)))
  have w_ca3 : va_Nw (.castable "java/util/NoSuchElementException" "java/util/NoSuchElementException") s := va_Nw.of rfl (hts (.castable "java/util/NoSuchElementException" "java/util/NoSuchElementException") (List.mem_of_getElem? (i := 660) (by decide +kernel)))
  have w_ca4 : va_Nw (.castable "java/lang/UnsupportedOperationException" "java/lang/UnsupportedOperationException") s := va_Nw.of rfl (hts (.castable "java/lang/UnsupportedOperationException" "java/lang/UnsupportedOperationException") (List.mem_of_getElem? (i := 714) (by decide +kernel)))
  have w_ca5 : va_Nw (.castable "java/lang/ArithmeticException" "java/lang/ArithmeticException") s := va_Nw.of rfl (hts (.castable "java/lang/ArithmeticException" "java/lang/ArithmeticException") (List.mem_of_getElem? (i := 1300) (by decide +kernel)))
  have w_ca6 : va_Nw (.castable RX7 "java/lang/Object") s := va_Nw.of rfl (hts (.castable RX7 "java/lang/Object") (List.mem_of_getElem? (i := 2077) (by decide +kernel)))
  have w_ca7 : va_Nw (.castable "java/lang/Integer" "java/lang/Object") s := va_Nw.of rfl (hts (.castable "java/lang/Integer" "java/lang/Object") (List.mem_of_getElem? (i := 2067) (by decide +kernel)))
  have w_dl0 : va_Nw (.declares (Bundle.initS "java/lang/RuntimeException")) s := va_Nw.of rfl (hts (.declares ⟨"java/lang/RuntimeException", "<init>", "(Ljava/lang/String;)V"⟩) (List.mem_of_getElem? (i := 474) (by decide +kernel)))
  have w_dl1 : va_Nw (.declares (Bundle.initS "java/lang/Exception")) s := va_Nw.of rfl (hts (.declares ⟨"java/lang/Exception", "<init>", "(Ljava/lang/String;)V"⟩) (List.mem_of_getElem? (i := 476) (by decide +kernel)))
  have w_dl2 : va_Nw (.declares (Bundle.initS "java/lang/Throwable")) s := va_Nw.of rfl (hts (.declares ⟨"java/lang/Throwable", "<init>", "(Ljava/lang/String;)V"⟩) (List.mem_of_getElem? (i := 478) (by decide +kernel)))
  have w_nc0 : va_Nc "java/lang/IndexOutOfBoundsException" "java/lang/IllegalArgumentException" s := va_Nc.of (hs (.not (.castable "java/lang/IndexOutOfBoundsException" "java/lang/IllegalArgumentException")) (by decide +kernel))
  have w_st63 : (∃ sa, vk_R RX5 63 "a number is out of range" sa s) := law_str (hts (.stringRef RX5 63 "a number is out of range") (List.mem_of_getElem? (i := 516) (by decide +kernel))) (hs (.exactly (.string "Sowingcourt" 63) "java/lang/String") (by decide +kernel))
  have w_st75 : (∃ sa, vk_R RX5 75 "there is no such letter" sa s) := law_str (hts (.stringRef RX5 75 "there is no such letter") (List.mem_of_getElem? (i := 548) (by decide +kernel))) (hs (.exactly (.string "Sowingcourt" 75) "java/lang/String") (by decide +kernel))
  have w_st182 : (∃ sa, vk_R RX5 182 "there is no move" sa s) := law_str (hts (.stringRef RX5 182 "there is no move") (List.mem_of_getElem? (i := 763) (by decide +kernel))) (hs (.exactly (.string "Sowingcourt" 182) "java/lang/String") (by decide +kernel))
  have w_st226 : (∃ sa, vk_R RX5 226 "there is no such row" sa s) := law_str (hts (.stringRef RX5 226 "there is no such row") (List.mem_of_getElem? (i := 858) (by decide +kernel))) (hs (.exactly (.string "Sowingcourt" 226) "java/lang/String") (by decide +kernel))
  have w_st228 : (∃ sa, vk_R RX5 228 "there is no such hole" sa s) := law_str (hts (.stringRef RX5 228 "there is no such hole") (List.mem_of_getElem? (i := 710) (by decide +kernel))) (hs (.exactly (.string "Sowingcourt" 228) "java/lang/String") (by decide +kernel))
  have w_st266 : (∃ sa, vk_R RX5 266 "the hole is out of range" sa s) := law_str (hts (.stringRef RX5 266 "the hole is out of range") (List.mem_of_getElem? (i := 947) (by decide +kernel))) (hs (.exactly (.string "Sowingcourt" 266) "java/lang/String") (by decide +kernel))
  have w_st276 : (∃ sa, vk_R RX5 276 "there is no kind, or nothing is typed" sa s) := law_str (hts (.stringRef RX5 276 "there is no kind, or nothing is typed") (List.mem_of_getElem? (i := 967) (by decide +kernel))) (hs (.exactly (.string "Sowingcourt" 276) "java/lang/String") (by decide +kernel))
  have w_st299 : (∃ sa, vk_R RX5 299 "no kind has a parent" sa s) := law_str (hts (.stringRef RX5 299 "no kind has a parent") (List.mem_of_getElem? (i := 1307) (by decide +kernel))) (hs (.exactly (.string "Sowingcourt" 299) "java/lang/String") (by decide +kernel))
  have w_st316 : (∃ sa, vk_R RX5 316 "there is no such kind" sa s) := law_str (hts (.stringRef RX5 316 "there is no such kind") (List.mem_of_getElem? (i := 613) (by decide +kernel))) (hs (.exactly (.string "Sowingcourt" 316) "java/lang/String") (by decide +kernel))
  have w_st320 : (∃ sa, vk_R RX5 320 "no game was begun" sa s) := law_str (hts (.stringRef RX5 320 "no game was begun") (List.mem_of_getElem? (i := 779) (by decide +kernel))) (hs (.exactly (.string "Sowingcourt" 320) "java/lang/String") (by decide +kernel))
  have w_st322 : (∃ sa, vk_R RX5 322 "no game goes on" sa s) := law_str (hts (.stringRef RX5 322 "no game goes on") (List.mem_of_getElem? (i := 705) (by decide +kernel))) (hs (.exactly (.string "Sowingcourt" 322) "java/lang/String") (by decide +kernel))
  have w_srp : vk_R RX9 40 "srp" (κ 2) s := vk_R.of (hts (.stringRef RX9 40 "srp") (List.mem_of_getElem? (i := 1374) (by decide +kernel))) (by rw [k2]; exact hev40 0 (by decide))
  have w_noce : vk_R RX9 48 "noce" (κ 3) s := vk_R.of (hts (.stringRef RX9 48 "noce") (List.mem_of_getElem? (i := 1425) (by decide +kernel))) (by rw [k3]; exact hev48 0 (by decide))
  have x_zu : vx_Zq Bundle.tN "UNASSIGNED_STACK" Bundle.steD (LA s) s s.heap := vx_Zqof (hts (.laysStatic "java/lang/Throwable" "UNASSIGNED_STACK" "[Ljava/lang/StackTraceElement;") (List.mem_of_getElem? (i := 497) (by decide +kernel))) (hts (.initialized "java/lang/Throwable") (List.mem_of_getElem? (i := 54) (by decide +kernel))) (hs (.isRef (.static "java/lang/Throwable" "UNASSIGNED_STACK" "[Ljava/lang/StackTraceElement;")) (by decide +kernel)) hA
  have x_zn : vx_Zq Bundle.tN "SUPPRESSED_SENTINEL" Bundle.listD (LA s) s s.heap := vx_Zqof (hts (.laysStatic "java/lang/Throwable" "SUPPRESSED_SENTINEL" "Ljava/util/List;") (List.mem_of_getElem? (i := 499) (by decide +kernel))) (hts (.initialized "java/lang/Throwable") (List.mem_of_getElem? (i := 54) (by decide +kernel))) (hs (.isRef (.static "java/lang/Throwable" "SUPPRESSED_SENTINEL" "Ljava/util/List;")) (by decide +kernel)) hA
  have x_cs : va_Z "java/lang/String" "COMPACT_STRINGS" "Z" (.int 1) (LA s) s s.heap := va_Zof (hts (.laysStatic "java/lang/String" "COMPACT_STRINGS" "Z") (List.mem_of_getElem? (i := 254) (by decide +kernel))) (hts (.initialized "java/lang/String") (List.mem_of_getElem? (i := 48) (by decide +kernel))) (va_eqi (hs (.eq (.static "java/lang/String" "COMPACT_STRINGS" "Z") (.int 1)) (by decide +kernel))) hA
  have x_de : va_Z RJx4a65c "DEFAULTCAPACITY_EMPTY_ELEMENTDATA" "[Ljava/lang/Object;" (.ref (κ 0)) (LA s) s s.heap := by rw [k0]; exact va_Zref (hts (.laysStatic "java/util/ArrayList" "DEFAULTCAPACITY_EMPTY_ELEMENTDATA" "[Ljava/lang/Object;") (List.mem_of_getElem? (i := 1328) (by decide +kernel))) (hts (.initialized "java/util/ArrayList") (List.mem_of_getElem? (i := 53) (by decide +kernel))) e0 hA
  have x_dt : va_T (.object "java/lang/Object") (κ 0) 0 (fun _ => .null) (LA s) s s.heap := by rw [k0]; exact hT0
  have x_ih : va_Z "java/lang/Integer$IntegerCache" "high" "I" (.int 127) (LA s) s s.heap := va_Zof (hts (.laysStatic "java/lang/Integer$IntegerCache" "high" "I") (List.mem_of_getElem? (i := 1943) (by decide +kernel))) (hts (.initialized "java/lang/Integer$IntegerCache") (List.mem_of_getElem? (i := 77) (by decide +kernel))) (va_eqi (hs (.eq (.static "java/lang/Integer$IntegerCache" "high" "I") (.int 127)) (by decide +kernel))) hA
  have x_ic : va_Z "java/lang/Integer$IntegerCache" "cache" "[Ljava/lang/Integer;" (.ref (κ 1)) (LA s) s s.heap := by rw [k1]; exact va_Zref (hts (.laysStatic "java/lang/Integer$IntegerCache" "cache" "[Ljava/lang/Integer;") (List.mem_of_getElem? (i := 1945) (by decide +kernel))) (hts (.initialized "java/lang/Integer$IntegerCache") (List.mem_of_getElem? (i := 77) (by decide +kernel))) e1 hA
  have x_it : va_T (.object "java/lang/Integer") (κ 1) 256 (fun j => .ref (κ (10 + j))) (LA s) s s.heap := by rw [k1, show (fun j => Value.ref (κ (10 + j))) = fun j => Value.ref (ad j) from funext fun j => by rw [k10]]; exact hT1
  have x_io : vb_C (fun k => κ (10 + k)) (LA s) s s.heap := by rw [show (fun k => κ (10 + k)) = ad from funext k10]; exact hC
  have x_ss : vk_S 2 [3, 4] [[115, 114, 112], [110, 111, 99, 101]] (fun i => κ (2 + i)) (fun i => κ (4 + i)) (LA s) s s.heap := by
    refine ⟨fun i hi => ?_, fun i j hi hj e => ?_⟩
    · rcases (show i = 0 ∨ i = 1 by omega) with rfl | rfl
      · have h := hS40.1 0 (by decide)
        rw [← k2, ← k4] at h
        exact h
      · have h := hS48.1 0 (by decide)
        rw [← k3, ← k5] at h
        exact h
    · have hne : K40 0 ≠ K48 0 := vk_ne (hS40.1 0 (by decide)).2.2.1 (hS40.1 0 (by decide)).2.2.2 (hS48.1 0 (by decide)).2.2.1 (hS48.1 0 (by decide)).2.2.2 (by decide)
      rcases (show i = 0 ∨ i = 1 by omega) with rfl | rfl <;> rcases (show j = 0 ∨ j = 1 by omega) with rfl | rfl
      · rfl
      · exact absurd (k2.symm.trans (e.trans k3)) hne
      · exact absurd (k2.symm.trans (e.symm.trans k3)) hne
      · rfl
  exact ⟨κ, ⟨w_ao0, w_ao1, w_ao2, w_aoa, w_nm0, w_nm1, w_nm2, w_nm3, w_nf0, w_nf1, w_nf2, w_nf3, w_fw0, w_fw1, w_fw2, w_fw3, w_ca0, w_ca1, w_ca2, w_ca3, w_ca4, w_ca5, w_ca6, w_ca7, w_dl0, w_dl1, w_dl2, w_nc0, w_st63, w_st75, w_st182, w_st226, w_st228, w_st266, w_st276, w_st299, w_st316, w_st320, w_st322, w_srp, w_noce⟩, ⟨x_zu, x_zn, x_cs, x_de, x_dt, x_ih, x_ic, x_it, x_io, x_ss⟩⟩