def wm_c_X9_inRow_ok : List Cond := .code yX9_inRow cX9_inRow 12 (some .int) :: ([.code yX9_begins cX9_begins 1 none, .fieldLink RX9 19 "SowingcourtModel" "thrown" "I", .methodLink RX9 33 yX9_begins, .instanceMethod yX9_begins, .selects RX9 yX9_begins yX9_begins, .initialized RX9, .constantLong RX9 183 (10), .code yX9_in cX9_in 6 (some .boolean), .methodLink RX9 29 yX9_in, .static yX9_in, .constantLong RX9 185 (50), .code yX9_rows cX9_rows 5 (some .long), .methodLink RX9 189 yX9_rows, .static yX9_rows, .code yX9_fails cX9_fails 3 (some .boolean), .methodLink RX9 50 yX9_fails, .instanceMethod yX9_fails, .selects RX9 yX9_fails yX9_fails] ++ wsX90)
set_option maxRecDepth 20000 in
theorem gd_c_X9_inRow_ok_1 : GoodIn wm_c_X9_inRow_ok (wsV RX9 33 RX9 yX9_begins wm_c_X9_begins) := goodIn_of _ (by decide +kernel)
set_option maxRecDepth 20000 in
theorem gd_c_X9_inRow_ok_10 : GoodIn wm_c_X9_inRow_ok (va_wsS RX9 29 yX9_in wm_c_X9_in) := goodIn_of _ (by decide +kernel)
set_option maxRecDepth 20000 in
theorem gd_c_X9_inRow_ok_22 : GoodIn wm_c_X9_inRow_ok (va_wsS RX9 29 yX9_in wm_c_X9_in) := goodIn_of _ (by decide +kernel)
set_option maxRecDepth 20000 in
theorem gd_c_X9_inRow_ok_45 : GoodIn wm_c_X9_inRow_ok (va_wsS RX9 189 yX9_rows wm_c_X9_rows) := goodIn_of _ (by decide +kernel)
set_option maxRecDepth 20000 in
theorem gd_c_X9_inRow_ok_50 : GoodIn wm_c_X9_inRow_ok (va_wsS RX9 29 yX9_in wm_c_X9_in) := goodIn_of _ (by decide +kernel)
set_option maxRecDepth 20000 in
theorem gd_c_X9_inRow_ok_62 : GoodIn wm_c_X9_inRow_ok (wsV RX9 50 RX9 yX9_fails wm_c_X9_fails_n) := goodIn_of _ (by decide +kernel)
set_option maxRecDepth 20000 in
theorem gd_c_X9_inRow_ok_77 : GoodIn wm_c_X9_inRow_ok (va_wsS RX9 29 yX9_in wm_c_X9_in) := goodIn_of _ (by decide +kernel)
set_option maxRecDepth 20000 in
theorem gd_c_X9_inRow_ok_89 : GoodIn wm_c_X9_inRow_ok (wsV RX9 50 RX9 yX9_fails wm_c_X9_fails_n) := goodIn_of _ (by decide +kernel)
set_option maxRecDepth 20000 in
theorem gd_c_X9_inRow_ok_132 : GoodIn wm_c_X9_inRow_ok (va_wsS RX9 189 yX9_rows wm_c_X9_rows) := goodIn_of _ (by decide +kernel)
set_option maxRecDepth 20000 in
theorem gd_c_X9_inRow_ok_152 : GoodIn wm_c_X9_inRow_ok (va_wsS RX9 189 yX9_rows wm_c_X9_rows) := goodIn_of _ (by decide +kernel)
set_option maxHeartbeats 4000000 in
set_option maxRecDepth 100000 in
theorem c_X9_inRow_ok (l : Launch) (κ : Nat → Nat) (D : va_G) (sz : Nat) (m0 : Nat) (kl : Nat) (tl : Nat) (p0 : Int32) (p1 : Int32) (p2 : Int64) (p3 : Int32) (hs : Nat) (sd : Nat) (nn : Nat) (kk : Nat) (e0 : p0 = nI hs) (e1 : p1 = nI sd) (h1s : 0 < hs) (hhs : hs < 11) (hsd : sd < 51) (e2 : p2 = lN nn) (hnn : nn < WN hs sd) (e3 : p3 = nI kk) (hkk : kk < hs) : Met l yX9_inRow wm_c_X9_inRow_ok ({ frames := 11, cells := 0, slots := 0, locals := 380 }) (va_Pc [.ref m0, .int p0, .int p1, .long p2, .int p3] (PC κ D [] [(m0, .inr (16, [.int 0, .ref kl, .null, .ref tl]))] sz)) (va_Qi (fun (r : Int32) (_ : Unit) => r = nI (IR hs kk sd nn)) (fun _ t => PB D [] [(m0, .inr (16, [.int 0, .ref kl, .null, .ref tl]))] (va_A [(m0, .inr (16, [.int 0, .ref kl, .null, .ref tl]))] sz) t) (va_A [(m0, .inr (16, [.int 0, .ref kl, .null, .ref tl]))] sz)) 0 0 (va_A [(m0, .inr (16, [.int 0, .ref kl, .null, .ref tl]))] sz) := by
  refine Met.ofW (cc := cX9_inRow) (maxL := 12) (ret := (some .int)) (by decide +kernel) rfl ?_
  intro p e s m args below meth c s₁ B hml hv
  obtain ⟨rfl, hsz, hP, hK, hD0, hE⟩ := hv
  have hx := B.exec
  have hb := B.bytes
  have hr := B.returns
  have hts := atoms_spec (ws := wm_c_X9_inRow_ok) B.pre
  have hown : s.vm.findClass RX9 = some m.cls := findClass_of_methodNamed B.named
  have hlocks := B.notSynchronized
  have iRX9 : ∀ w ∈ u_ws RX9 TX9 4, w ∈ wm_c_X9_inRow_ok := by decide +kernel
  subst hsz
  have hD := hD0.self (sz := s.heap.size)
  generalize hAe : va_A [(m0, .inr (16, [.int 0, .ref kl, .null, .ref tl]))] s.heap.size = A at hD hE ⊢
  have hA : ∀ q : Nat, s.heap.size ≤ q → A q := fun q h => by rw [← hAe]; exact Or.inr h
  have hS : va_S A s.heap s.heap [] := va_S.rf
  have hl := lv_entry ([.ref m0, .int p0, .int p1, .long p2, .int p3]) (n := 12) (Nat.le_of_ble_eq_true rfl)
  rw [lg_entry_eq]
  generalize (lg_sl ([.ref m0, .int p0, .int p1, .long p2, .int p3]) ++ List.replicate (12 - (lg_sl ([.ref m0, .int p0, .int p1, .long p2, .int p3])).length) Slot.unset).toArray = ls at hl ⊢
  have hl : lv_has ls 12 [(0, .ref m0), (1, .int p0), (2, .int p1), (3, .long p2), (5, .int p3)] := hl
  refine lv_aload_n hx hb dX9_inRow_0 rfl (lv_at hl 0 rfl) ?_
  have hS0 := hS
  have hFc := va_free (wc := [(m0, .inr (16, [.int 0, .ref kl, .null, .ref tl]))]) hD hS hA [0] rfl
  refine va_callv (va_runV (As := []) (rest := []) ⟨hx, hb, hml, hown, hts⟩ (c_X9_begins l κ D (s.heap).size (m0) (kl) (tl) (0) ) (cwV 0 hts gd_c_X9_inRow_ok_1 rfl rfl rfl (by decide +kernel) ⟨(Nat.le_of_ble_eq_true rfl), (Nat.le_of_ble_eq_true rfl)⟩) (preV hE hK hP hD hS hA [0] rfl (by decide) [] rfl (va_recv hK hP (ci := 16) (q0 := 0) rfl rfl)) rfl rfl hl.1 rfl (lv_room (Nat.le_of_ble_eq_true rfl)) dX9_inRow_1 ⟨(Nat.le_of_ble_eq_true rfl), (Nat.le_of_ble_eq_true rfl)⟩) hS (fun q _ h => hFc q h) hFc (fun u t H1 locs ht hvm hw hB hz1 hk1 hS => ?_)
  try dsimp only at hw
  obtain ⟨hP, hD, hK⟩ := jn (wc := [(m0, .inr (16, [.int 0, .ref kl, .null, .ref tl]))]) (wr := []) (w1 := [(m0, .inr (16, [.int 0, .ref kl, .null, .ref tl]))]) (t1 := []) hP hD hK hS0 hA [0] [] rfl rfl (by decide) (by decide) ht hvm hk1 hB
  generalize H1 = H at hP hS ⊢
  have hP : va_P D vwCl ([(m0, .inr (16, [.int 0, .ref kl, .null, .ref tl]))]) H := hP
  have hD : va_D A ([(m0, .inr (16, [.int 0, .ref kl, .null, .ref tl]))]) := hD
  have hK : va_K D vwCl [] s := hK
  refine W.widen (k := 0) (n := 0) (Nat.le_of_ble_eq_true rfl) (Nat.le_of_ble_eq_true rfl) ?_
  refine lv_iload_n hx hb dX9_inRow_4 rfl (lv_at hl 1 rfl) ?_
  refine lv_i2l (v := (p0).toInt64) hx hb dX9_inRow_5 rfl ?_
  refine lv_lconst (v := 1) hx hb dX9_inRow_6 (by decide) ?_
  refine lv_ldc2 (v := 10) hx hb hown (hts (.constantLong RX9 183 (10)) (by decide +kernel)) dX9_inRow_7 ?_
  have hS0 := hS
  have hFc := va_free (wc := []) hD hS hA [] rfl
  refine va_calli (va_runS (As := [.long ((p0).toInt64), .long 1, .long 10]) (rest := []) ⟨hx, hb, hml, hown, hts⟩ (c_X9_in l κ D (H).size (((p0).toInt64)) (1) (10) ) (va_cwS 3 hts gd_c_X9_inRow_ok_10 rfl rfl rfl (by decide +kernel) ⟨(Nat.le_of_ble_eq_true rfl), (Nat.le_of_ble_eq_true rfl)⟩) (preS hE hK hP hD hS hA [] rfl (by decide) [] rfl) rfl rfl hl.1 rfl (lv_room (Nat.le_of_ble_eq_true rfl)) dX9_inRow_10 ⟨(Nat.le_of_ble_eq_true rfl), (Nat.le_of_ble_eq_true rfl)⟩) hS (fun q _ h => hFc q h) hFc (fun r_2 u t H1 locs ht hvm hw hB hz1 hk1 hS => ?_)
  try dsimp only at hw
  obtain ⟨hP, hD, hK⟩ := jn (wc := []) (wr := [(m0, .inr (16, [.int 0, .ref kl, .null, .ref tl]))]) (w1 := []) (t1 := []) hP hD hK hS0 hA [] [0] rfl rfl (by decide) (by decide) ht hvm hk1 hB
  generalize H1 = H at hP hS ⊢
  have hP : va_P D vwCl ([(m0, .inr (16, [.int 0, .ref kl, .null, .ref tl]))]) H := hP
  have hD : va_D A ([(m0, .inr (16, [.int 0, .ref kl, .null, .ref tl]))]) := hD
  have hK : va_K D vwCl [] s := hK
  refine W.widen (k := 0) (n := 0) (Nat.le_of_ble_eq_true rfl) (Nat.le_of_ble_eq_true rfl) ?_
  have hw : r_2 = 1 := hw.trans (if_pos (by rw [e0, nI_l (show hs < 2 ^ 31 by omega), lN_toInt (show hs < 2 ^ 31 by omega)]; exact ⟨by rw [show (1 : Int64).toInt = 1 from by decide]; omega, by rw [show (10 : Int64).toInt = 10 from by decide]; omega⟩))
  subst hw
  refine lv_if_eq (tgt := 28) hx hb dX9_inRow_13 (by decide) (fun c_13 => absurd c_13 (by decide)) (fun _ => ?_)
  refine lv_iload_n hx hb dX9_inRow_16 rfl (lv_at hl 2 rfl) ?_
  refine lv_i2l (v := (p1).toInt64) hx hb dX9_inRow_17 rfl ?_
  refine lv_lconst (v := 0) hx hb dX9_inRow_18 (by decide) ?_
  refine lv_ldc2 (v := 50) hx hb hown (hts (.constantLong RX9 185 (50)) (by decide +kernel)) dX9_inRow_19 ?_
  have hS0 := hS
  have hFc := va_free (wc := []) hD hS hA [] rfl
  refine va_calli (va_runS (As := [.long ((p1).toInt64), .long 0, .long 50]) (rest := []) ⟨hx, hb, hml, hown, hts⟩ (c_X9_in l κ D (H).size (((p1).toInt64)) (0) (50) ) (va_cwS 3 hts gd_c_X9_inRow_ok_22 rfl rfl rfl (by decide +kernel) ⟨(Nat.le_of_ble_eq_true rfl), (Nat.le_of_ble_eq_true rfl)⟩) (preS hE hK hP hD hS hA [] rfl (by decide) [] rfl) rfl rfl hl.1 rfl (lv_room (Nat.le_of_ble_eq_true rfl)) dX9_inRow_22 ⟨(Nat.le_of_ble_eq_true rfl), (Nat.le_of_ble_eq_true rfl)⟩) hS (fun q _ h => hFc q h) hFc (fun r_3 u t H1 locs ht hvm hw hB hz1 hk1 hS => ?_)
  try dsimp only at hw
  obtain ⟨hP, hD, hK⟩ := jn (wc := []) (wr := [(m0, .inr (16, [.int 0, .ref kl, .null, .ref tl]))]) (w1 := []) (t1 := []) hP hD hK hS0 hA [] [0] rfl rfl (by decide) (by decide) ht hvm hk1 hB
  generalize H1 = H at hP hS ⊢
  have hP : va_P D vwCl ([(m0, .inr (16, [.int 0, .ref kl, .null, .ref tl]))]) H := hP
  have hD : va_D A ([(m0, .inr (16, [.int 0, .ref kl, .null, .ref tl]))]) := hD
  have hK : va_K D vwCl [] s := hK
  refine W.widen (k := 0) (n := 0) (Nat.le_of_ble_eq_true rfl) (Nat.le_of_ble_eq_true rfl) ?_
  have hw : r_3 = 1 := hw.trans (if_pos (by rw [e1, nI_l (show sd < 2 ^ 31 by omega), lN_toInt (show sd < 2 ^ 31 by omega)]; exact ⟨by rw [show (0 : Int64).toInt = 0 from by decide]; omega, by rw [show (50 : Int64).toInt = 50 from by decide]; omega⟩))
  subst hw
  refine lv_if_ne (tgt := 32) hx hb dX9_inRow_25 (by decide) (fun _ => ?_) (fun c_25 => absurd c_25 (by decide))
  refine lv_iconst (v := 0) hx hb dX9_inRow_32 (by decide) ?_
  refine lv_istore (lv' := [(6, .int 0), (0, .ref m0), (1, .int p0), (2, .int p1), (3, .long p2), (5, .int p3)]) hx hb dX9_inRow_33 hl (by decide) rfl (fun ls hl => ?_)
  refine lv_aload_n hx hb dX9_inRow_35 rfl (lv_at hl 1 rfl) ?_
  refine lv_iload hx hb dX9_inRow_36 (lv_at hl 0 rfl) ?_
  refine lv_if_ne (tgt := 56) hx hb dX9_inRow_38 (by decide) (fun c_38 => absurd c_38 (by decide)) (fun _ => ?_)
  refine lv_lload_n hx hb dX9_inRow_41 rfl (lv_at hl 4 rfl) ?_
  refine lv_lconst (v := 0) hx hb dX9_inRow_42 (by decide) ?_
  refine lv_iload_n hx hb dX9_inRow_43 rfl (lv_at hl 2 rfl) ?_
  refine lv_iload_n hx hb dX9_inRow_44 rfl (lv_at hl 3 rfl) ?_
  have hS0 := hS
  have hFc := va_free (wc := []) hD hS hA [] rfl
  refine va_calll (va_runS (As := [.int p0, .int p1]) (rest := [.long 0, .long p2, .ref m0]) ⟨hx, hb, hml, hown, hts⟩ (c_X9_rows l κ D (H).size (p0) (p1) (hs) (sd) (e0) (e1) (hhs) (hsd)) (va_cwS 2 hts gd_c_X9_inRow_ok_45 rfl rfl rfl (by decide +kernel) ⟨(Nat.le_of_ble_eq_true rfl), (Nat.le_of_ble_eq_true rfl)⟩) (preS hE hK hP hD hS hA [] rfl (by decide) [] rfl) rfl rfl hl.1 rfl (lv_room (Nat.le_of_ble_eq_true rfl)) dX9_inRow_45 ⟨(Nat.le_of_ble_eq_true rfl), (Nat.le_of_ble_eq_true rfl)⟩) hS (fun q _ h => hFc q h) hFc (fun r_4 u t H1 locs ht hvm hw hB hz1 hk1 hS => ?_)
  try dsimp only at hw
  obtain ⟨hP, hD, hK⟩ := jn (wc := []) (wr := [(m0, .inr (16, [.int 0, .ref kl, .null, .ref tl]))]) (w1 := []) (t1 := []) hP hD hK hS0 hA [] [0] rfl rfl (by decide) (by decide) ht hvm hk1 hB
  generalize H1 = H at hP hS ⊢
  have hP : va_P D vwCl ([(m0, .inr (16, [.int 0, .ref kl, .null, .ref tl]))]) H := hP
  have hD : va_D A ([(m0, .inr (16, [.int 0, .ref kl, .null, .ref tl]))]) := hD
  have hK : va_K D vwCl [] s := hK
  refine W.widen (k := 0) (n := 0) (Nat.le_of_ble_eq_true rfl) (Nat.le_of_ble_eq_true rfl) ?_
  subst hw
  refine lv_lconst (v := 1) hx hb dX9_inRow_48 (by decide) ?_
  refine lv_lsub hx hb dX9_inRow_49 ?_
  refine lv_topl (fun v_5 ev_5 => ?_)
  have ev_5 : v_5 = ((lN (WN hs sd)) - 1) := ev_5.trans (rfl)
  subst ev_5
  have hS0 := hS
  have hFc := va_free (wc := []) hD hS hA [] rfl
  refine va_calli (va_runS (As := [.long p2, .long 0, .long (((lN (WN hs sd)) - 1))]) (rest := [.ref m0]) ⟨hx, hb, hml, hown, hts⟩ (c_X9_in l κ D (H).size (p2) (0) ((((lN (WN hs sd)) - 1))) ) (va_cwS 3 hts gd_c_X9_inRow_ok_50 rfl rfl rfl (by decide +kernel) ⟨(Nat.le_of_ble_eq_true rfl), (Nat.le_of_ble_eq_true rfl)⟩) (preS hE hK hP hD hS hA [] rfl (by decide) [] rfl) rfl rfl hl.1 rfl (lv_room (Nat.le_of_ble_eq_true rfl)) dX9_inRow_50 ⟨(Nat.le_of_ble_eq_true rfl), (Nat.le_of_ble_eq_true rfl)⟩) hS (fun q _ h => hFc q h) hFc (fun r_6 u t H1 locs ht hvm hw hB hz1 hk1 hS => ?_)
  try dsimp only at hw
  obtain ⟨hP, hD, hK⟩ := jn (wc := []) (wr := [(m0, .inr (16, [.int 0, .ref kl, .null, .ref tl]))]) (w1 := []) (t1 := []) hP hD hK hS0 hA [] [0] rfl rfl (by decide) (by decide) ht hvm hk1 hB
  generalize H1 = H at hP hS ⊢
  have hP : va_P D vwCl ([(m0, .inr (16, [.int 0, .ref kl, .null, .ref tl]))]) H := hP
  have hD : va_D A ([(m0, .inr (16, [.int 0, .ref kl, .null, .ref tl]))]) := hD
  have hK : va_K D vwCl [] s := hK
  refine W.widen (k := 0) (n := 0) (Nat.le_of_ble_eq_true rfl) (Nat.le_of_ble_eq_true rfl) ?_
  have hw : r_6 = 1 := hw.trans (if_pos (by rw [e2, pk_lT (show nn < 2 ^ 63 by have := WN_b hhs hsd; omega), show (lN (WN hs sd)) - 1 = lN (WN hs sd - 1) from lN_sub (show 1 ≤ WN hs sd by omega), pk_lT (show WN hs sd - 1 < 2 ^ 63 by have := WN_b hhs hsd; omega)]; exact ⟨by rw [show (0 : Int64).toInt = 0 from by decide]; omega, by omega⟩))
  subst hw
  refine lv_if_ne (tgt := 60) hx hb dX9_inRow_53 (by decide) (fun _ => ?_) (fun c_53 => absurd c_53 (by decide))
  refine lv_iconst (v := 0) hx hb dX9_inRow_60 (by decide) ?_
  refine lv_iconst (v := 1) hx hb dX9_inRow_61 (by decide) ?_
  have hS0 := hS
  have hFc := va_free (wc := [(m0, .inr (16, [.int 0, .ref kl, .null, .ref tl]))]) hD hS hA [0] rfl
  refine va_calli (va_runV (As := [.int 0, .int 1]) (rest := []) ⟨hx, hb, hml, hown, hts⟩ (c_X9_fails_n l κ D (H).size (m0) (kl) (tl) (1) ) (cwV 2 hts gd_c_X9_inRow_ok_62 rfl rfl rfl (by decide +kernel) ⟨(Nat.le_of_ble_eq_true rfl), (Nat.le_of_ble_eq_true rfl)⟩) (preV hE hK hP hD hS hA [0] rfl (by decide) [] rfl (va_recv hK hP (ci := 16) (q0 := 0) rfl rfl)) rfl rfl hl.1 rfl (lv_room (Nat.le_of_ble_eq_true rfl)) dX9_inRow_62 ⟨(Nat.le_of_ble_eq_true rfl), (Nat.le_of_ble_eq_true rfl)⟩) hS (fun q _ h => hFc q h) hFc (fun r_7 u t H1 locs ht hvm hw hB hz1 hk1 hS => ?_)
  try dsimp only at hw
  obtain ⟨hP, hD, hK⟩ := jn (wc := [(m0, .inr (16, [.int 0, .ref kl, .null, .ref tl]))]) (wr := []) (w1 := [(m0, .inr (16, [.int 0, .ref kl, .null, .ref tl]))]) (t1 := []) hP hD hK hS0 hA [0] [] rfl rfl (by decide) (by decide) ht hvm hk1 hB
  generalize H1 = H at hP hS ⊢
  have hP : va_P D vwCl ([(m0, .inr (16, [.int 0, .ref kl, .null, .ref tl]))]) H := hP
  have hD : va_D A ([(m0, .inr (16, [.int 0, .ref kl, .null, .ref tl]))]) := hD
  have hK : va_K D vwCl [] s := hK
  refine W.widen (k := 0) (n := 0) (Nat.le_of_ble_eq_true rfl) (Nat.le_of_ble_eq_true rfl) ?_
  subst hw
  refine lv_if_ne (tgt := 95) hx hb dX9_inRow_65 (by decide) (fun c_65 => absurd c_65 (by decide)) (fun _ => ?_)
  refine lv_aload_n hx hb dX9_inRow_68 rfl (lv_at hl 1 rfl) ?_
  refine lv_iload hx hb dX9_inRow_69 (lv_at hl 5 rfl) ?_
  refine lv_i2l (v := (p3).toInt64) hx hb dX9_inRow_71 rfl ?_
  refine lv_lconst (v := 0) hx hb dX9_inRow_72 (by decide) ?_
  refine lv_iload_n hx hb dX9_inRow_73 rfl (lv_at hl 2 rfl) ?_
  refine lv_iconst (v := 1) hx hb dX9_inRow_74 (by decide) ?_
  refine lv_isub hx hb dX9_inRow_75 ?_
  refine lv_topi (fun v_8 ev_8 => ?_)
  have ev_8 : v_8 = (nI (hs - 1)) := ev_8.trans (by rw [e0, show (1 : Int32) = nI 1 from rfl, pk_sub (by omega)])
  subst ev_8
  refine lv_i2l (v := (((nI (hs - 1)))).toInt64) hx hb dX9_inRow_76 rfl ?_
  have hS0 := hS
  have hFc := va_free (wc := []) hD hS hA [] rfl
  refine va_calli (va_runS (As := [.long ((p3).toInt64), .long 0, .long ((((nI (hs - 1)))).toInt64)]) (rest := [.ref m0]) ⟨hx, hb, hml, hown, hts⟩ (c_X9_in l κ D (H).size (((p3).toInt64)) (0) (((((nI (hs - 1)))).toInt64)) ) (va_cwS 3 hts gd_c_X9_inRow_ok_77 rfl rfl rfl (by decide +kernel) ⟨(Nat.le_of_ble_eq_true rfl), (Nat.le_of_ble_eq_true rfl)⟩) (preS hE hK hP hD hS hA [] rfl (by decide) [] rfl) rfl rfl hl.1 rfl (lv_room (Nat.le_of_ble_eq_true rfl)) dX9_inRow_77 ⟨(Nat.le_of_ble_eq_true rfl), (Nat.le_of_ble_eq_true rfl)⟩) hS (fun q _ h => hFc q h) hFc (fun r_9 u t H1 locs ht hvm hw hB hz1 hk1 hS => ?_)
  try dsimp only at hw
  obtain ⟨hP, hD, hK⟩ := jn (wc := []) (wr := [(m0, .inr (16, [.int 0, .ref kl, .null, .ref tl]))]) (w1 := []) (t1 := []) hP hD hK hS0 hA [] [0] rfl rfl (by decide) (by decide) ht hvm hk1 hB
  generalize H1 = H at hP hS ⊢
  have hP : va_P D vwCl ([(m0, .inr (16, [.int 0, .ref kl, .null, .ref tl]))]) H := hP
  have hD : va_D A ([(m0, .inr (16, [.int 0, .ref kl, .null, .ref tl]))]) := hD
  have hK : va_K D vwCl [] s := hK
  refine W.widen (k := 0) (n := 0) (Nat.le_of_ble_eq_true rfl) (Nat.le_of_ble_eq_true rfl) ?_
  have hw : r_9 = 1 := hw.trans (if_pos (by rw [e3, nI_l (show kk < 2 ^ 31 by omega), nI_l (show hs - 1 < 2 ^ 31 by omega), lN_toInt (show kk < 2 ^ 31 by omega), lN_toInt (show hs - 1 < 2 ^ 31 by omega)]; exact ⟨by rw [show (0 : Int64).toInt = 0 from by decide]; omega, by omega⟩))
  subst hw
  refine lv_if_ne (tgt := 87) hx hb dX9_inRow_80 (by decide) (fun _ => ?_) (fun c_80 => absurd c_80 (by decide))
  refine lv_iconst (v := 0) hx hb dX9_inRow_87 (by decide) ?_
  refine lv_iconst (v := 2) hx hb dX9_inRow_88 (by decide) ?_
  have hS0 := hS
  have hFc := va_free (wc := [(m0, .inr (16, [.int 0, .ref kl, .null, .ref tl]))]) hD hS hA [0] rfl
  refine va_calli (va_runV (As := [.int 0, .int 2]) (rest := []) ⟨hx, hb, hml, hown, hts⟩ (c_X9_fails_n l κ D (H).size (m0) (kl) (tl) (2) ) (cwV 2 hts gd_c_X9_inRow_ok_89 rfl rfl rfl (by decide +kernel) ⟨(Nat.le_of_ble_eq_true rfl), (Nat.le_of_ble_eq_true rfl)⟩) (preV hE hK hP hD hS hA [0] rfl (by decide) [] rfl (va_recv hK hP (ci := 16) (q0 := 0) rfl rfl)) rfl rfl hl.1 rfl (lv_room (Nat.le_of_ble_eq_true rfl)) dX9_inRow_89 ⟨(Nat.le_of_ble_eq_true rfl), (Nat.le_of_ble_eq_true rfl)⟩) hS (fun q _ h => hFc q h) hFc (fun r_10 u t H1 locs ht hvm hw hB hz1 hk1 hS => ?_)
  try dsimp only at hw
  obtain ⟨hP, hD, hK⟩ := jn (wc := [(m0, .inr (16, [.int 0, .ref kl, .null, .ref tl]))]) (wr := []) (w1 := [(m0, .inr (16, [.int 0, .ref kl, .null, .ref tl]))]) (t1 := []) hP hD hK hS0 hA [0] [] rfl rfl (by decide) (by decide) ht hvm hk1 hB
  generalize H1 = H at hP hS ⊢
  have hP : va_P D vwCl ([(m0, .inr (16, [.int 0, .ref kl, .null, .ref tl]))]) H := hP
  have hD : va_D A ([(m0, .inr (16, [.int 0, .ref kl, .null, .ref tl]))]) := hD
  have hK : va_K D vwCl [] s := hK
  refine W.widen (k := 0) (n := 0) (Nat.le_of_ble_eq_true rfl) (Nat.le_of_ble_eq_true rfl) ?_
  subst hw
  refine lv_if_eq (tgt := 97) hx hb dX9_inRow_92 (by decide) (fun _ => ?_) (fun c_92 => absurd c_92 (by decide))
  refine lv_lload_n hx hb dX9_inRow_97 rfl (lv_at hl 4 rfl) ?_
  refine lv_lstore (lv' := [(7, .long p2), (6, .int 0), (0, .ref m0), (1, .int p0), (2, .int p1), (3, .long p2), (5, .int p3)]) hx hb dX9_inRow_98 hl (by decide) rfl (fun ls hl => ?_)
  refine lv_iload_n hx hb dX9_inRow_100 rfl (lv_at hl 4 rfl) ?_
  refine lv_istore (lv' := [(9, .int p1), (7, .long p2), (6, .int 0), (0, .ref m0), (1, .int p0), (2, .int p1), (3, .long p2), (5, .int p3)]) hx hb dX9_inRow_101 hl (by decide) rfl (fun ls hl => ?_)
  refine lv_iconst (v := 0) hx hb dX9_inRow_103 (by decide) ?_
  refine lv_istore (lv' := [(10, .int 0), (9, .int p1), (7, .long p2), (6, .int 0), (0, .ref m0), (1, .int p0), (2, .int p1), (3, .long p2), (5, .int p3)]) hx hb dX9_inRow_104 hl (by decide) rfl (fun ls hl => ?_)
  refine lv_iconst (v := 0) hx hb dX9_inRow_106 (by decide) ?_
  refine lv_istore (lv' := [(11, .int 0), (10, .int 0), (9, .int p1), (7, .long p2), (6, .int 0), (0, .ref m0), (1, .int p0), (2, .int p1), (3, .long p2), (5, .int p3)]) hx hb dX9_inRow_107 hl (by decide) rfl (fun ls hl => ?_)
  have inner : ∀ (h' : Nat), h' < 11 → ∀ (xk : Int32), p0 - 1 - xk = nI h' → ∀ (F9 N9 L9 : Nat), L9 < 51 → (∀ (H : Heap) (locs : List Loc) (ls : Array Slot), va_P D vwCl [(m0, .inr (16, [.int 0, .ref kl, .null, .ref tl]))] H → va_D A [(m0, .inr (16, [.int 0, .ref kl, .null, .ref tl]))] → va_S A s.heap H locs → lv_has ls 12 [(11, .int xk), (10, .int (nI F9)), (9, .int (nI L9)), (7, .long (lN N9)), (5, .int p3), (1, .int p0), (0, .ref m0)] → W p l e (headSpec wm_c_X9_inRow_ok ({ frames := 11, cells := 0, slots := 0, locals := 380 })).room s m [.ref m0, .int p0, .int p1, .long p2, .int p3].toArray below meth c H locs 0 0 (MQ below (va_Qi (fun (r : Int32) (_ : Unit) => r = nI (IR hs kk sd nn)) (fun _ t => PB D [] [(m0, .inr (16, [.int 0, .ref kl, .null, .ref tl]))] A t) A) [.ref m0, .int p0, .int p1, .long p2, .int p3].toArray s 0 0 A) (F0 m 164 ls [])) → ∀ (r f n : Nat) (H : Heap) (locs : List Loc) (ls : Array Slot), f + r = L9 → f + (goR h' r n).1 = F9 → (goR h' r n).2 = N9 → n < WN (h' + 1) r → n < 2 ^ 62 → va_P D vwCl [(m0, .inr (16, [.int 0, .ref kl, .null, .ref tl]))] H → va_D A [(m0, .inr (16, [.int 0, .ref kl, .null, .ref tl]))] → va_S A s.heap H locs → lv_has ls 12 [(11, .int xk), (10, .int (nI f)), (9, .int (nI L9)), (7, .long (lN n)), (5, .int p3), (1, .int p0), (0, .ref m0)] → W p l e (headSpec wm_c_X9_inRow_ok ({ frames := 11, cells := 0, slots := 0, locals := 380 })).room s m [.ref m0, .int p0, .int p1, .long p2, .int p3].toArray below meth c H locs 0 0 (MQ below (va_Qi (fun (r : Int32) (_ : Unit) => r = nI (IR hs kk sd nn)) (fun _ t => PB D [] [(m0, .inr (16, [.int 0, .ref kl, .null, .ref tl]))] A t) A) [.ref m0, .int p0, .int p1, .long p2, .int p3].toArray s 0 0 A) (F0 m 119 ls []) := by
    intro h' hh' xk hxk F9 N9 L9 hL9 kk9 r
    induction r with
    | zero =>
      intro f n H locs ls hf hF hN hlt hn62 hP hD hS hl
      refine lv_lload hx hb dX9_inRow_119 (lv_at hl 3 rfl) ?_
      refine lv_iload_n hx hb dX9_inRow_121 rfl (lv_at hl 5 rfl) ?_
      refine lv_iconst (v := 1) hx hb dX9_inRow_122 (by decide) ?_
      refine lv_isub hx hb dX9_inRow_123 ?_
      refine lv_topi (fun v_11 ev_11 => ?_)
      have ev_11 : v_11 = (p0 - 1) := ev_11.trans (rfl)
      subst ev_11
      refine lv_iload hx hb dX9_inRow_124 (lv_at hl 0 rfl) ?_
      refine lv_isub hx hb dX9_inRow_126 ?_
      refine lv_topi (fun v_12 ev_12 => ?_)
      have ev_12 : v_12 = (nI h') := ev_12.trans (hxk)
      subst ev_12
      refine lv_iload hx hb dX9_inRow_127 (lv_at hl 2 rfl) ?_
      refine lv_iload hx hb dX9_inRow_129 (lv_at hl 1 rfl) ?_
      refine lv_isub hx hb dX9_inRow_131 ?_
      refine lv_topi (fun v_13 ev_13 => ?_)
      have ev_13 : v_13 = (nI 0) := ev_13.trans (by rw [pk_sub (show f ≤ L9 by omega)]; exact congrArg nI (show L9 - f = 0 by omega))
      subst ev_13
      have hS0 := hS
      have hFc := va_free (wc := []) hD hS hA [] rfl
      refine va_calll (va_runS (As := [.int ((nI h')), .int ((nI 0))]) (rest := [.long (lN n)]) ⟨hx, hb, hml, hown, hts⟩ (c_X9_rows l κ D (H).size (((nI h'))) (((nI 0))) (h') (0) (rfl) (rfl) (hh') ((show 0 < 51 by omega))) (va_cwS 2 hts gd_c_X9_inRow_ok_132 rfl rfl rfl (by decide +kernel) ⟨(Nat.le_of_ble_eq_true rfl), (Nat.le_of_ble_eq_true rfl)⟩) (preS hE hK hP hD hS hA [] rfl (by decide) [] rfl) rfl rfl hl.1 rfl (lv_room (Nat.le_of_ble_eq_true rfl)) dX9_inRow_132 ⟨(Nat.le_of_ble_eq_true rfl), (Nat.le_of_ble_eq_true rfl)⟩) hS (fun q _ h => hFc q h) hFc (fun r_14 u t H1 locs ht hvm hw hB hz1 hk1 hS => ?_)
      try dsimp only at hw
      obtain ⟨hP, hD, hK⟩ := jn (wc := []) (wr := [(m0, .inr (16, [.int 0, .ref kl, .null, .ref tl]))]) (w1 := []) (t1 := []) hP hD hK hS0 hA [] [0] rfl rfl (by decide) (by decide) ht hvm hk1 hB
      generalize H1 = H at hP hS ⊢
      have hP : va_P D vwCl ([(m0, .inr (16, [.int 0, .ref kl, .null, .ref tl]))]) H := hP
      have hD : va_D A ([(m0, .inr (16, [.int 0, .ref kl, .null, .ref tl]))]) := hD
      have hK : va_K D vwCl [] s := hK
      refine W.widen (k := 0) (n := 0) (Nat.le_of_ble_eq_true rfl) (Nat.le_of_ble_eq_true rfl) ?_
      subst hw
      refine W.lcmp hx hb dX9_inRow_135 ?_
      refine lv_if_lt (tgt := 164) hx hb dX9_inRow_136 (by decide) (fun c_136 => ?_) (fun c_136 => absurd ((lg_cmp_lt _ _).mpr ((pk_lLT (by omega) (by rw [WN_0]; omega)).mpr (by rw [WN_0] at hlt ⊢; exact hlt))) c_136)
      have e1 : f = F9 := hF
      have e2 : n = N9 := hN
      rw [e1, e2] at hl
      exact kk9 H locs ls hP hD hS (lv_sub hl [0, 1, 2, 3, 4, 5, 6] rfl)
    | succ r ih =>
      intro f n H locs ls hf hF hN hlt hn62 hP hD hS hl
      refine lv_lload hx hb dX9_inRow_119 (lv_at hl 3 rfl) ?_
      refine lv_iload_n hx hb dX9_inRow_121 rfl (lv_at hl 5 rfl) ?_
      refine lv_iconst (v := 1) hx hb dX9_inRow_122 (by decide) ?_
      refine lv_isub hx hb dX9_inRow_123 ?_
      refine lv_topi (fun v_15 ev_15 => ?_)
      have ev_15 : v_15 = (p0 - 1) := ev_15.trans (rfl)
      subst ev_15
      refine lv_iload hx hb dX9_inRow_124 (lv_at hl 0 rfl) ?_
      refine lv_isub hx hb dX9_inRow_126 ?_
      refine lv_topi (fun v_16 ev_16 => ?_)
      have ev_16 : v_16 = (nI h') := ev_16.trans (hxk)
      subst ev_16
      refine lv_iload hx hb dX9_inRow_127 (lv_at hl 2 rfl) ?_
      refine lv_iload hx hb dX9_inRow_129 (lv_at hl 1 rfl) ?_
      refine lv_isub hx hb dX9_inRow_131 ?_
      refine lv_topi (fun v_17 ev_17 => ?_)
      have ev_17 : v_17 = (nI (r + 1)) := ev_17.trans (by rw [pk_sub (show f ≤ L9 by omega)]; exact congrArg nI (show L9 - f = (r + 1) by omega))
      subst ev_17
      have hS0 := hS
      have hFc := va_free (wc := []) hD hS hA [] rfl
      refine va_calll (va_runS (As := [.int ((nI h')), .int ((nI (r + 1)))]) (rest := [.long (lN n)]) ⟨hx, hb, hml, hown, hts⟩ (c_X9_rows l κ D (H).size (((nI h'))) (((nI (r + 1)))) (h') ((r + 1)) (rfl) (rfl) (hh') ((show (r + 1) < 51 by omega))) (va_cwS 2 hts gd_c_X9_inRow_ok_132 rfl rfl rfl (by decide +kernel) ⟨(Nat.le_of_ble_eq_true rfl), (Nat.le_of_ble_eq_true rfl)⟩) (preS hE hK hP hD hS hA [] rfl (by decide) [] rfl) rfl rfl hl.1 rfl (lv_room (Nat.le_of_ble_eq_true rfl)) dX9_inRow_132 ⟨(Nat.le_of_ble_eq_true rfl), (Nat.le_of_ble_eq_true rfl)⟩) hS (fun q _ h => hFc q h) hFc (fun r_18 u t H1 locs ht hvm hw hB hz1 hk1 hS => ?_)
      try dsimp only at hw
      obtain ⟨hP, hD, hK⟩ := jn (wc := []) (wr := [(m0, .inr (16, [.int 0, .ref kl, .null, .ref tl]))]) (w1 := []) (t1 := []) hP hD hK hS0 hA [] [0] rfl rfl (by decide) (by decide) ht hvm hk1 hB
      generalize H1 = H at hP hS ⊢
      have hP : va_P D vwCl ([(m0, .inr (16, [.int 0, .ref kl, .null, .ref tl]))]) H := hP
      have hD : va_D A ([(m0, .inr (16, [.int 0, .ref kl, .null, .ref tl]))]) := hD
      have hK : va_K D vwCl [] s := hK
      refine W.widen (k := 0) (n := 0) (Nat.le_of_ble_eq_true rfl) (Nat.le_of_ble_eq_true rfl) ?_
      subst hw
      refine W.lcmp hx hb dX9_inRow_135 ?_
      refine lv_if_lt (tgt := 164) hx hb dX9_inRow_136 (by decide) (fun c_136 => ?_) (fun c_136 => ?_)
      · have hl9 : n < WN h' (r + 1) := (pk_lLT (by omega) (by have := WN_b hh' (show r + 1 < 51 by omega); omega)).mp ((lg_cmp_lt _ _).mp c_136)
        rw [goR, if_neg (Nat.not_le.mpr hl9)] at hF hN
        have e1 : f = F9 := hF
        have e2 : n = N9 := hN
        rw [e1, e2] at hl
        exact kk9 H locs ls hP hD hS (lv_sub hl [0, 1, 2, 3, 4, 5, 6] rfl)
      · have hge : WN h' (r + 1) ≤ n := by
          rcases Nat.lt_or_ge n (WN h' (r + 1)) with h9 | h9
          · exact absurd ((lg_cmp_lt _ _).mpr ((pk_lLT (by omega) (by have := WN_b hh' (show r + 1 < 51 by omega); omega)).mpr h9)) c_136
          · exact h9
        rw [goR, if_pos hge] at hF hN
        refine lv_lload hx hb dX9_inRow_139 (lv_at hl 3 rfl) ?_
        refine lv_iload_n hx hb dX9_inRow_141 rfl (lv_at hl 5 rfl) ?_
        refine lv_iconst (v := 1) hx hb dX9_inRow_142 (by decide) ?_
        refine lv_isub hx hb dX9_inRow_143 ?_
        refine lv_topi (fun v_19 ev_19 => ?_)
        have ev_19 : v_19 = (p0 - 1) := ev_19.trans (rfl)
        subst ev_19
        refine lv_iload hx hb dX9_inRow_144 (lv_at hl 0 rfl) ?_
        refine lv_isub hx hb dX9_inRow_146 ?_
        refine lv_topi (fun v_20 ev_20 => ?_)
        have ev_20 : v_20 = (nI h') := ev_20.trans (hxk)
        subst ev_20
        refine lv_iload hx hb dX9_inRow_147 (lv_at hl 2 rfl) ?_
        refine lv_iload hx hb dX9_inRow_149 (lv_at hl 1 rfl) ?_
        refine lv_isub hx hb dX9_inRow_151 ?_
        refine lv_topi (fun v_21 ev_21 => ?_)
        have ev_21 : v_21 = (nI (r + 1)) := ev_21.trans (by rw [pk_sub (show f ≤ L9 by omega)]; exact congrArg nI (show L9 - f = (r + 1) by omega))
        subst ev_21
        have hS0 := hS
        have hFc := va_free (wc := []) hD hS hA [] rfl
        refine va_calll (va_runS (As := [.int ((nI h')), .int ((nI (r + 1)))]) (rest := [.long (lN n)]) ⟨hx, hb, hml, hown, hts⟩ (c_X9_rows l κ D (H).size (((nI h'))) (((nI (r + 1)))) (h') ((r + 1)) (rfl) (rfl) (hh') ((show (r + 1) < 51 by omega))) (va_cwS 2 hts gd_c_X9_inRow_ok_152 rfl rfl rfl (by decide +kernel) ⟨(Nat.le_of_ble_eq_true rfl), (Nat.le_of_ble_eq_true rfl)⟩) (preS hE hK hP hD hS hA [] rfl (by decide) [] rfl) rfl rfl hl.1 rfl (lv_room (Nat.le_of_ble_eq_true rfl)) dX9_inRow_152 ⟨(Nat.le_of_ble_eq_true rfl), (Nat.le_of_ble_eq_true rfl)⟩) hS (fun q _ h => hFc q h) hFc (fun r_22 u t H1 locs ht hvm hw hB hz1 hk1 hS => ?_)
        try dsimp only at hw
        obtain ⟨hP, hD, hK⟩ := jn (wc := []) (wr := [(m0, .inr (16, [.int 0, .ref kl, .null, .ref tl]))]) (w1 := []) (t1 := []) hP hD hK hS0 hA [] [0] rfl rfl (by decide) (by decide) ht hvm hk1 hB
        generalize H1 = H at hP hS ⊢
        have hP : va_P D vwCl ([(m0, .inr (16, [.int 0, .ref kl, .null, .ref tl]))]) H := hP
        have hD : va_D A ([(m0, .inr (16, [.int 0, .ref kl, .null, .ref tl]))]) := hD
        have hK : va_K D vwCl [] s := hK
        refine W.widen (k := 0) (n := 0) (Nat.le_of_ble_eq_true rfl) (Nat.le_of_ble_eq_true rfl) ?_
        subst hw
        refine lv_lsub hx hb dX9_inRow_155 ?_
        refine lv_topl (fun v_23 ev_23 => ?_)
        have ev_23 : v_23 = (lN (n - WN h' (r + 1))) := ev_23.trans (lN_sub hge)
        subst ev_23
        refine lv_lstore (lv' := [(7, .long ((lN (n - WN h' (r + 1))))), (11, .int xk), (10, .int (nI f)), (9, .int (nI L9)), (5, .int p3), (1, .int p0), (0, .ref m0)]) hx hb dX9_inRow_156 hl (by decide) rfl (fun ls hl => ?_)
        refine lv_iinc (v := (nI (f + 1))) (lv' := [(10, .int (nI (f + 1))), (7, .long ((lN (n - WN h' (r + 1))))), (11, .int xk), (9, .int (nI L9)), (5, .int p3), (1, .int p0), (0, .ref m0)]) hx hb dX9_inRow_158 hl (k := 2) rfl (nI_1 f) (by decide) rfl (fun ls hl => ?_)
        refine lv_goto (tgt := 119) hx hb dX9_inRow_161 (by decide) ?_
        exact ih (f + 1) (n - WN h' (r + 1)) H locs ls (by omega) (by rw [← hF]; show _ = f + ((goR h' r (n - WN h' (r + 1))).1 + 1); omega) hN (by rw [WN_s] at hlt; omega) (by omega) hP hD hS (lv_sub hl [2, 0, 3, 1, 4, 5, 6] rfl)
  have outer : ∀ (k pl r n : Nat) (x10 : Int32) (H : Heap) (locs : List Loc) (ls : Array Slot), p3 = nI (pl + k) → pl + k < hs → r < 51 → n < 2 ^ 62 → n < WN (hs - pl) r → IR (hs - pl) k r n = (IR hs kk sd nn) → va_P D vwCl [(m0, .inr (16, [.int 0, .ref kl, .null, .ref tl]))] H → va_D A [(m0, .inr (16, [.int 0, .ref kl, .null, .ref tl]))] → va_S A s.heap H locs → lv_has ls 12 [(11, .int (nI pl)), (10, .int x10), (9, .int (nI r)), (7, .long (lN n)), (5, .int p3), (1, .int p0), (0, .ref m0)] → W p l e (headSpec wm_c_X9_inRow_ok ({ frames := 11, cells := 0, slots := 0, locals := 380 })).room s m [.ref m0, .int p0, .int p1, .long p2, .int p3].toArray below meth c H locs 0 0 (MQ below (va_Qi (fun (r : Int32) (_ : Unit) => r = nI (IR hs kk sd nn)) (fun _ t => PB D [] [(m0, .inr (16, [.int 0, .ref kl, .null, .ref tl]))] A t) A) [.ref m0, .int p0, .int p1, .long p2, .int p3].toArray s 0 0 A) (F0 m 109 ls []) := by
    intro k
    induction k with
    | zero =>
      intro pl r n x10 H locs ls exh hp hrr hn62 hlt hV hP hD hS hl
      refine lv_iload hx hb dX9_inRow_109 (lv_at hl 0 rfl) ?_
      refine lv_iload hx hb dX9_inRow_111 (lv_at hl 4 rfl) ?_
      refine lv_icmp_gt (tgt := 177) hx hb dX9_inRow_113 (by decide) (fun c_113 => absurd c_113 (by rw [exh]; exact nI_nlt (by omega) (by omega))) (fun c_113 => ?_)
      refine lv_iconst (v := 0) hx hb dX9_inRow_116 (by decide) ?_
      refine lv_istore (lv' := [(10, .int 0), (11, .int (nI pl)), (9, .int (nI r)), (7, .long (lN n)), (5, .int p3), (1, .int p0), (0, .ref m0)]) hx hb dX9_inRow_117 hl (by decide) rfl (fun ls hl => ?_)
      have hxx : p0 - 1 - nI pl = nI (hs - pl - 1) := by
        rw [e0, show (1 : Int32) = nI 1 from rfl, pk_sub (by omega), pk_sub (by omega)]
        exact congrArg nI (by omega)
      have hlt2 : n < WN (hs - pl - 1 + 1) r := by rw [show hs - pl - 1 + 1 = hs - pl by omega]; exact hlt
      have ha := goR_le (hs - pl - 1) r n
      have hb2 := goR_le2 (hs - pl - 1) r n
      have hl3 := goR_lt (hs - pl - 1) r n hlt2
      refine inner (hs - pl - 1) (by omega) (nI pl) hxx (goR (hs - pl - 1) r n).1 (goR (hs - pl - 1) r n).2 r hrr (fun H locs ls hP hD hS hl => ?_) r 0 n H locs ls (Nat.zero_add r) (Nat.zero_add _) rfl hlt2 hn62 hP hD hS (lv_sub hl [1, 0, 2, 3, 4, 5, 6] rfl)
      refine lv_iload hx hb dX9_inRow_164 (lv_at hl 2 rfl) ?_
      refine lv_iload hx hb dX9_inRow_166 (lv_at hl 1 rfl) ?_
      refine lv_isub hx hb dX9_inRow_168 ?_
      refine lv_topi (fun v_24 ev_24 => ?_)
      have ev_24 : v_24 = (nI (r - (goR (hs - pl - 1) r n).1)) := ev_24.trans (pk_sub ha)
      subst ev_24
      refine lv_istore (lv' := [(9, .int ((nI (r - (goR (hs - pl - 1) r n).1)))), (11, .int (nI pl)), (10, .int (nI (goR (hs - pl - 1) r n).1)), (7, .long (lN (goR (hs - pl - 1) r n).2)), (5, .int p3), (1, .int p0), (0, .ref m0)]) hx hb dX9_inRow_169 hl (by decide) rfl (fun ls hl => ?_)
      refine lv_iinc (v := (nI (pl + 1))) (lv' := [(11, .int (nI (pl + 1))), (9, .int ((nI (r - (goR (hs - pl - 1) r n).1)))), (10, .int (nI (goR (hs - pl - 1) r n).1)), (7, .long (lN (goR (hs - pl - 1) r n).2)), (5, .int p3), (1, .int p0), (0, .ref m0)]) hx hb dX9_inRow_171 hl (k := 1) rfl (nI_1 pl) (by decide) rfl (fun ls hl => ?_)
      refine lv_goto (tgt := 109) hx hb dX9_inRow_174 (by decide) ?_
      refine lv_iload hx hb dX9_inRow_109 (lv_at hl 0 rfl) ?_
      refine lv_iload hx hb dX9_inRow_111 (lv_at hl 4 rfl) ?_
      refine lv_icmp_gt (tgt := 177) hx hb dX9_inRow_113 (by decide) (fun c_113 => ?_) (fun c_113 => absurd (show p3 < nI (pl + 1) by rw [exh]; exact nI_lt (by omega) (by omega)) c_113)
      refine lv_iload hx hb dX9_inRow_177 (lv_at hl 2 rfl) ?_
      refine W.widen (k := 0) (n := 0) (Nat.le_of_ble_eq_true rfl) (Nat.le_of_ble_eq_true rfl) ?_
      exact W.iret (v := (nI (goR (hs - pl - 1) r n).1)) hx hb hr (fun t ht hW => ⟨⟨(nI (goR (hs - pl - 1) r n).1), (), rfl, (congrArg nI (show (goR (hs - pl - 1) r n).1 = (IR hs kk sd nn) from hV)), PB.at hP hK hD hW.alike ht [0] rfl (by decide) [] rfl⟩, hS.F ht⟩) hS.2.2 dX9_inRow_179
    | succ k ih =>
      intro pl r n x10 H locs ls exh hp hrr hn62 hlt hV hP hD hS hl
      refine lv_iload hx hb dX9_inRow_109 (lv_at hl 0 rfl) ?_
      refine lv_iload hx hb dX9_inRow_111 (lv_at hl 4 rfl) ?_
      refine lv_icmp_gt (tgt := 177) hx hb dX9_inRow_113 (by decide) (fun c_113 => absurd c_113 (by rw [exh]; exact nI_nlt (by omega) (by omega))) (fun c_113 => ?_)
      refine lv_iconst (v := 0) hx hb dX9_inRow_116 (by decide) ?_
      refine lv_istore (lv' := [(10, .int 0), (11, .int (nI pl)), (9, .int (nI r)), (7, .long (lN n)), (5, .int p3), (1, .int p0), (0, .ref m0)]) hx hb dX9_inRow_117 hl (by decide) rfl (fun ls hl => ?_)
      have hxx : p0 - 1 - nI pl = nI (hs - pl - 1) := by
        rw [e0, show (1 : Int32) = nI 1 from rfl, pk_sub (by omega), pk_sub (by omega)]
        exact congrArg nI (by omega)
      have hlt2 : n < WN (hs - pl - 1 + 1) r := by rw [show hs - pl - 1 + 1 = hs - pl by omega]; exact hlt
      have ha := goR_le (hs - pl - 1) r n
      have hb2 := goR_le2 (hs - pl - 1) r n
      have hl3 := goR_lt (hs - pl - 1) r n hlt2
      refine inner (hs - pl - 1) (by omega) (nI pl) hxx (goR (hs - pl - 1) r n).1 (goR (hs - pl - 1) r n).2 r hrr (fun H locs ls hP hD hS hl => ?_) r 0 n H locs ls (Nat.zero_add r) (Nat.zero_add _) rfl hlt2 hn62 hP hD hS (lv_sub hl [1, 0, 2, 3, 4, 5, 6] rfl)
      refine lv_iload hx hb dX9_inRow_164 (lv_at hl 2 rfl) ?_
      refine lv_iload hx hb dX9_inRow_166 (lv_at hl 1 rfl) ?_
      refine lv_isub hx hb dX9_inRow_168 ?_
      refine lv_topi (fun v_25 ev_25 => ?_)
      have ev_25 : v_25 = (nI (r - (goR (hs - pl - 1) r n).1)) := ev_25.trans (pk_sub ha)
      subst ev_25
      refine lv_istore (lv' := [(9, .int ((nI (r - (goR (hs - pl - 1) r n).1)))), (11, .int (nI pl)), (10, .int (nI (goR (hs - pl - 1) r n).1)), (7, .long (lN (goR (hs - pl - 1) r n).2)), (5, .int p3), (1, .int p0), (0, .ref m0)]) hx hb dX9_inRow_169 hl (by decide) rfl (fun ls hl => ?_)
      refine lv_iinc (v := (nI (pl + 1))) (lv' := [(11, .int (nI (pl + 1))), (9, .int ((nI (r - (goR (hs - pl - 1) r n).1)))), (10, .int (nI (goR (hs - pl - 1) r n).1)), (7, .long (lN (goR (hs - pl - 1) r n).2)), (5, .int p3), (1, .int p0), (0, .ref m0)]) hx hb dX9_inRow_171 hl (k := 1) rfl (nI_1 pl) (by decide) rfl (fun ls hl => ?_)
      refine lv_goto (tgt := 109) hx hb dX9_inRow_174 (by decide) ?_
      exact ih (pl + 1) (r - (goR (hs - pl - 1) r n).1) (goR (hs - pl - 1) r n).2 _ H locs ls (by rw [exh]; exact congrArg nI (by omega)) (by omega) (by omega) (by omega) (by rw [show hs - (pl + 1) = hs - pl - 1 by omega]; exact hl3) (by rw [← hV]; show IR (hs - (pl + 1)) k _ _ = IR (hs - pl - 1) k _ _; rw [show hs - (pl + 1) = hs - pl - 1 by omega]) hP hD hS (lv_sub hl [0, 2, 1, 3, 4, 5, 6] rfl)
  rw [e2, e1] at hl
  exact outer kk 0 sd nn _ H _ ls (by rw [e3, Nat.zero_add]) (by omega) hsd (Nat.lt_trans hnn (WN_b hhs hsd)) (by rw [Nat.sub_zero]; exact hnn) (by rw [Nat.sub_zero]) hP hD hS (lv_sub hl [0, 1, 2, 3, 9, 6, 5] rfl)

def wm_c_X9_inRow_badA : List Cond := .code yX9_inRow cX9_inRow 12 (some .int) :: ([.code yX9_begins cX9_begins 1 none, .fieldLink RX9 19 "SowingcourtModel" "thrown" "I", .methodLink RX9 33 yX9_begins, .instanceMethod yX9_begins, .selects RX9 yX9_begins yX9_begins, .initialized RX9, .constantLong RX9 183 (10), .code yX9_in cX9_in 6 (some .boolean), .methodLink RX9 29 yX9_in, .static yX9_in, .code yX9_fails cX9_fails 3 (some .boolean), .methodLink RX9 50 yX9_fails, .instanceMethod yX9_fails, .selects RX9 yX9_fails yX9_fails, .constantLong RX9 185 (50)] ++ wsX90)
set_option maxRecDepth 20000 in
theorem gd_c_X9_inRow_badA_1 : GoodIn wm_c_X9_inRow_badA (wsV RX9 33 RX9 yX9_begins wm_c_X9_begins) := goodIn_of _ (by decide +kernel)
set_option maxRecDepth 20000 in
theorem gd_c_X9_inRow_badA_10 : GoodIn wm_c_X9_inRow_badA (va_wsS RX9 29 yX9_in wm_c_X9_in) := goodIn_of _ (by decide +kernel)
set_option maxRecDepth 20000 in
theorem gd_c_X9_inRow_badA_62 : GoodIn wm_c_X9_inRow_badA (wsV RX9 50 RX9 yX9_fails wm_c_X9_fails_1) := goodIn_of _ (by decide +kernel)
set_option maxRecDepth 20000 in
theorem gd_c_X9_inRow_badA_22 : GoodIn wm_c_X9_inRow_badA (va_wsS RX9 29 yX9_in wm_c_X9_in) := goodIn_of _ (by decide +kernel)
set_option maxHeartbeats 4000000 in
set_option maxRecDepth 100000 in
theorem c_X9_inRow_badA (l : Launch) (κ : Nat → Nat) (D : va_G) (sz : Nat) (m0 : Nat) (kl : Nat) (tl : Nat) (p0 : Int32) (p1 : Int32) (p2 : Int64) (p3 : Int32) (hbad : ¬ (((1 : Int64).toInt ≤ (p0.toInt64).toInt ∧ (p0.toInt64).toInt ≤ (10 : Int64).toInt) ∧ ((0 : Int64).toInt ≤ (p1.toInt64).toInt ∧ (p1.toInt64).toInt ≤ (50 : Int64).toInt))) : Met l yX9_inRow wm_c_X9_inRow_badA ({ frames := 11, cells := 0, slots := 0, locals := 380 }) (va_Pc [.ref m0, .int p0, .int p1, .long p2, .int p3] (PC κ D [] [(m0, .inr (16, [.int 0, .ref kl, .null, .ref tl]))] sz)) (va_Qi (fun (r : Int32) (_ : Unit) => True) (fun _ t => PB D [] [(m0, .inr (16, [.int 1, .ref kl, .null, .ref tl]))] (va_A [(m0, .inr (16, [.int 0, .ref kl, .null, .ref tl]))] sz) t) (va_A [(m0, .inr (16, [.int 0, .ref kl, .null, .ref tl]))] sz)) 0 0 (va_A [(m0, .inr (16, [.int 0, .ref kl, .null, .ref tl]))] sz) := by
  refine Met.ofW (cc := cX9_inRow) (maxL := 12) (ret := (some .int)) (by decide +kernel) rfl ?_
  intro p e s m args below meth c s₁ B hml hv
  obtain ⟨rfl, hsz, hP, hK, hD0, hE⟩ := hv
  have hx := B.exec
  have hb := B.bytes
  have hr := B.returns
  have hts := atoms_spec (ws := wm_c_X9_inRow_badA) B.pre
  have hown : s.vm.findClass RX9 = some m.cls := findClass_of_methodNamed B.named
  have hlocks := B.notSynchronized
  have iRX9 : ∀ w ∈ u_ws RX9 TX9 4, w ∈ wm_c_X9_inRow_badA := by decide +kernel
  subst hsz
  have hD := hD0.self (sz := s.heap.size)
  generalize hAe : va_A [(m0, .inr (16, [.int 0, .ref kl, .null, .ref tl]))] s.heap.size = A at hD hE ⊢
  have hA : ∀ q : Nat, s.heap.size ≤ q → A q := fun q h => by rw [← hAe]; exact Or.inr h
  have hS : va_S A s.heap s.heap [] := va_S.rf
  have hl := lv_entry ([.ref m0, .int p0, .int p1, .long p2, .int p3]) (n := 12) (Nat.le_of_ble_eq_true rfl)
  rw [lg_entry_eq]
  generalize (lg_sl ([.ref m0, .int p0, .int p1, .long p2, .int p3]) ++ List.replicate (12 - (lg_sl ([.ref m0, .int p0, .int p1, .long p2, .int p3])).length) Slot.unset).toArray = ls at hl ⊢
  have hl : lv_has ls 12 [(0, .ref m0), (1, .int p0), (2, .int p1), (3, .long p2), (5, .int p3)] := hl
  refine lv_aload_n hx hb dX9_inRow_0 rfl (lv_at hl 0 rfl) ?_
  have hS0 := hS
  have hFc := va_free (wc := [(m0, .inr (16, [.int 0, .ref kl, .null, .ref tl]))]) hD hS hA [0] rfl
  refine va_callv (va_runV (As := []) (rest := []) ⟨hx, hb, hml, hown, hts⟩ (c_X9_begins l κ D (s.heap).size (m0) (kl) (tl) (0) ) (cwV 0 hts gd_c_X9_inRow_badA_1 rfl rfl rfl (by decide +kernel) ⟨(Nat.le_of_ble_eq_true rfl), (Nat.le_of_ble_eq_true rfl)⟩) (preV hE hK hP hD hS hA [0] rfl (by decide) [] rfl (va_recv hK hP (ci := 16) (q0 := 0) rfl rfl)) rfl rfl hl.1 rfl (lv_room (Nat.le_of_ble_eq_true rfl)) dX9_inRow_1 ⟨(Nat.le_of_ble_eq_true rfl), (Nat.le_of_ble_eq_true rfl)⟩) hS (fun q _ h => hFc q h) hFc (fun u t H1 locs ht hvm hw hB hz1 hk1 hS => ?_)
  try dsimp only at hw
  obtain ⟨hP, hD, hK⟩ := jn (wc := [(m0, .inr (16, [.int 0, .ref kl, .null, .ref tl]))]) (wr := []) (w1 := [(m0, .inr (16, [.int 0, .ref kl, .null, .ref tl]))]) (t1 := []) hP hD hK hS0 hA [0] [] rfl rfl (by decide) (by decide) ht hvm hk1 hB
  generalize H1 = H at hP hS ⊢
  have hP : va_P D vwCl ([(m0, .inr (16, [.int 0, .ref kl, .null, .ref tl]))]) H := hP
  have hD : va_D A ([(m0, .inr (16, [.int 0, .ref kl, .null, .ref tl]))]) := hD
  have hK : va_K D vwCl [] s := hK
  refine W.widen (k := 0) (n := 0) (Nat.le_of_ble_eq_true rfl) (Nat.le_of_ble_eq_true rfl) ?_
  refine lv_iload_n hx hb dX9_inRow_4 rfl (lv_at hl 1 rfl) ?_
  refine lv_i2l (v := (p0).toInt64) hx hb dX9_inRow_5 rfl ?_
  refine lv_lconst (v := 1) hx hb dX9_inRow_6 (by decide) ?_
  refine lv_ldc2 (v := 10) hx hb hown (hts (.constantLong RX9 183 (10)) (by decide +kernel)) dX9_inRow_7 ?_
  have hS0 := hS
  have hFc := va_free (wc := []) hD hS hA [] rfl
  refine va_calli (va_runS (As := [.long ((p0).toInt64), .long 1, .long 10]) (rest := []) ⟨hx, hb, hml, hown, hts⟩ (c_X9_in l κ D (H).size (((p0).toInt64)) (1) (10) ) (va_cwS 3 hts gd_c_X9_inRow_badA_10 rfl rfl rfl (by decide +kernel) ⟨(Nat.le_of_ble_eq_true rfl), (Nat.le_of_ble_eq_true rfl)⟩) (preS hE hK hP hD hS hA [] rfl (by decide) [] rfl) rfl rfl hl.1 rfl (lv_room (Nat.le_of_ble_eq_true rfl)) dX9_inRow_10 ⟨(Nat.le_of_ble_eq_true rfl), (Nat.le_of_ble_eq_true rfl)⟩) hS (fun q _ h => hFc q h) hFc (fun r_2 u t H1 locs ht hvm hw hB hz1 hk1 hS => ?_)
  try dsimp only at hw
  obtain ⟨hP, hD, hK⟩ := jn (wc := []) (wr := [(m0, .inr (16, [.int 0, .ref kl, .null, .ref tl]))]) (w1 := []) (t1 := []) hP hD hK hS0 hA [] [0] rfl rfl (by decide) (by decide) ht hvm hk1 hB
  generalize H1 = H at hP hS ⊢
  have hP : va_P D vwCl ([(m0, .inr (16, [.int 0, .ref kl, .null, .ref tl]))]) H := hP
  have hD : va_D A ([(m0, .inr (16, [.int 0, .ref kl, .null, .ref tl]))]) := hD
  have hK : va_K D vwCl [] s := hK
  refine W.widen (k := 0) (n := 0) (Nat.le_of_ble_eq_true rfl) (Nat.le_of_ble_eq_true rfl) ?_
  have hw_10 := hw
  refine lv_if_eq (tgt := 28) hx hb dX9_inRow_13 (by decide) (fun c_13 => ?_) (fun c_13 => ?_)
  · refine lv_iconst (v := 1) hx hb dX9_inRow_28 (by decide) ?_
    refine lv_goto (tgt := 33) hx hb dX9_inRow_29 (by decide) ?_
    refine lv_istore (lv' := [(6, .int 1), (0, .ref m0), (1, .int p0), (2, .int p1), (3, .long p2), (5, .int p3)]) hx hb dX9_inRow_33 hl (by decide) rfl (fun ls hl => ?_)
    refine lv_aload_n hx hb dX9_inRow_35 rfl (lv_at hl 1 rfl) ?_
    refine lv_iload hx hb dX9_inRow_36 (lv_at hl 0 rfl) ?_
    refine lv_if_ne (tgt := 56) hx hb dX9_inRow_38 (by decide) (fun _ => ?_) (fun c_38 => absurd c_38 (by decide))
    refine lv_iconst (v := 1) hx hb dX9_inRow_56 (by decide) ?_
    refine lv_goto (tgt := 61) hx hb dX9_inRow_57 (by decide) ?_
    refine lv_iconst (v := 1) hx hb dX9_inRow_61 (by decide) ?_
    have hS0 := hS
    have hFc := va_free (wc := [(m0, .inr (16, [.int 0, .ref kl, .null, .ref tl]))]) hD hS hA [0] rfl
    refine va_calli (va_runV (As := [.int 1, .int 1]) (rest := []) ⟨hx, hb, hml, hown, hts⟩ (c_X9_fails_1 l κ D (H).size (m0) (kl) (tl) ) (cwV 2 hts gd_c_X9_inRow_badA_62 rfl rfl rfl (by decide +kernel) ⟨(Nat.le_of_ble_eq_true rfl), (Nat.le_of_ble_eq_true rfl)⟩) (preV hE hK hP hD hS hA [0] rfl (by decide) [] rfl (va_recv hK hP (ci := 16) (q0 := 0) rfl rfl)) rfl rfl hl.1 rfl (lv_room (Nat.le_of_ble_eq_true rfl)) dX9_inRow_62 ⟨(Nat.le_of_ble_eq_true rfl), (Nat.le_of_ble_eq_true rfl)⟩) hS (fun q _ h => hFc q h) hFc (fun r_3 u t H1 locs ht hvm hw hB hz1 hk1 hS => ?_)
    try dsimp only at hw
    obtain ⟨hP, hD, hK⟩ := jn (wc := [(m0, .inr (16, [.int 0, .ref kl, .null, .ref tl]))]) (wr := []) (w1 := [(m0, .inr (16, [.int 1, .ref kl, .null, .ref tl]))]) (t1 := []) hP hD hK hS0 hA [0] [] rfl rfl (by decide) (by decide) ht hvm hk1 hB
    generalize H1 = H at hP hS ⊢
    have hP : va_P D vwCl ([(m0, .inr (16, [.int 1, .ref kl, .null, .ref tl]))]) H := hP
    have hD : va_D A ([(m0, .inr (16, [.int 1, .ref kl, .null, .ref tl]))]) := hD
    have hK : va_K D vwCl [] s := hK
    refine W.widen (k := 0) (n := 0) (Nat.le_of_ble_eq_true rfl) (Nat.le_of_ble_eq_true rfl) ?_
    subst hw
    refine lv_if_ne (tgt := 95) hx hb dX9_inRow_65 (by decide) (fun _ => ?_) (fun c_65 => absurd c_65 (by decide))
    refine lv_iconst (v := (-1)) hx hb dX9_inRow_95 (by decide) ?_
    refine W.widen (k := 0) (n := 0) (Nat.le_of_ble_eq_true rfl) (Nat.le_of_ble_eq_true rfl) ?_
    exact W.iret (v := (-1)) hx hb hr (fun t ht hW => ⟨⟨(-1), (), rfl, trivial, PB.at hP hK hD hW.alike ht [0] rfl (by decide) [] rfl⟩, hS.F ht⟩) hS.2.2 dX9_inRow_96
  · refine lv_iload_n hx hb dX9_inRow_16 rfl (lv_at hl 2 rfl) ?_
    refine lv_i2l (v := (p1).toInt64) hx hb dX9_inRow_17 rfl ?_
    refine lv_lconst (v := 0) hx hb dX9_inRow_18 (by decide) ?_
    refine lv_ldc2 (v := 50) hx hb hown (hts (.constantLong RX9 185 (50)) (by decide +kernel)) dX9_inRow_19 ?_
    have hS0 := hS
    have hFc := va_free (wc := []) hD hS hA [] rfl
    refine va_calli (va_runS (As := [.long ((p1).toInt64), .long 0, .long 50]) (rest := []) ⟨hx, hb, hml, hown, hts⟩ (c_X9_in l κ D (H).size (((p1).toInt64)) (0) (50) ) (va_cwS 3 hts gd_c_X9_inRow_badA_22 rfl rfl rfl (by decide +kernel) ⟨(Nat.le_of_ble_eq_true rfl), (Nat.le_of_ble_eq_true rfl)⟩) (preS hE hK hP hD hS hA [] rfl (by decide) [] rfl) rfl rfl hl.1 rfl (lv_room (Nat.le_of_ble_eq_true rfl)) dX9_inRow_22 ⟨(Nat.le_of_ble_eq_true rfl), (Nat.le_of_ble_eq_true rfl)⟩) hS (fun q _ h => hFc q h) hFc (fun r_4 u t H1 locs ht hvm hw hB hz1 hk1 hS => ?_)
    try dsimp only at hw
    obtain ⟨hP, hD, hK⟩ := jn (wc := []) (wr := [(m0, .inr (16, [.int 0, .ref kl, .null, .ref tl]))]) (w1 := []) (t1 := []) hP hD hK hS0 hA [] [0] rfl rfl (by decide) (by decide) ht hvm hk1 hB
    generalize H1 = H at hP hS ⊢
    have hP : va_P D vwCl ([(m0, .inr (16, [.int 0, .ref kl, .null, .ref tl]))]) H := hP
    have hD : va_D A ([(m0, .inr (16, [.int 0, .ref kl, .null, .ref tl]))]) := hD
    have hK : va_K D vwCl [] s := hK
    refine W.widen (k := 0) (n := 0) (Nat.le_of_ble_eq_true rfl) (Nat.le_of_ble_eq_true rfl) ?_
    have hw_22 := hw
    refine lv_if_ne (tgt := 32) hx hb dX9_inRow_25 (by decide) (fun c_25 => absurd ⟨ifn hw_10 c_13, ifn hw_22 c_25⟩ hbad) (fun c_25 => ?_)
    refine lv_iconst (v := 1) hx hb dX9_inRow_28 (by decide) ?_
    refine lv_goto (tgt := 33) hx hb dX9_inRow_29 (by decide) ?_
    refine lv_istore (lv' := [(6, .int 1), (0, .ref m0), (1, .int p0), (2, .int p1), (3, .long p2), (5, .int p3)]) hx hb dX9_inRow_33 hl (by decide) rfl (fun ls hl => ?_)
    refine lv_aload_n hx hb dX9_inRow_35 rfl (lv_at hl 1 rfl) ?_
    refine lv_iload hx hb dX9_inRow_36 (lv_at hl 0 rfl) ?_
    refine lv_if_ne (tgt := 56) hx hb dX9_inRow_38 (by decide) (fun _ => ?_) (fun c_38 => absurd c_38 (by decide))
    refine lv_iconst (v := 1) hx hb dX9_inRow_56 (by decide) ?_
    refine lv_goto (tgt := 61) hx hb dX9_inRow_57 (by decide) ?_
    refine lv_iconst (v := 1) hx hb dX9_inRow_61 (by decide) ?_
    have hS0 := hS
    have hFc := va_free (wc := [(m0, .inr (16, [.int 0, .ref kl, .null, .ref tl]))]) hD hS hA [0] rfl
    refine va_calli (va_runV (As := [.int 1, .int 1]) (rest := []) ⟨hx, hb, hml, hown, hts⟩ (c_X9_fails_1 l κ D (H).size (m0) (kl) (tl) ) (cwV 2 hts gd_c_X9_inRow_badA_62 rfl rfl rfl (by decide +kernel) ⟨(Nat.le_of_ble_eq_true rfl), (Nat.le_of_ble_eq_true rfl)⟩) (preV hE hK hP hD hS hA [0] rfl (by decide) [] rfl (va_recv hK hP (ci := 16) (q0 := 0) rfl rfl)) rfl rfl hl.1 rfl (lv_room (Nat.le_of_ble_eq_true rfl)) dX9_inRow_62 ⟨(Nat.le_of_ble_eq_true rfl), (Nat.le_of_ble_eq_true rfl)⟩) hS (fun q _ h => hFc q h) hFc (fun r_5 u t H1 locs ht hvm hw hB hz1 hk1 hS => ?_)
    try dsimp only at hw
    obtain ⟨hP, hD, hK⟩ := jn (wc := [(m0, .inr (16, [.int 0, .ref kl, .null, .ref tl]))]) (wr := []) (w1 := [(m0, .inr (16, [.int 1, .ref kl, .null, .ref tl]))]) (t1 := []) hP hD hK hS0 hA [0] [] rfl rfl (by decide) (by decide) ht hvm hk1 hB
    generalize H1 = H at hP hS ⊢
    have hP : va_P D vwCl ([(m0, .inr (16, [.int 1, .ref kl, .null, .ref tl]))]) H := hP
    have hD : va_D A ([(m0, .inr (16, [.int 1, .ref kl, .null, .ref tl]))]) := hD
    have hK : va_K D vwCl [] s := hK
    refine W.widen (k := 0) (n := 0) (Nat.le_of_ble_eq_true rfl) (Nat.le_of_ble_eq_true rfl) ?_
    subst hw
    refine lv_if_ne (tgt := 95) hx hb dX9_inRow_65 (by decide) (fun _ => ?_) (fun c_65 => absurd c_65 (by decide))
    refine lv_iconst (v := (-1)) hx hb dX9_inRow_95 (by decide) ?_
    refine W.widen (k := 0) (n := 0) (Nat.le_of_ble_eq_true rfl) (Nat.le_of_ble_eq_true rfl) ?_
    exact W.iret (v := (-1)) hx hb hr (fun t ht hW => ⟨⟨(-1), (), rfl, trivial, PB.at hP hK hD hW.alike ht [0] rfl (by decide) [] rfl⟩, hS.F ht⟩) hS.2.2 dX9_inRow_96

theorem w1T {h s : Nat} (hh : h < 11) (hs : s < 51) : ((lN (WN h s)) - 1).toInt = (WN h s : Int) - 1 := by
  have hb := WN_b hh hs
  rcases Nat.eq_zero_or_pos (WN h s) with h0 | h0
  · rw [h0]; decide
  · rw [show (lN (WN h s)) - 1 = lN (WN h s - 1) from lN_sub h0, pk_lT (by omega)]; omega

def wm_c_X9_inRow_badB : List Cond := .code yX9_inRow cX9_inRow 12 (some .int) :: ([.code yX9_begins cX9_begins 1 none, .fieldLink RX9 19 "SowingcourtModel" "thrown" "I", .methodLink RX9 33 yX9_begins, .instanceMethod yX9_begins, .selects RX9 yX9_begins yX9_begins, .initialized RX9, .constantLong RX9 183 (10), .code yX9_in cX9_in 6 (some .boolean), .methodLink RX9 29 yX9_in, .static yX9_in, .constantLong RX9 185 (50), .code yX9_rows cX9_rows 5 (some .long), .methodLink RX9 189 yX9_rows, .static yX9_rows, .code yX9_fails cX9_fails 3 (some .boolean), .methodLink RX9 50 yX9_fails, .instanceMethod yX9_fails, .selects RX9 yX9_fails yX9_fails] ++ wsX90)
set_option maxRecDepth 20000 in
theorem gd_c_X9_inRow_badB_1 : GoodIn wm_c_X9_inRow_badB (wsV RX9 33 RX9 yX9_begins wm_c_X9_begins) := goodIn_of _ (by decide +kernel)
set_option maxRecDepth 20000 in
theorem gd_c_X9_inRow_badB_10 : GoodIn wm_c_X9_inRow_badB (va_wsS RX9 29 yX9_in wm_c_X9_in) := goodIn_of _ (by decide +kernel)
set_option maxRecDepth 20000 in
theorem gd_c_X9_inRow_badB_22 : GoodIn wm_c_X9_inRow_badB (va_wsS RX9 29 yX9_in wm_c_X9_in) := goodIn_of _ (by decide +kernel)
set_option maxRecDepth 20000 in
theorem gd_c_X9_inRow_badB_45 : GoodIn wm_c_X9_inRow_badB (va_wsS RX9 189 yX9_rows wm_c_X9_rows) := goodIn_of _ (by decide +kernel)
set_option maxRecDepth 20000 in
theorem gd_c_X9_inRow_badB_50 : GoodIn wm_c_X9_inRow_badB (va_wsS RX9 29 yX9_in wm_c_X9_in) := goodIn_of _ (by decide +kernel)
set_option maxRecDepth 20000 in
theorem gd_c_X9_inRow_badB_62 : GoodIn wm_c_X9_inRow_badB (wsV RX9 50 RX9 yX9_fails wm_c_X9_fails_1) := goodIn_of _ (by decide +kernel)
set_option maxHeartbeats 4000000 in
set_option maxRecDepth 100000 in
theorem c_X9_inRow_badB (l : Launch) (κ : Nat → Nat) (D : va_G) (sz : Nat) (m0 : Nat) (kl : Nat) (tl : Nat) (p0 : Int32) (p1 : Int32) (p2 : Int64) (p3 : Int32) (hs : Nat) (sd : Nat) (e0 : p0 = nI hs) (e1 : p1 = nI sd) (h1s : 0 < hs) (hhs : hs < 11) (hsd : sd < 51) (hbad : ¬ (0 ≤ p2.toInt ∧ p2.toInt < (WN hs sd : Int))) : Met l yX9_inRow wm_c_X9_inRow_badB ({ frames := 11, cells := 0, slots := 0, locals := 380 }) (va_Pc [.ref m0, .int p0, .int p1, .long p2, .int p3] (PC κ D [] [(m0, .inr (16, [.int 0, .ref kl, .null, .ref tl]))] sz)) (va_Qi (fun (r : Int32) (_ : Unit) => True) (fun _ t => PB D [] [(m0, .inr (16, [.int 1, .ref kl, .null, .ref tl]))] (va_A [(m0, .inr (16, [.int 0, .ref kl, .null, .ref tl]))] sz) t) (va_A [(m0, .inr (16, [.int 0, .ref kl, .null, .ref tl]))] sz)) 0 0 (va_A [(m0, .inr (16, [.int 0, .ref kl, .null, .ref tl]))] sz) := by
  refine Met.ofW (cc := cX9_inRow) (maxL := 12) (ret := (some .int)) (by decide +kernel) rfl ?_
  intro p e s m args below meth c s₁ B hml hv
  obtain ⟨rfl, hsz, hP, hK, hD0, hE⟩ := hv
  have hx := B.exec
  have hb := B.bytes
  have hr := B.returns
  have hts := atoms_spec (ws := wm_c_X9_inRow_badB) B.pre
  have hown : s.vm.findClass RX9 = some m.cls := findClass_of_methodNamed B.named
  have hlocks := B.notSynchronized
  have iRX9 : ∀ w ∈ u_ws RX9 TX9 4, w ∈ wm_c_X9_inRow_badB := by decide +kernel
  subst hsz
  have hD := hD0.self (sz := s.heap.size)
  generalize hAe : va_A [(m0, .inr (16, [.int 0, .ref kl, .null, .ref tl]))] s.heap.size = A at hD hE ⊢
  have hA : ∀ q : Nat, s.heap.size ≤ q → A q := fun q h => by rw [← hAe]; exact Or.inr h
  have hS : va_S A s.heap s.heap [] := va_S.rf
  have hl := lv_entry ([.ref m0, .int p0, .int p1, .long p2, .int p3]) (n := 12) (Nat.le_of_ble_eq_true rfl)
  rw [lg_entry_eq]
  generalize (lg_sl ([.ref m0, .int p0, .int p1, .long p2, .int p3]) ++ List.replicate (12 - (lg_sl ([.ref m0, .int p0, .int p1, .long p2, .int p3])).length) Slot.unset).toArray = ls at hl ⊢
  have hl : lv_has ls 12 [(0, .ref m0), (1, .int p0), (2, .int p1), (3, .long p2), (5, .int p3)] := hl
  refine lv_aload_n hx hb dX9_inRow_0 rfl (lv_at hl 0 rfl) ?_
  have hS0 := hS
  have hFc := va_free (wc := [(m0, .inr (16, [.int 0, .ref kl, .null, .ref tl]))]) hD hS hA [0] rfl
  refine va_callv (va_runV (As := []) (rest := []) ⟨hx, hb, hml, hown, hts⟩ (c_X9_begins l κ D (s.heap).size (m0) (kl) (tl) (0) ) (cwV 0 hts gd_c_X9_inRow_badB_1 rfl rfl rfl (by decide +kernel) ⟨(Nat.le_of_ble_eq_true rfl), (Nat.le_of_ble_eq_true rfl)⟩) (preV hE hK hP hD hS hA [0] rfl (by decide) [] rfl (va_recv hK hP (ci := 16) (q0 := 0) rfl rfl)) rfl rfl hl.1 rfl (lv_room (Nat.le_of_ble_eq_true rfl)) dX9_inRow_1 ⟨(Nat.le_of_ble_eq_true rfl), (Nat.le_of_ble_eq_true rfl)⟩) hS (fun q _ h => hFc q h) hFc (fun u t H1 locs ht hvm hw hB hz1 hk1 hS => ?_)
  try dsimp only at hw
  obtain ⟨hP, hD, hK⟩ := jn (wc := [(m0, .inr (16, [.int 0, .ref kl, .null, .ref tl]))]) (wr := []) (w1 := [(m0, .inr (16, [.int 0, .ref kl, .null, .ref tl]))]) (t1 := []) hP hD hK hS0 hA [0] [] rfl rfl (by decide) (by decide) ht hvm hk1 hB
  generalize H1 = H at hP hS ⊢
  have hP : va_P D vwCl ([(m0, .inr (16, [.int 0, .ref kl, .null, .ref tl]))]) H := hP
  have hD : va_D A ([(m0, .inr (16, [.int 0, .ref kl, .null, .ref tl]))]) := hD
  have hK : va_K D vwCl [] s := hK
  refine W.widen (k := 0) (n := 0) (Nat.le_of_ble_eq_true rfl) (Nat.le_of_ble_eq_true rfl) ?_
  refine lv_iload_n hx hb dX9_inRow_4 rfl (lv_at hl 1 rfl) ?_
  refine lv_i2l (v := (p0).toInt64) hx hb dX9_inRow_5 rfl ?_
  refine lv_lconst (v := 1) hx hb dX9_inRow_6 (by decide) ?_
  refine lv_ldc2 (v := 10) hx hb hown (hts (.constantLong RX9 183 (10)) (by decide +kernel)) dX9_inRow_7 ?_
  have hS0 := hS
  have hFc := va_free (wc := []) hD hS hA [] rfl
  refine va_calli (va_runS (As := [.long ((p0).toInt64), .long 1, .long 10]) (rest := []) ⟨hx, hb, hml, hown, hts⟩ (c_X9_in l κ D (H).size (((p0).toInt64)) (1) (10) ) (va_cwS 3 hts gd_c_X9_inRow_badB_10 rfl rfl rfl (by decide +kernel) ⟨(Nat.le_of_ble_eq_true rfl), (Nat.le_of_ble_eq_true rfl)⟩) (preS hE hK hP hD hS hA [] rfl (by decide) [] rfl) rfl rfl hl.1 rfl (lv_room (Nat.le_of_ble_eq_true rfl)) dX9_inRow_10 ⟨(Nat.le_of_ble_eq_true rfl), (Nat.le_of_ble_eq_true rfl)⟩) hS (fun q _ h => hFc q h) hFc (fun r_2 u t H1 locs ht hvm hw hB hz1 hk1 hS => ?_)
  try dsimp only at hw
  obtain ⟨hP, hD, hK⟩ := jn (wc := []) (wr := [(m0, .inr (16, [.int 0, .ref kl, .null, .ref tl]))]) (w1 := []) (t1 := []) hP hD hK hS0 hA [] [0] rfl rfl (by decide) (by decide) ht hvm hk1 hB
  generalize H1 = H at hP hS ⊢
  have hP : va_P D vwCl ([(m0, .inr (16, [.int 0, .ref kl, .null, .ref tl]))]) H := hP
  have hD : va_D A ([(m0, .inr (16, [.int 0, .ref kl, .null, .ref tl]))]) := hD
  have hK : va_K D vwCl [] s := hK
  refine W.widen (k := 0) (n := 0) (Nat.le_of_ble_eq_true rfl) (Nat.le_of_ble_eq_true rfl) ?_
  have hw : r_2 = 1 := hw.trans (if_pos (by rw [e0, nI_l (show hs < 2 ^ 31 by omega), lN_toInt (show hs < 2 ^ 31 by omega)]; exact ⟨by rw [show (1 : Int64).toInt = 1 from by decide]; omega, by rw [show (10 : Int64).toInt = 10 from by decide]; omega⟩))
  subst hw
  refine lv_if_eq (tgt := 28) hx hb dX9_inRow_13 (by decide) (fun c_13 => absurd c_13 (by decide)) (fun _ => ?_)
  refine lv_iload_n hx hb dX9_inRow_16 rfl (lv_at hl 2 rfl) ?_
  refine lv_i2l (v := (p1).toInt64) hx hb dX9_inRow_17 rfl ?_
  refine lv_lconst (v := 0) hx hb dX9_inRow_18 (by decide) ?_
  refine lv_ldc2 (v := 50) hx hb hown (hts (.constantLong RX9 185 (50)) (by decide +kernel)) dX9_inRow_19 ?_
  have hS0 := hS
  have hFc := va_free (wc := []) hD hS hA [] rfl
  refine va_calli (va_runS (As := [.long ((p1).toInt64), .long 0, .long 50]) (rest := []) ⟨hx, hb, hml, hown, hts⟩ (c_X9_in l κ D (H).size (((p1).toInt64)) (0) (50) ) (va_cwS 3 hts gd_c_X9_inRow_badB_22 rfl rfl rfl (by decide +kernel) ⟨(Nat.le_of_ble_eq_true rfl), (Nat.le_of_ble_eq_true rfl)⟩) (preS hE hK hP hD hS hA [] rfl (by decide) [] rfl) rfl rfl hl.1 rfl (lv_room (Nat.le_of_ble_eq_true rfl)) dX9_inRow_22 ⟨(Nat.le_of_ble_eq_true rfl), (Nat.le_of_ble_eq_true rfl)⟩) hS (fun q _ h => hFc q h) hFc (fun r_3 u t H1 locs ht hvm hw hB hz1 hk1 hS => ?_)
  try dsimp only at hw
  obtain ⟨hP, hD, hK⟩ := jn (wc := []) (wr := [(m0, .inr (16, [.int 0, .ref kl, .null, .ref tl]))]) (w1 := []) (t1 := []) hP hD hK hS0 hA [] [0] rfl rfl (by decide) (by decide) ht hvm hk1 hB
  generalize H1 = H at hP hS ⊢
  have hP : va_P D vwCl ([(m0, .inr (16, [.int 0, .ref kl, .null, .ref tl]))]) H := hP
  have hD : va_D A ([(m0, .inr (16, [.int 0, .ref kl, .null, .ref tl]))]) := hD
  have hK : va_K D vwCl [] s := hK
  refine W.widen (k := 0) (n := 0) (Nat.le_of_ble_eq_true rfl) (Nat.le_of_ble_eq_true rfl) ?_
  have hw : r_3 = 1 := hw.trans (if_pos (by rw [e1, nI_l (show sd < 2 ^ 31 by omega), lN_toInt (show sd < 2 ^ 31 by omega)]; exact ⟨by rw [show (0 : Int64).toInt = 0 from by decide]; omega, by rw [show (50 : Int64).toInt = 50 from by decide]; omega⟩))
  subst hw
  refine lv_if_ne (tgt := 32) hx hb dX9_inRow_25 (by decide) (fun _ => ?_) (fun c_25 => absurd c_25 (by decide))
  refine lv_iconst (v := 0) hx hb dX9_inRow_32 (by decide) ?_
  refine lv_istore (lv' := [(6, .int 0), (0, .ref m0), (1, .int p0), (2, .int p1), (3, .long p2), (5, .int p3)]) hx hb dX9_inRow_33 hl (by decide) rfl (fun ls hl => ?_)
  refine lv_aload_n hx hb dX9_inRow_35 rfl (lv_at hl 1 rfl) ?_
  refine lv_iload hx hb dX9_inRow_36 (lv_at hl 0 rfl) ?_
  refine lv_if_ne (tgt := 56) hx hb dX9_inRow_38 (by decide) (fun c_38 => absurd c_38 (by decide)) (fun _ => ?_)
  refine lv_lload_n hx hb dX9_inRow_41 rfl (lv_at hl 4 rfl) ?_
  refine lv_lconst (v := 0) hx hb dX9_inRow_42 (by decide) ?_
  refine lv_iload_n hx hb dX9_inRow_43 rfl (lv_at hl 2 rfl) ?_
  refine lv_iload_n hx hb dX9_inRow_44 rfl (lv_at hl 3 rfl) ?_
  have hS0 := hS
  have hFc := va_free (wc := []) hD hS hA [] rfl
  refine va_calll (va_runS (As := [.int p0, .int p1]) (rest := [.long 0, .long p2, .ref m0]) ⟨hx, hb, hml, hown, hts⟩ (c_X9_rows l κ D (H).size (p0) (p1) (hs) (sd) (e0) (e1) (hhs) (hsd)) (va_cwS 2 hts gd_c_X9_inRow_badB_45 rfl rfl rfl (by decide +kernel) ⟨(Nat.le_of_ble_eq_true rfl), (Nat.le_of_ble_eq_true rfl)⟩) (preS hE hK hP hD hS hA [] rfl (by decide) [] rfl) rfl rfl hl.1 rfl (lv_room (Nat.le_of_ble_eq_true rfl)) dX9_inRow_45 ⟨(Nat.le_of_ble_eq_true rfl), (Nat.le_of_ble_eq_true rfl)⟩) hS (fun q _ h => hFc q h) hFc (fun r_4 u t H1 locs ht hvm hw hB hz1 hk1 hS => ?_)
  try dsimp only at hw
  obtain ⟨hP, hD, hK⟩ := jn (wc := []) (wr := [(m0, .inr (16, [.int 0, .ref kl, .null, .ref tl]))]) (w1 := []) (t1 := []) hP hD hK hS0 hA [] [0] rfl rfl (by decide) (by decide) ht hvm hk1 hB
  generalize H1 = H at hP hS ⊢
  have hP : va_P D vwCl ([(m0, .inr (16, [.int 0, .ref kl, .null, .ref tl]))]) H := hP
  have hD : va_D A ([(m0, .inr (16, [.int 0, .ref kl, .null, .ref tl]))]) := hD
  have hK : va_K D vwCl [] s := hK
  refine W.widen (k := 0) (n := 0) (Nat.le_of_ble_eq_true rfl) (Nat.le_of_ble_eq_true rfl) ?_
  subst hw
  refine lv_lconst (v := 1) hx hb dX9_inRow_48 (by decide) ?_
  refine lv_lsub hx hb dX9_inRow_49 ?_
  refine lv_topl (fun v_5 ev_5 => ?_)
  have ev_5 : v_5 = ((lN (WN hs sd)) - 1) := ev_5.trans (rfl)
  subst ev_5
  have hS0 := hS
  have hFc := va_free (wc := []) hD hS hA [] rfl
  refine va_calli (va_runS (As := [.long p2, .long 0, .long (((lN (WN hs sd)) - 1))]) (rest := [.ref m0]) ⟨hx, hb, hml, hown, hts⟩ (c_X9_in l κ D (H).size (p2) (0) ((((lN (WN hs sd)) - 1))) ) (va_cwS 3 hts gd_c_X9_inRow_badB_50 rfl rfl rfl (by decide +kernel) ⟨(Nat.le_of_ble_eq_true rfl), (Nat.le_of_ble_eq_true rfl)⟩) (preS hE hK hP hD hS hA [] rfl (by decide) [] rfl) rfl rfl hl.1 rfl (lv_room (Nat.le_of_ble_eq_true rfl)) dX9_inRow_50 ⟨(Nat.le_of_ble_eq_true rfl), (Nat.le_of_ble_eq_true rfl)⟩) hS (fun q _ h => hFc q h) hFc (fun r_6 u t H1 locs ht hvm hw hB hz1 hk1 hS => ?_)
  try dsimp only at hw
  obtain ⟨hP, hD, hK⟩ := jn (wc := []) (wr := [(m0, .inr (16, [.int 0, .ref kl, .null, .ref tl]))]) (w1 := []) (t1 := []) hP hD hK hS0 hA [] [0] rfl rfl (by decide) (by decide) ht hvm hk1 hB
  generalize H1 = H at hP hS ⊢
  have hP : va_P D vwCl ([(m0, .inr (16, [.int 0, .ref kl, .null, .ref tl]))]) H := hP
  have hD : va_D A ([(m0, .inr (16, [.int 0, .ref kl, .null, .ref tl]))]) := hD
  have hK : va_K D vwCl [] s := hK
  refine W.widen (k := 0) (n := 0) (Nat.le_of_ble_eq_true rfl) (Nat.le_of_ble_eq_true rfl) ?_
  have hw : r_6 = 0 := hw.trans (if_neg (fun hg => hbad (by rw [show ((lN (WN hs sd)) - 1).toInt = (WN hs sd : Int) - 1 from w1T hhs hsd, show (0 : Int64).toInt = 0 from by decide] at hg; omega)))
  subst hw
  refine lv_if_ne (tgt := 60) hx hb dX9_inRow_53 (by decide) (fun c_53 => absurd c_53 (by decide)) (fun _ => ?_)
  refine lv_iconst (v := 1) hx hb dX9_inRow_56 (by decide) ?_
  refine lv_goto (tgt := 61) hx hb dX9_inRow_57 (by decide) ?_
  refine lv_iconst (v := 1) hx hb dX9_inRow_61 (by decide) ?_
  have hS0 := hS
  have hFc := va_free (wc := [(m0, .inr (16, [.int 0, .ref kl, .null, .ref tl]))]) hD hS hA [0] rfl
  refine va_calli (va_runV (As := [.int 1, .int 1]) (rest := []) ⟨hx, hb, hml, hown, hts⟩ (c_X9_fails_1 l κ D (H).size (m0) (kl) (tl) ) (cwV 2 hts gd_c_X9_inRow_badB_62 rfl rfl rfl (by decide +kernel) ⟨(Nat.le_of_ble_eq_true rfl), (Nat.le_of_ble_eq_true rfl)⟩) (preV hE hK hP hD hS hA [0] rfl (by decide) [] rfl (va_recv hK hP (ci := 16) (q0 := 0) rfl rfl)) rfl rfl hl.1 rfl (lv_room (Nat.le_of_ble_eq_true rfl)) dX9_inRow_62 ⟨(Nat.le_of_ble_eq_true rfl), (Nat.le_of_ble_eq_true rfl)⟩) hS (fun q _ h => hFc q h) hFc (fun r_7 u t H1 locs ht hvm hw hB hz1 hk1 hS => ?_)
  try dsimp only at hw
  obtain ⟨hP, hD, hK⟩ := jn (wc := [(m0, .inr (16, [.int 0, .ref kl, .null, .ref tl]))]) (wr := []) (w1 := [(m0, .inr (16, [.int 1, .ref kl, .null, .ref tl]))]) (t1 := []) hP hD hK hS0 hA [0] [] rfl rfl (by decide) (by decide) ht hvm hk1 hB
  generalize H1 = H at hP hS ⊢
  have hP : va_P D vwCl ([(m0, .inr (16, [.int 1, .ref kl, .null, .ref tl]))]) H := hP
  have hD : va_D A ([(m0, .inr (16, [.int 1, .ref kl, .null, .ref tl]))]) := hD
  have hK : va_K D vwCl [] s := hK
  refine W.widen (k := 0) (n := 0) (Nat.le_of_ble_eq_true rfl) (Nat.le_of_ble_eq_true rfl) ?_
  subst hw
  refine lv_if_ne (tgt := 95) hx hb dX9_inRow_65 (by decide) (fun _ => ?_) (fun c_65 => absurd c_65 (by decide))
  refine lv_iconst (v := (-1)) hx hb dX9_inRow_95 (by decide) ?_
  refine W.widen (k := 0) (n := 0) (Nat.le_of_ble_eq_true rfl) (Nat.le_of_ble_eq_true rfl) ?_
  exact W.iret (v := (-1)) hx hb hr (fun t ht hW => ⟨⟨(-1), (), rfl, trivial, PB.at hP hK hD hW.alike ht [0] rfl (by decide) [] rfl⟩, hS.F ht⟩) hS.2.2 dX9_inRow_96

def wm_c_X9_inRow_badC : List Cond := .code yX9_inRow cX9_inRow 12 (some .int) :: ([.code yX9_begins cX9_begins 1 none, .fieldLink RX9 19 "SowingcourtModel" "thrown" "I", .methodLink RX9 33 yX9_begins, .instanceMethod yX9_begins, .selects RX9 yX9_begins yX9_begins, .initialized RX9, .constantLong RX9 183 (10), .code yX9_in cX9_in 6 (some .boolean), .methodLink RX9 29 yX9_in, .static yX9_in, .constantLong RX9 185 (50), .code yX9_rows cX9_rows 5 (some .long), .methodLink RX9 189 yX9_rows, .static yX9_rows, .code yX9_fails cX9_fails 3 (some .boolean), .methodLink RX9 50 yX9_fails, .instanceMethod yX9_fails, .selects RX9 yX9_fails yX9_fails] ++ wsX90)
set_option maxRecDepth 20000 in
theorem gd_c_X9_inRow_badC_1 : GoodIn wm_c_X9_inRow_badC (wsV RX9 33 RX9 yX9_begins wm_c_X9_begins) := goodIn_of _ (by decide +kernel)
set_option maxRecDepth 20000 in
theorem gd_c_X9_inRow_badC_10 : GoodIn wm_c_X9_inRow_badC (va_wsS RX9 29 yX9_in wm_c_X9_in) := goodIn_of _ (by decide +kernel)
set_option maxRecDepth 20000 in
theorem gd_c_X9_inRow_badC_22 : GoodIn wm_c_X9_inRow_badC (va_wsS RX9 29 yX9_in wm_c_X9_in) := goodIn_of _ (by decide +kernel)
set_option maxRecDepth 20000 in
theorem gd_c_X9_inRow_badC_45 : GoodIn wm_c_X9_inRow_badC (va_wsS RX9 189 yX9_rows wm_c_X9_rows) := goodIn_of _ (by decide +kernel)
set_option maxRecDepth 20000 in
theorem gd_c_X9_inRow_badC_50 : GoodIn wm_c_X9_inRow_badC (va_wsS RX9 29 yX9_in wm_c_X9_in) := goodIn_of _ (by decide +kernel)
set_option maxRecDepth 20000 in
theorem gd_c_X9_inRow_badC_62 : GoodIn wm_c_X9_inRow_badC (wsV RX9 50 RX9 yX9_fails wm_c_X9_fails_n) := goodIn_of _ (by decide +kernel)
set_option maxRecDepth 20000 in
theorem gd_c_X9_inRow_badC_77 : GoodIn wm_c_X9_inRow_badC (va_wsS RX9 29 yX9_in wm_c_X9_in) := goodIn_of _ (by decide +kernel)
set_option maxRecDepth 20000 in
theorem gd_c_X9_inRow_badC_89 : GoodIn wm_c_X9_inRow_badC (wsV RX9 50 RX9 yX9_fails wm_c_X9_fails_2) := goodIn_of _ (by decide +kernel)
set_option maxHeartbeats 4000000 in
set_option maxRecDepth 100000 in
theorem c_X9_inRow_badC (l : Launch) (κ : Nat → Nat) (D : va_G) (sz : Nat) (m0 : Nat) (kl : Nat) (tl : Nat) (p0 : Int32) (p1 : Int32) (p2 : Int64) (p3 : Int32) (hs : Nat) (sd : Nat) (nn : Nat) (e0 : p0 = nI hs) (e1 : p1 = nI sd) (h1s : 0 < hs) (hhs : hs < 11) (hsd : sd < 51) (e2 : p2 = lN nn) (hnn : nn < WN hs sd) (hbad : ¬ (0 ≤ p3.toInt ∧ p3.toInt < (hs : Int))) : Met l yX9_inRow wm_c_X9_inRow_badC ({ frames := 11, cells := 0, slots := 0, locals := 380 }) (va_Pc [.ref m0, .int p0, .int p1, .long p2, .int p3] (PC κ D [] [(m0, .inr (16, [.int 0, .ref kl, .null, .ref tl]))] sz)) (va_Qi (fun (r : Int32) (_ : Unit) => True) (fun _ t => PB D [] [(m0, .inr (16, [.int 2, .ref kl, .null, .ref tl]))] (va_A [(m0, .inr (16, [.int 0, .ref kl, .null, .ref tl]))] sz) t) (va_A [(m0, .inr (16, [.int 0, .ref kl, .null, .ref tl]))] sz)) 0 0 (va_A [(m0, .inr (16, [.int 0, .ref kl, .null, .ref tl]))] sz) := by
  refine Met.ofW (cc := cX9_inRow) (maxL := 12) (ret := (some .int)) (by decide +kernel) rfl ?_
  intro p e s m args below meth c s₁ B hml hv
  obtain ⟨rfl, hsz, hP, hK, hD0, hE⟩ := hv
  have hx := B.exec
  have hb := B.bytes
  have hr := B.returns
  have hts := atoms_spec (ws := wm_c_X9_inRow_badC) B.pre
  have hown : s.vm.findClass RX9 = some m.cls := findClass_of_methodNamed B.named
  have hlocks := B.notSynchronized
  have iRX9 : ∀ w ∈ u_ws RX9 TX9 4, w ∈ wm_c_X9_inRow_badC := by decide +kernel
  subst hsz
  have hD := hD0.self (sz := s.heap.size)
  generalize hAe : va_A [(m0, .inr (16, [.int 0, .ref kl, .null, .ref tl]))] s.heap.size = A at hD hE ⊢
  have hA : ∀ q : Nat, s.heap.size ≤ q → A q := fun q h => by rw [← hAe]; exact Or.inr h
  have hS : va_S A s.heap s.heap [] := va_S.rf
  have hl := lv_entry ([.ref m0, .int p0, .int p1, .long p2, .int p3]) (n := 12) (Nat.le_of_ble_eq_true rfl)
  rw [lg_entry_eq]
  generalize (lg_sl ([.ref m0, .int p0, .int p1, .long p2, .int p3]) ++ List.replicate (12 - (lg_sl ([.ref m0, .int p0, .int p1, .long p2, .int p3])).length) Slot.unset).toArray = ls at hl ⊢
  have hl : lv_has ls 12 [(0, .ref m0), (1, .int p0), (2, .int p1), (3, .long p2), (5, .int p3)] := hl
  refine lv_aload_n hx hb dX9_inRow_0 rfl (lv_at hl 0 rfl) ?_
  have hS0 := hS
  have hFc := va_free (wc := [(m0, .inr (16, [.int 0, .ref kl, .null, .ref tl]))]) hD hS hA [0] rfl
  refine va_callv (va_runV (As := []) (rest := []) ⟨hx, hb, hml, hown, hts⟩ (c_X9_begins l κ D (s.heap).size (m0) (kl) (tl) (0) ) (cwV 0 hts gd_c_X9_inRow_badC_1 rfl rfl rfl (by decide +kernel) ⟨(Nat.le_of_ble_eq_true rfl), (Nat.le_of_ble_eq_true rfl)⟩) (preV hE hK hP hD hS hA [0] rfl (by decide) [] rfl (va_recv hK hP (ci := 16) (q0 := 0) rfl rfl)) rfl rfl hl.1 rfl (lv_room (Nat.le_of_ble_eq_true rfl)) dX9_inRow_1 ⟨(Nat.le_of_ble_eq_true rfl), (Nat.le_of_ble_eq_true rfl)⟩) hS (fun q _ h => hFc q h) hFc (fun u t H1 locs ht hvm hw hB hz1 hk1 hS => ?_)
  try dsimp only at hw
  obtain ⟨hP, hD, hK⟩ := jn (wc := [(m0, .inr (16, [.int 0, .ref kl, .null, .ref tl]))]) (wr := []) (w1 := [(m0, .inr (16, [.int 0, .ref kl, .null, .ref tl]))]) (t1 := []) hP hD hK hS0 hA [0] [] rfl rfl (by decide) (by decide) ht hvm hk1 hB
  generalize H1 = H at hP hS ⊢
  have hP : va_P D vwCl ([(m0, .inr (16, [.int 0, .ref kl, .null, .ref tl]))]) H := hP
  have hD : va_D A ([(m0, .inr (16, [.int 0, .ref kl, .null, .ref tl]))]) := hD
  have hK : va_K D vwCl [] s := hK
  refine W.widen (k := 0) (n := 0) (Nat.le_of_ble_eq_true rfl) (Nat.le_of_ble_eq_true rfl) ?_
  refine lv_iload_n hx hb dX9_inRow_4 rfl (lv_at hl 1 rfl) ?_
  refine lv_i2l (v := (p0).toInt64) hx hb dX9_inRow_5 rfl ?_
  refine lv_lconst (v := 1) hx hb dX9_inRow_6 (by decide) ?_
  refine lv_ldc2 (v := 10) hx hb hown (hts (.constantLong RX9 183 (10)) (by decide +kernel)) dX9_inRow_7 ?_
  have hS0 := hS
  have hFc := va_free (wc := []) hD hS hA [] rfl
  refine va_calli (va_runS (As := [.long ((p0).toInt64), .long 1, .long 10]) (rest := []) ⟨hx, hb, hml, hown, hts⟩ (c_X9_in l κ D (H).size (((p0).toInt64)) (1) (10) ) (va_cwS 3 hts gd_c_X9_inRow_badC_10 rfl rfl rfl (by decide +kernel) ⟨(Nat.le_of_ble_eq_true rfl), (Nat.le_of_ble_eq_true rfl)⟩) (preS hE hK hP hD hS hA [] rfl (by decide) [] rfl) rfl rfl hl.1 rfl (lv_room (Nat.le_of_ble_eq_true rfl)) dX9_inRow_10 ⟨(Nat.le_of_ble_eq_true rfl), (Nat.le_of_ble_eq_true rfl)⟩) hS (fun q _ h => hFc q h) hFc (fun r_2 u t H1 locs ht hvm hw hB hz1 hk1 hS => ?_)
  try dsimp only at hw
  obtain ⟨hP, hD, hK⟩ := jn (wc := []) (wr := [(m0, .inr (16, [.int 0, .ref kl, .null, .ref tl]))]) (w1 := []) (t1 := []) hP hD hK hS0 hA [] [0] rfl rfl (by decide) (by decide) ht hvm hk1 hB
  generalize H1 = H at hP hS ⊢
  have hP : va_P D vwCl ([(m0, .inr (16, [.int 0, .ref kl, .null, .ref tl]))]) H := hP
  have hD : va_D A ([(m0, .inr (16, [.int 0, .ref kl, .null, .ref tl]))]) := hD
  have hK : va_K D vwCl [] s := hK
  refine W.widen (k := 0) (n := 0) (Nat.le_of_ble_eq_true rfl) (Nat.le_of_ble_eq_true rfl) ?_
  have hw : r_2 = 1 := hw.trans (if_pos (by rw [e0, nI_l (show hs < 2 ^ 31 by omega), lN_toInt (show hs < 2 ^ 31 by omega)]; exact ⟨by rw [show (1 : Int64).toInt = 1 from by decide]; omega, by rw [show (10 : Int64).toInt = 10 from by decide]; omega⟩))
  subst hw
  refine lv_if_eq (tgt := 28) hx hb dX9_inRow_13 (by decide) (fun c_13 => absurd c_13 (by decide)) (fun _ => ?_)
  refine lv_iload_n hx hb dX9_inRow_16 rfl (lv_at hl 2 rfl) ?_
  refine lv_i2l (v := (p1).toInt64) hx hb dX9_inRow_17 rfl ?_
  refine lv_lconst (v := 0) hx hb dX9_inRow_18 (by decide) ?_
  refine lv_ldc2 (v := 50) hx hb hown (hts (.constantLong RX9 185 (50)) (by decide +kernel)) dX9_inRow_19 ?_
  have hS0 := hS
  have hFc := va_free (wc := []) hD hS hA [] rfl
  refine va_calli (va_runS (As := [.long ((p1).toInt64), .long 0, .long 50]) (rest := []) ⟨hx, hb, hml, hown, hts⟩ (c_X9_in l κ D (H).size (((p1).toInt64)) (0) (50) ) (va_cwS 3 hts gd_c_X9_inRow_badC_22 rfl rfl rfl (by decide +kernel) ⟨(Nat.le_of_ble_eq_true rfl), (Nat.le_of_ble_eq_true rfl)⟩) (preS hE hK hP hD hS hA [] rfl (by decide) [] rfl) rfl rfl hl.1 rfl (lv_room (Nat.le_of_ble_eq_true rfl)) dX9_inRow_22 ⟨(Nat.le_of_ble_eq_true rfl), (Nat.le_of_ble_eq_true rfl)⟩) hS (fun q _ h => hFc q h) hFc (fun r_3 u t H1 locs ht hvm hw hB hz1 hk1 hS => ?_)
  try dsimp only at hw
  obtain ⟨hP, hD, hK⟩ := jn (wc := []) (wr := [(m0, .inr (16, [.int 0, .ref kl, .null, .ref tl]))]) (w1 := []) (t1 := []) hP hD hK hS0 hA [] [0] rfl rfl (by decide) (by decide) ht hvm hk1 hB
  generalize H1 = H at hP hS ⊢
  have hP : va_P D vwCl ([(m0, .inr (16, [.int 0, .ref kl, .null, .ref tl]))]) H := hP
  have hD : va_D A ([(m0, .inr (16, [.int 0, .ref kl, .null, .ref tl]))]) := hD
  have hK : va_K D vwCl [] s := hK
  refine W.widen (k := 0) (n := 0) (Nat.le_of_ble_eq_true rfl) (Nat.le_of_ble_eq_true rfl) ?_
  have hw : r_3 = 1 := hw.trans (if_pos (by rw [e1, nI_l (show sd < 2 ^ 31 by omega), lN_toInt (show sd < 2 ^ 31 by omega)]; exact ⟨by rw [show (0 : Int64).toInt = 0 from by decide]; omega, by rw [show (50 : Int64).toInt = 50 from by decide]; omega⟩))
  subst hw
  refine lv_if_ne (tgt := 32) hx hb dX9_inRow_25 (by decide) (fun _ => ?_) (fun c_25 => absurd c_25 (by decide))
  refine lv_iconst (v := 0) hx hb dX9_inRow_32 (by decide) ?_
  refine lv_istore (lv' := [(6, .int 0), (0, .ref m0), (1, .int p0), (2, .int p1), (3, .long p2), (5, .int p3)]) hx hb dX9_inRow_33 hl (by decide) rfl (fun ls hl => ?_)
  refine lv_aload_n hx hb dX9_inRow_35 rfl (lv_at hl 1 rfl) ?_
  refine lv_iload hx hb dX9_inRow_36 (lv_at hl 0 rfl) ?_
  refine lv_if_ne (tgt := 56) hx hb dX9_inRow_38 (by decide) (fun c_38 => absurd c_38 (by decide)) (fun _ => ?_)
  refine lv_lload_n hx hb dX9_inRow_41 rfl (lv_at hl 4 rfl) ?_
  refine lv_lconst (v := 0) hx hb dX9_inRow_42 (by decide) ?_
  refine lv_iload_n hx hb dX9_inRow_43 rfl (lv_at hl 2 rfl) ?_
  refine lv_iload_n hx hb dX9_inRow_44 rfl (lv_at hl 3 rfl) ?_
  have hS0 := hS
  have hFc := va_free (wc := []) hD hS hA [] rfl
  refine va_calll (va_runS (As := [.int p0, .int p1]) (rest := [.long 0, .long p2, .ref m0]) ⟨hx, hb, hml, hown, hts⟩ (c_X9_rows l κ D (H).size (p0) (p1) (hs) (sd) (e0) (e1) (hhs) (hsd)) (va_cwS 2 hts gd_c_X9_inRow_badC_45 rfl rfl rfl (by decide +kernel) ⟨(Nat.le_of_ble_eq_true rfl), (Nat.le_of_ble_eq_true rfl)⟩) (preS hE hK hP hD hS hA [] rfl (by decide) [] rfl) rfl rfl hl.1 rfl (lv_room (Nat.le_of_ble_eq_true rfl)) dX9_inRow_45 ⟨(Nat.le_of_ble_eq_true rfl), (Nat.le_of_ble_eq_true rfl)⟩) hS (fun q _ h => hFc q h) hFc (fun r_4 u t H1 locs ht hvm hw hB hz1 hk1 hS => ?_)
  try dsimp only at hw
  obtain ⟨hP, hD, hK⟩ := jn (wc := []) (wr := [(m0, .inr (16, [.int 0, .ref kl, .null, .ref tl]))]) (w1 := []) (t1 := []) hP hD hK hS0 hA [] [0] rfl rfl (by decide) (by decide) ht hvm hk1 hB
  generalize H1 = H at hP hS ⊢
  have hP : va_P D vwCl ([(m0, .inr (16, [.int 0, .ref kl, .null, .ref tl]))]) H := hP
  have hD : va_D A ([(m0, .inr (16, [.int 0, .ref kl, .null, .ref tl]))]) := hD
  have hK : va_K D vwCl [] s := hK
  refine W.widen (k := 0) (n := 0) (Nat.le_of_ble_eq_true rfl) (Nat.le_of_ble_eq_true rfl) ?_
  subst hw
  refine lv_lconst (v := 1) hx hb dX9_inRow_48 (by decide) ?_
  refine lv_lsub hx hb dX9_inRow_49 ?_
  refine lv_topl (fun v_5 ev_5 => ?_)
  have ev_5 : v_5 = ((lN (WN hs sd)) - 1) := ev_5.trans (rfl)
  subst ev_5
  have hS0 := hS
  have hFc := va_free (wc := []) hD hS hA [] rfl
  refine va_calli (va_runS (As := [.long p2, .long 0, .long (((lN (WN hs sd)) - 1))]) (rest := [.ref m0]) ⟨hx, hb, hml, hown, hts⟩ (c_X9_in l κ D (H).size (p2) (0) ((((lN (WN hs sd)) - 1))) ) (va_cwS 3 hts gd_c_X9_inRow_badC_50 rfl rfl rfl (by decide +kernel) ⟨(Nat.le_of_ble_eq_true rfl), (Nat.le_of_ble_eq_true rfl)⟩) (preS hE hK hP hD hS hA [] rfl (by decide) [] rfl) rfl rfl hl.1 rfl (lv_room (Nat.le_of_ble_eq_true rfl)) dX9_inRow_50 ⟨(Nat.le_of_ble_eq_true rfl), (Nat.le_of_ble_eq_true rfl)⟩) hS (fun q _ h => hFc q h) hFc (fun r_6 u t H1 locs ht hvm hw hB hz1 hk1 hS => ?_)
  try dsimp only at hw
  obtain ⟨hP, hD, hK⟩ := jn (wc := []) (wr := [(m0, .inr (16, [.int 0, .ref kl, .null, .ref tl]))]) (w1 := []) (t1 := []) hP hD hK hS0 hA [] [0] rfl rfl (by decide) (by decide) ht hvm hk1 hB
  generalize H1 = H at hP hS ⊢
  have hP : va_P D vwCl ([(m0, .inr (16, [.int 0, .ref kl, .null, .ref tl]))]) H := hP
  have hD : va_D A ([(m0, .inr (16, [.int 0, .ref kl, .null, .ref tl]))]) := hD
  have hK : va_K D vwCl [] s := hK
  refine W.widen (k := 0) (n := 0) (Nat.le_of_ble_eq_true rfl) (Nat.le_of_ble_eq_true rfl) ?_
  have hw : r_6 = 1 := hw.trans (if_pos (by rw [e2, pk_lT (show nn < 2 ^ 63 by have := WN_b hhs hsd; omega), show (lN (WN hs sd)) - 1 = lN (WN hs sd - 1) from lN_sub (show 1 ≤ WN hs sd by omega), pk_lT (show WN hs sd - 1 < 2 ^ 63 by have := WN_b hhs hsd; omega)]; exact ⟨by rw [show (0 : Int64).toInt = 0 from by decide]; omega, by omega⟩))
  subst hw
  refine lv_if_ne (tgt := 60) hx hb dX9_inRow_53 (by decide) (fun _ => ?_) (fun c_53 => absurd c_53 (by decide))
  refine lv_iconst (v := 0) hx hb dX9_inRow_60 (by decide) ?_
  refine lv_iconst (v := 1) hx hb dX9_inRow_61 (by decide) ?_
  have hS0 := hS
  have hFc := va_free (wc := [(m0, .inr (16, [.int 0, .ref kl, .null, .ref tl]))]) hD hS hA [0] rfl
  refine va_calli (va_runV (As := [.int 0, .int 1]) (rest := []) ⟨hx, hb, hml, hown, hts⟩ (c_X9_fails_n l κ D (H).size (m0) (kl) (tl) (1) ) (cwV 2 hts gd_c_X9_inRow_badC_62 rfl rfl rfl (by decide +kernel) ⟨(Nat.le_of_ble_eq_true rfl), (Nat.le_of_ble_eq_true rfl)⟩) (preV hE hK hP hD hS hA [0] rfl (by decide) [] rfl (va_recv hK hP (ci := 16) (q0 := 0) rfl rfl)) rfl rfl hl.1 rfl (lv_room (Nat.le_of_ble_eq_true rfl)) dX9_inRow_62 ⟨(Nat.le_of_ble_eq_true rfl), (Nat.le_of_ble_eq_true rfl)⟩) hS (fun q _ h => hFc q h) hFc (fun r_7 u t H1 locs ht hvm hw hB hz1 hk1 hS => ?_)
  try dsimp only at hw
  obtain ⟨hP, hD, hK⟩ := jn (wc := [(m0, .inr (16, [.int 0, .ref kl, .null, .ref tl]))]) (wr := []) (w1 := [(m0, .inr (16, [.int 0, .ref kl, .null, .ref tl]))]) (t1 := []) hP hD hK hS0 hA [0] [] rfl rfl (by decide) (by decide) ht hvm hk1 hB
  generalize H1 = H at hP hS ⊢
  have hP : va_P D vwCl ([(m0, .inr (16, [.int 0, .ref kl, .null, .ref tl]))]) H := hP
  have hD : va_D A ([(m0, .inr (16, [.int 0, .ref kl, .null, .ref tl]))]) := hD
  have hK : va_K D vwCl [] s := hK
  refine W.widen (k := 0) (n := 0) (Nat.le_of_ble_eq_true rfl) (Nat.le_of_ble_eq_true rfl) ?_
  subst hw
  refine lv_if_ne (tgt := 95) hx hb dX9_inRow_65 (by decide) (fun c_65 => absurd c_65 (by decide)) (fun _ => ?_)
  refine lv_aload_n hx hb dX9_inRow_68 rfl (lv_at hl 1 rfl) ?_
  refine lv_iload hx hb dX9_inRow_69 (lv_at hl 5 rfl) ?_
  refine lv_i2l (v := (p3).toInt64) hx hb dX9_inRow_71 rfl ?_
  refine lv_lconst (v := 0) hx hb dX9_inRow_72 (by decide) ?_
  refine lv_iload_n hx hb dX9_inRow_73 rfl (lv_at hl 2 rfl) ?_
  refine lv_iconst (v := 1) hx hb dX9_inRow_74 (by decide) ?_
  refine lv_isub hx hb dX9_inRow_75 ?_
  refine lv_topi (fun v_8 ev_8 => ?_)
  have ev_8 : v_8 = (nI (hs - 1)) := ev_8.trans (by rw [e0, show (1 : Int32) = nI 1 from rfl, pk_sub (by omega)])
  subst ev_8
  refine lv_i2l (v := (((nI (hs - 1)))).toInt64) hx hb dX9_inRow_76 rfl ?_
  have hS0 := hS
  have hFc := va_free (wc := []) hD hS hA [] rfl
  refine va_calli (va_runS (As := [.long ((p3).toInt64), .long 0, .long ((((nI (hs - 1)))).toInt64)]) (rest := [.ref m0]) ⟨hx, hb, hml, hown, hts⟩ (c_X9_in l κ D (H).size (((p3).toInt64)) (0) (((((nI (hs - 1)))).toInt64)) ) (va_cwS 3 hts gd_c_X9_inRow_badC_77 rfl rfl rfl (by decide +kernel) ⟨(Nat.le_of_ble_eq_true rfl), (Nat.le_of_ble_eq_true rfl)⟩) (preS hE hK hP hD hS hA [] rfl (by decide) [] rfl) rfl rfl hl.1 rfl (lv_room (Nat.le_of_ble_eq_true rfl)) dX9_inRow_77 ⟨(Nat.le_of_ble_eq_true rfl), (Nat.le_of_ble_eq_true rfl)⟩) hS (fun q _ h => hFc q h) hFc (fun r_9 u t H1 locs ht hvm hw hB hz1 hk1 hS => ?_)
  try dsimp only at hw
  obtain ⟨hP, hD, hK⟩ := jn (wc := []) (wr := [(m0, .inr (16, [.int 0, .ref kl, .null, .ref tl]))]) (w1 := []) (t1 := []) hP hD hK hS0 hA [] [0] rfl rfl (by decide) (by decide) ht hvm hk1 hB
  generalize H1 = H at hP hS ⊢
  have hP : va_P D vwCl ([(m0, .inr (16, [.int 0, .ref kl, .null, .ref tl]))]) H := hP
  have hD : va_D A ([(m0, .inr (16, [.int 0, .ref kl, .null, .ref tl]))]) := hD
  have hK : va_K D vwCl [] s := hK
  refine W.widen (k := 0) (n := 0) (Nat.le_of_ble_eq_true rfl) (Nat.le_of_ble_eq_true rfl) ?_
  have hw : r_9 = 0 := hw.trans (if_neg (fun hg => hbad (by rw [Int32.toInt_toInt64, nI_l (show hs - 1 < 2 ^ 31 by omega), lN_toInt (show hs - 1 < 2 ^ 31 by omega), show (0 : Int64).toInt = 0 from by decide] at hg; omega)))
  subst hw
  refine lv_if_ne (tgt := 87) hx hb dX9_inRow_80 (by decide) (fun c_80 => absurd c_80 (by decide)) (fun _ => ?_)
  refine lv_iconst (v := 1) hx hb dX9_inRow_83 (by decide) ?_
  refine lv_goto (tgt := 88) hx hb dX9_inRow_84 (by decide) ?_
  refine lv_iconst (v := 2) hx hb dX9_inRow_88 (by decide) ?_
  have hS0 := hS
  have hFc := va_free (wc := [(m0, .inr (16, [.int 0, .ref kl, .null, .ref tl]))]) hD hS hA [0] rfl
  refine va_calli (va_runV (As := [.int 1, .int 2]) (rest := []) ⟨hx, hb, hml, hown, hts⟩ (c_X9_fails_2 l κ D (H).size (m0) (kl) (tl) ) (cwV 2 hts gd_c_X9_inRow_badC_89 rfl rfl rfl (by decide +kernel) ⟨(Nat.le_of_ble_eq_true rfl), (Nat.le_of_ble_eq_true rfl)⟩) (preV hE hK hP hD hS hA [0] rfl (by decide) [] rfl (va_recv hK hP (ci := 16) (q0 := 0) rfl rfl)) rfl rfl hl.1 rfl (lv_room (Nat.le_of_ble_eq_true rfl)) dX9_inRow_89 ⟨(Nat.le_of_ble_eq_true rfl), (Nat.le_of_ble_eq_true rfl)⟩) hS (fun q _ h => hFc q h) hFc (fun r_10 u t H1 locs ht hvm hw hB hz1 hk1 hS => ?_)
  try dsimp only at hw
  obtain ⟨hP, hD, hK⟩ := jn (wc := [(m0, .inr (16, [.int 0, .ref kl, .null, .ref tl]))]) (wr := []) (w1 := [(m0, .inr (16, [.int 2, .ref kl, .null, .ref tl]))]) (t1 := []) hP hD hK hS0 hA [0] [] rfl rfl (by decide) (by decide) ht hvm hk1 hB
  generalize H1 = H at hP hS ⊢
  have hP : va_P D vwCl ([(m0, .inr (16, [.int 2, .ref kl, .null, .ref tl]))]) H := hP
  have hD : va_D A ([(m0, .inr (16, [.int 2, .ref kl, .null, .ref tl]))]) := hD
  have hK : va_K D vwCl [] s := hK
  refine W.widen (k := 0) (n := 0) (Nat.le_of_ble_eq_true rfl) (Nat.le_of_ble_eq_true rfl) ?_
  subst hw
  refine lv_if_eq (tgt := 97) hx hb dX9_inRow_92 (by decide) (fun c_92 => absurd c_92 (by decide)) (fun _ => ?_)
  refine lv_iconst (v := (-1)) hx hb dX9_inRow_95 (by decide) ?_
  refine W.widen (k := 0) (n := 0) (Nat.le_of_ble_eq_true rfl) (Nat.le_of_ble_eq_true rfl) ?_
  exact W.iret (v := (-1)) hx hb hr (fun t ht hW => ⟨⟨(-1), (), rfl, trivial, PB.at hP hK hD hW.alike ht [0] rfl (by decide) [] rfl⟩, hS.F ht⟩) hS.2.2 dX9_inRow_96
