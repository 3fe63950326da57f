section RLP
variable {p : Program} {l : Launch} {e : Env} {R : Room} {s : State} {m : MethodId} {args : Array Value} {below : List Frame} {meth : Method} {c : Code} {cells slots : Nat} {Q : State → Prop} {H : Heap} {locs : List Loc}
set_option maxHeartbeats 4000000 in
set_option maxRecDepth 100000 in
/-- the loop of the reference's rows -/
theorem rows_loop (hx : p.tables.exec = Jvm.exec) (hb : c.code = cX9_rows) {h sd : Nat} (hh : h < 11) (hs : sd < 51) (kk : ∀ ls : Array Slot, lv_has ls 5 [(2, .long (lN (RN sd (h - 1))))] → W p l e R s m args below meth c H locs cells slots Q (F0 m 43 ls [])) :
    ∀ (n k : Nat) (ls : Array Slot), h - 1 - k = n → k + 1 ≤ h → lv_has ls 5 [(4, .int (nI (k + 1))), (2, .long (lN (RN sd k))), (0, .int (nI h)), (1, .int (nI sd))] → W p l e R s m args below meth c H locs cells slots Q (F0 m 19 ls []) := by
  intro n
  induction n with
  | zero =>
    intro k ls hn hk hl
    refine lv_iload hx hb dX9_rows_19 (lv_at hl 0 rfl) ?_
    refine lv_iload_n hx hb dX9_rows_21 rfl (lv_at hl 2 rfl) ?_
    refine lv_icmp_ge (tgt := 43) hx hb dX9_rows_22 (by decide) (fun _ => ?_) (fun c22 => absurd (nI_le (show h ≤ k + 1 by omega) (by omega)) c22)
    refine kk ls ?_
    rw [show h - 1 = k by omega]
    exact lv_sub hl [1] rfl
  | succ n ih =>
    intro k ls hn hk hl
    refine lv_iload hx hb dX9_rows_19 (lv_at hl 0 rfl) ?_
    refine lv_iload_n hx hb dX9_rows_21 rfl (lv_at hl 2 rfl) ?_
    refine lv_icmp_ge (tgt := 43) hx hb dX9_rows_22 (by decide) (fun c22 => absurd c22 (nI_ge (show k + 1 < h by omega) (by omega))) (fun _ => ?_)
    refine lv_lload_n hx hb dX9_rows_25 rfl (lv_at hl 1 rfl) ?_
    refine lv_iload_n hx hb dX9_rows_26 rfl (lv_at hl 3 rfl) ?_
    refine lv_iload hx hb dX9_rows_27 (lv_at hl 0 rfl) ?_
    refine lv_iadd hx hb dX9_rows_29 ?_
    rw [nI_add]
    refine lv_i2l (v := lN (sd + (k + 1))) hx hb dX9_rows_30 (nI_l (by omega)) ?_
    refine lv_lmul hx hb dX9_rows_31 ?_
    rw [lN_mul]
    refine lv_iload hx hb dX9_rows_32 (lv_at hl 0 rfl) ?_
    refine lv_i2l (v := lN (k + 1)) hx hb dX9_rows_34 (nI_l (by omega)) ?_
    have hb9 := RN_b sd hs k (by omega)
    refine lv_ldiv hx hb dX9_rows_35 (fun h0 => absurd ((pk_lEQ (show k + 1 < 2 ^ 63 by omega) (show 0 < 2 ^ 63 by omega)).mp h0) (by omega)) ?_
    rw [pk_lDiv (by omega) (by omega) (by omega)]
    refine lv_lstore_n (lv' := [(2, .long (lN (RN sd (k + 1)))), (4, .int (nI (k + 1))), (0, .int (nI h)), (1, .int (nI sd))]) hx hb dX9_rows_36 rfl hl (by decide) rfl (fun ls hl => ?_)
    refine lv_iinc (v := nI (k + 1 + 1)) (lv' := [(4, .int (nI (k + 1 + 1))), (2, .long (lN (RN sd (k + 1)))), (0, .int (nI h)), (1, .int (nI sd))]) hx hb dX9_rows_37 hl (k := 1) rfl (nI_1 (k + 1)) (by decide) rfl (fun ls hl => ?_)
    refine lv_goto (tgt := 19) hx hb dX9_rows_40 (by decide) ?_
    exact ih (k + 1) ls (by omega) (by omega) hl
end RLP

def wm_c_X9_rows : List Cond := .code yX9_rows cX9_rows 5 (some .long) :: ([])
set_option maxHeartbeats 4000000 in
set_option maxRecDepth 100000 in
theorem c_X9_rows (l : Launch) (κ : Nat → Nat) (D : va_G) (sz : Nat) (x0 : Int32) (x1 : Int32) (h : Nat) (sd : Nat) (e0 : x0 = nI h) (e1 : x1 = nI sd) (hh : h < 11) (hs : sd < 51) : Met l yX9_rows wm_c_X9_rows ({ frames := 8, cells := 0, slots := 0, locals := 200 }) (va_Pc [.int x0, .int x1] (PC κ D [] [] sz)) (va_Ql (fun (r : Int64) (_ : Unit) => r = lN (WN h sd)) (fun _ t => PB D [] [] (va_A [] sz) t) (va_A [] sz)) 0 0 (va_A [] sz) := by
  refine Met.ofW (cc := cX9_rows) (maxL := 5) (ret := (some .long)) (by decide +kernel) rfl ?_
  intro p e s m args below meth c s₁ B hml hv
  obtain ⟨rfl, hsz, hP, hK, hD0, hE⟩ := hv
  have hx := B.exec
  have hb := B.bytes
  have hr := B.returns
  have hts := atoms_spec (ws := wm_c_X9_rows) B.pre
  have hown : s.vm.findClass RX9 = some m.cls := findClass_of_methodNamed B.named
  have hlocks := B.notSynchronized
  subst hsz
  have hD := hD0.self (sz := s.heap.size)
  generalize hAe : va_A [] s.heap.size = A at hD hE ⊢
  have hA : ∀ q : Nat, s.heap.size ≤ q → A q := fun q h => by rw [← hAe]; exact Or.inr h
  have hS : va_S A s.heap s.heap [] := va_S.rf
  have hl := lv_entry ([.int x0, .int x1]) (n := 5) (Nat.le_of_ble_eq_true rfl)
  rw [lg_entry_eq]
  generalize (lg_sl ([.int x0, .int x1]) ++ List.replicate (5 - (lg_sl ([.int x0, .int x1])).length) Slot.unset).toArray = ls at hl ⊢
  have hl : lv_has ls 5 [(0, .int x0), (1, .int x1)] := hl
  refine lv_iload_n hx hb dX9_rows_0 rfl (lv_at hl 0 rfl) ?_
  refine lv_if_ne (tgt := 14) hx hb dX9_rows_1 (by decide) (fun c_1 => ?_) (fun c_1 => ?_)
  · refine lv_lconst (v := 1) hx hb dX9_rows_14 (by decide) ?_
    refine lv_lstore_n (lv' := [(2, .long 1), (0, .int x0), (1, .int x1)]) hx hb dX9_rows_15 rfl hl (by decide) rfl (fun ls hl => ?_)
    refine lv_iconst (v := 1) hx hb dX9_rows_16 (by decide) ?_
    refine lv_istore (lv' := [(4, .int 1), (2, .long 1), (0, .int x0), (1, .int x1)]) hx hb dX9_rows_17 hl (by decide) rfl (fun ls hl => ?_)
    have h0 : ¬ h = 0 := fun q => c_1 (by rw [e0, q]; rfl)
    rw [e0, e1] at hl
    refine rows_loop hx hb (h := h) (sd := sd) hh hs (fun ls hl => ?_) (h - 1) 0 ls (by omega) (by omega) (lv_sub hl [0, 1, 2, 3] rfl)
    refine lv_lload_n hx hb dX9_rows_43 rfl (lv_at hl 0 rfl) ?_
    refine W.widen (k := 0) (n := 0) (Nat.le_of_ble_eq_true rfl) (Nat.le_of_ble_eq_true rfl) ?_
    exact W.lret (v := (lN (RN sd (h - 1)))) hx hb hr (fun t ht hW => ⟨⟨(lN (RN sd (h - 1))), (), rfl, (by rw [WN_R hh hs, RR, if_neg h0]), PB.at hP hK hD hW.alike ht [] rfl (by decide) [] rfl⟩, hS.F ht⟩) hS.2.2 dX9_rows_44
  · refine lv_iload_n hx hb dX9_rows_4 rfl (lv_at hl 1 rfl) ?_
    refine lv_if_ne (tgt := 12) hx hb dX9_rows_5 (by decide) (fun c_5 => ?_) (fun c_5 => ?_)
    · refine lv_lconst (v := 0) hx hb dX9_rows_12 (by decide) ?_
      refine W.widen (k := 0) (n := 0) (Nat.le_of_ble_eq_true rfl) (Nat.le_of_ble_eq_true rfl) ?_
      exact W.lret (v := 0) hx hb hr (fun t ht hW => ⟨⟨0, (), rfl, (by have h1 := nI0 (show h < 2 ^ 31 by omega) (e0.symm.trans c_1); have h2 : ¬ sd = 0 := fun q => c_5 (by rw [e1, q]; rfl); rw [h1]; show (0 : Int64) = lN (if sd = 0 then 1 else 0); rw [if_neg h2]; rfl), PB.at hP hK hD hW.alike ht [] rfl (by decide) [] rfl⟩, hS.F ht⟩) hS.2.2 dX9_rows_13
    · refine lv_lconst (v := 1) hx hb dX9_rows_8 (by decide) ?_
      refine lv_goto (tgt := 13) hx hb dX9_rows_9 (by decide) ?_
      refine W.widen (k := 0) (n := 0) (Nat.le_of_ble_eq_true rfl) (Nat.le_of_ble_eq_true rfl) ?_
      exact W.lret (v := 1) hx hb hr (fun t ht hW => ⟨⟨1, (), rfl, (by have h1 := nI0 (show h < 2 ^ 31 by omega) (e0.symm.trans c_1); have h2 := nI0 (show sd < 2 ^ 31 by omega) (e1.symm.trans c_5); rw [h1, h2]; rfl), PB.at hP hK hD hW.alike ht [] rfl (by decide) [] rfl⟩, hS.F ht⟩) hS.2.2 dX9_rows_13

def wm_c_X9_many_ok : List Cond := .code yX9_many cX9_many 3 (some .long) :: ([.code yX9_begins cX9_begins 1 none, .fieldLink RX9 19 "SowingcourtModel" "thrown" "I", .methodLink RX9 33 yX9_begins, .instanceMethod yX9_begins, .selects RX9 yX9_begins yX9_begins, .initialized RX9, .constantLong RX9 183 (10), .code yX9_in cX9_in 6 (some .boolean), .methodLink RX9 29 yX9_in, .static yX9_in, .constantLong RX9 185 (50), .code yX9_fails cX9_fails 3 (some .boolean), .methodLink RX9 50 yX9_fails, .instanceMethod yX9_fails, .selects RX9 yX9_fails yX9_fails, .code yX9_rows cX9_rows 5 (some .long), .methodLink RX9 189 yX9_rows, .static yX9_rows] ++ wsX90)
set_option maxRecDepth 20000 in
theorem gd_c_X9_many_ok_1 : GoodIn wm_c_X9_many_ok (wsV RX9 33 RX9 yX9_begins wm_c_X9_begins) := goodIn_of _ (by decide +kernel)
set_option maxRecDepth 20000 in
theorem gd_c_X9_many_ok_11 : GoodIn wm_c_X9_many_ok (va_wsS RX9 29 yX9_in wm_c_X9_in) := goodIn_of _ (by decide +kernel)
set_option maxRecDepth 20000 in
theorem gd_c_X9_many_ok_23 : GoodIn wm_c_X9_many_ok (va_wsS RX9 29 yX9_in wm_c_X9_in) := goodIn_of _ (by decide +kernel)
set_option maxRecDepth 20000 in
theorem gd_c_X9_many_ok_35 : GoodIn wm_c_X9_many_ok (wsV RX9 50 RX9 yX9_fails wm_c_X9_fails_n) := goodIn_of _ (by decide +kernel)
set_option maxRecDepth 20000 in
theorem gd_c_X9_many_ok_49 : GoodIn wm_c_X9_many_ok (va_wsS RX9 189 yX9_rows wm_c_X9_rows) := goodIn_of _ (by decide +kernel)
set_option maxHeartbeats 4000000 in
set_option maxRecDepth 100000 in
theorem c_X9_many_ok (l : Launch) (κ : Nat → Nat) (D : va_G) (sz : Nat) (m0 : Nat) (kl : Nat) (tl : Nat) (p0 : Int32) (p1 : Int32) (hs : Nat) (sd : Nat) (e0 : p0 = nI hs) (e1 : p1 = nI sd) (h1s : 0 < hs) (hhs : hs < 11) (hsd : sd < 51) : Met l yX9_many wm_c_X9_many_ok ({ frames := 11, cells := 0, slots := 0, locals := 380 }) (va_Pc [.ref m0, .int p0, .int p1] (PC κ D [] [(m0, .inr (16, [.int 0, .ref kl, .null, .ref tl]))] sz)) (va_Ql (fun (r : Int64) (_ : Unit) => r = lN (WN hs sd)) (fun _ t => PB D [] [(m0, .inr (16, [.int 0, .ref kl, .null, .ref tl]))] (va_A [(m0, .inr (16, [.int 0, .ref kl, .null, .ref tl]))] sz) t) (va_A [(m0, .inr (16, [.int 0, .ref kl, .null, .ref tl]))] sz)) 0 0 (va_A [(m0, .inr (16, [.int 0, .ref kl, .null, .ref tl]))] sz) := by
  refine Met.ofW (cc := cX9_many) (maxL := 3) (ret := (some .long)) (by decide +kernel) rfl ?_
  intro p e s m args below meth c s₁ B hml hv
  obtain ⟨rfl, hsz, hP, hK, hD0, hE⟩ := hv
  have hx := B.exec
  have hb := B.bytes
  have hr := B.returns
  have hts := atoms_spec (ws := wm_c_X9_many_ok) B.pre
  have hown : s.vm.findClass RX9 = some m.cls := findClass_of_methodNamed B.named
  have hlocks := B.notSynchronized
  have iRX9 : ∀ w ∈ u_ws RX9 TX9 4, w ∈ wm_c_X9_many_ok := by decide +kernel
  subst hsz
  have hD := hD0.self (sz := s.heap.size)
  generalize hAe : va_A [(m0, .inr (16, [.int 0, .ref kl, .null, .ref tl]))] s.heap.size = A at hD hE ⊢
  have hA : ∀ q : Nat, s.heap.size ≤ q → A q := fun q h => by rw [← hAe]; exact Or.inr h
  have hS : va_S A s.heap s.heap [] := va_S.rf
  have hl := lv_entry ([.ref m0, .int p0, .int p1]) (n := 3) (Nat.le_of_ble_eq_true rfl)
  rw [lg_entry_eq]
  generalize (lg_sl ([.ref m0, .int p0, .int p1]) ++ List.replicate (3 - (lg_sl ([.ref m0, .int p0, .int p1])).length) Slot.unset).toArray = ls at hl ⊢
  have hl : lv_has ls 3 [(0, .ref m0), (1, .int p0), (2, .int p1)] := hl
  refine lv_aload_n hx hb dX9_many_0 rfl (lv_at hl 0 rfl) ?_
  have hS0 := hS
  have hFc := va_free (wc := [(m0, .inr (16, [.int 0, .ref kl, .null, .ref tl]))]) hD hS hA [0] rfl
  refine va_callv (va_runV (As := []) (rest := []) ⟨hx, hb, hml, hown, hts⟩ (c_X9_begins l κ D (s.heap).size (m0) (kl) (tl) (0) ) (cwV 0 hts gd_c_X9_many_ok_1 rfl rfl rfl (by decide +kernel) ⟨(Nat.le_of_ble_eq_true rfl), (Nat.le_of_ble_eq_true rfl)⟩) (preV hE hK hP hD hS hA [0] rfl (by decide) [] rfl (va_recv hK hP (ci := 16) (q0 := 0) rfl rfl)) rfl rfl hl.1 rfl (lv_room (Nat.le_of_ble_eq_true rfl)) dX9_many_1 ⟨(Nat.le_of_ble_eq_true rfl), (Nat.le_of_ble_eq_true rfl)⟩) hS (fun q _ h => hFc q h) hFc (fun u t H1 locs ht hvm hw hB hz1 hk1 hS => ?_)
  try dsimp only at hw
  obtain ⟨hP, hD, hK⟩ := jn (wc := [(m0, .inr (16, [.int 0, .ref kl, .null, .ref tl]))]) (wr := []) (w1 := [(m0, .inr (16, [.int 0, .ref kl, .null, .ref tl]))]) (t1 := []) hP hD hK hS0 hA [0] [] rfl rfl (by decide) (by decide) ht hvm hk1 hB
  generalize H1 = H at hP hS ⊢
  have hP : va_P D vwCl ([(m0, .inr (16, [.int 0, .ref kl, .null, .ref tl]))]) H := hP
  have hD : va_D A ([(m0, .inr (16, [.int 0, .ref kl, .null, .ref tl]))]) := hD
  have hK : va_K D vwCl [] s := hK
  refine W.widen (k := 0) (n := 0) (Nat.le_of_ble_eq_true rfl) (Nat.le_of_ble_eq_true rfl) ?_
  refine lv_aload_n hx hb dX9_many_4 rfl (lv_at hl 0 rfl) ?_
  refine lv_iload_n hx hb dX9_many_5 rfl (lv_at hl 1 rfl) ?_
  refine lv_i2l (v := (p0).toInt64) hx hb dX9_many_6 rfl ?_
  refine lv_lconst (v := 1) hx hb dX9_many_7 (by decide) ?_
  refine lv_ldc2 (v := 10) hx hb hown (hts (.constantLong RX9 183 (10)) (by decide +kernel)) dX9_many_8 ?_
  have hS0 := hS
  have hFc := va_free (wc := []) hD hS hA [] rfl
  refine va_calli (va_runS (As := [.long ((p0).toInt64), .long 1, .long 10]) (rest := [.ref m0]) ⟨hx, hb, hml, hown, hts⟩ (c_X9_in l κ D (H).size (((p0).toInt64)) (1) (10) ) (va_cwS 3 hts gd_c_X9_many_ok_11 rfl rfl rfl (by decide +kernel) ⟨(Nat.le_of_ble_eq_true rfl), (Nat.le_of_ble_eq_true rfl)⟩) (preS hE hK hP hD hS hA [] rfl (by decide) [] rfl) rfl rfl hl.1 rfl (lv_room (Nat.le_of_ble_eq_true rfl)) dX9_many_11 ⟨(Nat.le_of_ble_eq_true rfl), (Nat.le_of_ble_eq_true rfl)⟩) hS (fun q _ h => hFc q h) hFc (fun r_2 u t H1 locs ht hvm hw hB hz1 hk1 hS => ?_)
  try dsimp only at hw
  obtain ⟨hP, hD, hK⟩ := jn (wc := []) (wr := [(m0, .inr (16, [.int 0, .ref kl, .null, .ref tl]))]) (w1 := []) (t1 := []) hP hD hK hS0 hA [] [0] rfl rfl (by decide) (by decide) ht hvm hk1 hB
  generalize H1 = H at hP hS ⊢
  have hP : va_P D vwCl ([(m0, .inr (16, [.int 0, .ref kl, .null, .ref tl]))]) H := hP
  have hD : va_D A ([(m0, .inr (16, [.int 0, .ref kl, .null, .ref tl]))]) := hD
  have hK : va_K D vwCl [] s := hK
  refine W.widen (k := 0) (n := 0) (Nat.le_of_ble_eq_true rfl) (Nat.le_of_ble_eq_true rfl) ?_
  have hw : r_2 = 1 := hw.trans (if_pos (by rw [e0, nI_l (show hs < 2 ^ 31 by omega), lN_toInt (show hs < 2 ^ 31 by omega)]; exact ⟨by rw [show (1 : Int64).toInt = 1 from by decide]; omega, by rw [show (10 : Int64).toInt = 10 from by decide]; omega⟩))
  subst hw
  refine lv_if_eq (tgt := 29) hx hb dX9_many_14 (by decide) (fun c_14 => absurd c_14 (by decide)) (fun _ => ?_)
  refine lv_iload_n hx hb dX9_many_17 rfl (lv_at hl 2 rfl) ?_
  refine lv_i2l (v := (p1).toInt64) hx hb dX9_many_18 rfl ?_
  refine lv_lconst (v := 0) hx hb dX9_many_19 (by decide) ?_
  refine lv_ldc2 (v := 50) hx hb hown (hts (.constantLong RX9 185 (50)) (by decide +kernel)) dX9_many_20 ?_
  have hS0 := hS
  have hFc := va_free (wc := []) hD hS hA [] rfl
  refine va_calli (va_runS (As := [.long ((p1).toInt64), .long 0, .long 50]) (rest := [.ref m0]) ⟨hx, hb, hml, hown, hts⟩ (c_X9_in l κ D (H).size (((p1).toInt64)) (0) (50) ) (va_cwS 3 hts gd_c_X9_many_ok_23 rfl rfl rfl (by decide +kernel) ⟨(Nat.le_of_ble_eq_true rfl), (Nat.le_of_ble_eq_true rfl)⟩) (preS hE hK hP hD hS hA [] rfl (by decide) [] rfl) rfl rfl hl.1 rfl (lv_room (Nat.le_of_ble_eq_true rfl)) dX9_many_23 ⟨(Nat.le_of_ble_eq_true rfl), (Nat.le_of_ble_eq_true rfl)⟩) hS (fun q _ h => hFc q h) hFc (fun r_3 u t H1 locs ht hvm hw hB hz1 hk1 hS => ?_)
  try dsimp only at hw
  obtain ⟨hP, hD, hK⟩ := jn (wc := []) (wr := [(m0, .inr (16, [.int 0, .ref kl, .null, .ref tl]))]) (w1 := []) (t1 := []) hP hD hK hS0 hA [] [0] rfl rfl (by decide) (by decide) ht hvm hk1 hB
  generalize H1 = H at hP hS ⊢
  have hP : va_P D vwCl ([(m0, .inr (16, [.int 0, .ref kl, .null, .ref tl]))]) H := hP
  have hD : va_D A ([(m0, .inr (16, [.int 0, .ref kl, .null, .ref tl]))]) := hD
  have hK : va_K D vwCl [] s := hK
  refine W.widen (k := 0) (n := 0) (Nat.le_of_ble_eq_true rfl) (Nat.le_of_ble_eq_true rfl) ?_
  have hw : r_3 = 1 := hw.trans (if_pos (by rw [e1, nI_l (show sd < 2 ^ 31 by omega), lN_toInt (show sd < 2 ^ 31 by omega)]; exact ⟨by rw [show (0 : Int64).toInt = 0 from by decide]; omega, by rw [show (50 : Int64).toInt = 50 from by decide]; omega⟩))
  subst hw
  refine lv_if_ne (tgt := 33) hx hb dX9_many_26 (by decide) (fun _ => ?_) (fun c_26 => absurd c_26 (by decide))
  refine lv_iconst (v := 0) hx hb dX9_many_33 (by decide) ?_
  refine lv_iconst (v := 1) hx hb dX9_many_34 (by decide) ?_
  have hS0 := hS
  have hFc := va_free (wc := [(m0, .inr (16, [.int 0, .ref kl, .null, .ref tl]))]) hD hS hA [0] rfl
  refine va_calli (va_runV (As := [.int 0, .int 1]) (rest := []) ⟨hx, hb, hml, hown, hts⟩ (c_X9_fails_n l κ D (H).size (m0) (kl) (tl) (1) ) (cwV 2 hts gd_c_X9_many_ok_35 rfl rfl rfl (by decide +kernel) ⟨(Nat.le_of_ble_eq_true rfl), (Nat.le_of_ble_eq_true rfl)⟩) (preV hE hK hP hD hS hA [0] rfl (by decide) [] rfl (va_recv hK hP (ci := 16) (q0 := 0) rfl rfl)) rfl rfl hl.1 rfl (lv_room (Nat.le_of_ble_eq_true rfl)) dX9_many_35 ⟨(Nat.le_of_ble_eq_true rfl), (Nat.le_of_ble_eq_true rfl)⟩) hS (fun q _ h => hFc q h) hFc (fun r_4 u t H1 locs ht hvm hw hB hz1 hk1 hS => ?_)
  try dsimp only at hw
  obtain ⟨hP, hD, hK⟩ := jn (wc := [(m0, .inr (16, [.int 0, .ref kl, .null, .ref tl]))]) (wr := []) (w1 := [(m0, .inr (16, [.int 0, .ref kl, .null, .ref tl]))]) (t1 := []) hP hD hK hS0 hA [0] [] rfl rfl (by decide) (by decide) ht hvm hk1 hB
  generalize H1 = H at hP hS ⊢
  have hP : va_P D vwCl ([(m0, .inr (16, [.int 0, .ref kl, .null, .ref tl]))]) H := hP
  have hD : va_D A ([(m0, .inr (16, [.int 0, .ref kl, .null, .ref tl]))]) := hD
  have hK : va_K D vwCl [] s := hK
  refine W.widen (k := 0) (n := 0) (Nat.le_of_ble_eq_true rfl) (Nat.le_of_ble_eq_true rfl) ?_
  subst hw
  refine lv_if_eq (tgt := 47) hx hb dX9_many_38 (by decide) (fun _ => ?_) (fun c_38 => absurd c_38 (by decide))
  refine lv_iload_n hx hb dX9_many_47 rfl (lv_at hl 1 rfl) ?_
  refine lv_iload_n hx hb dX9_many_48 rfl (lv_at hl 2 rfl) ?_
  have hS0 := hS
  have hFc := va_free (wc := []) hD hS hA [] rfl
  refine va_calll (va_runS (As := [.int p0, .int p1]) (rest := []) ⟨hx, hb, hml, hown, hts⟩ (c_X9_rows l κ D (H).size (p0) (p1) (hs) (sd) (e0) (e1) (hhs) (hsd)) (va_cwS 2 hts gd_c_X9_many_ok_49 rfl rfl rfl (by decide +kernel) ⟨(Nat.le_of_ble_eq_true rfl), (Nat.le_of_ble_eq_true rfl)⟩) (preS hE hK hP hD hS hA [] rfl (by decide) [] rfl) rfl rfl hl.1 rfl (lv_room (Nat.le_of_ble_eq_true rfl)) dX9_many_49 ⟨(Nat.le_of_ble_eq_true rfl), (Nat.le_of_ble_eq_true rfl)⟩) hS (fun q _ h => hFc q h) hFc (fun r_5 u t H1 locs ht hvm hw hB hz1 hk1 hS => ?_)
  try dsimp only at hw
  obtain ⟨hP, hD, hK⟩ := jn (wc := []) (wr := [(m0, .inr (16, [.int 0, .ref kl, .null, .ref tl]))]) (w1 := []) (t1 := []) hP hD hK hS0 hA [] [0] rfl rfl (by decide) (by decide) ht hvm hk1 hB
  generalize H1 = H at hP hS ⊢
  have hP : va_P D vwCl ([(m0, .inr (16, [.int 0, .ref kl, .null, .ref tl]))]) H := hP
  have hD : va_D A ([(m0, .inr (16, [.int 0, .ref kl, .null, .ref tl]))]) := hD
  have hK : va_K D vwCl [] s := hK
  refine W.widen (k := 0) (n := 0) (Nat.le_of_ble_eq_true rfl) (Nat.le_of_ble_eq_true rfl) ?_
  have hw_49 := hw
  refine W.widen (k := 0) (n := 0) (Nat.le_of_ble_eq_true rfl) (Nat.le_of_ble_eq_true rfl) ?_
  exact W.lret (v := r_5) hx hb hr (fun t ht hW => ⟨⟨r_5, (), rfl, hw_49, PB.at hP hK hD hW.alike ht [0] rfl (by decide) [] rfl⟩, hS.F ht⟩) hS.2.2 dX9_many_52

def wm_c_X9_many_bad : List Cond := .code yX9_many cX9_many 3 (some .long) :: ([.code yX9_begins cX9_begins 1 none, .fieldLink RX9 19 "SowingcourtModel" "thrown" "I", .methodLink RX9 33 yX9_begins, .instanceMethod yX9_begins, .selects RX9 yX9_begins yX9_begins, .initialized RX9, .constantLong RX9 183 (10), .code yX9_in cX9_in 6 (some .boolean), .methodLink RX9 29 yX9_in, .static yX9_in, .code yX9_fails cX9_fails 3 (some .boolean), .methodLink RX9 50 yX9_fails, .instanceMethod yX9_fails, .selects RX9 yX9_fails yX9_fails, .constantLong RX9 187 (-1), .constantLong RX9 185 (50)] ++ wsX90)
set_option maxRecDepth 20000 in
theorem gd_c_X9_many_bad_1 : GoodIn wm_c_X9_many_bad (wsV RX9 33 RX9 yX9_begins wm_c_X9_begins) := goodIn_of _ (by decide +kernel)
set_option maxRecDepth 20000 in
theorem gd_c_X9_many_bad_11 : GoodIn wm_c_X9_many_bad (va_wsS RX9 29 yX9_in wm_c_X9_in) := goodIn_of _ (by decide +kernel)
set_option maxRecDepth 20000 in
theorem gd_c_X9_many_bad_35 : GoodIn wm_c_X9_many_bad (wsV RX9 50 RX9 yX9_fails wm_c_X9_fails_1) := goodIn_of _ (by decide +kernel)
set_option maxRecDepth 20000 in
theorem gd_c_X9_many_bad_23 : GoodIn wm_c_X9_many_bad (va_wsS RX9 29 yX9_in wm_c_X9_in) := goodIn_of _ (by decide +kernel)
set_option maxHeartbeats 4000000 in
set_option maxRecDepth 100000 in
theorem c_X9_many_bad (l : Launch) (κ : Nat → Nat) (D : va_G) (sz : Nat) (m0 : Nat) (kl : Nat) (tl : Nat) (p0 : Int32) (p1 : Int32) (hbad : ¬ (((1 : Int64).toInt ≤ (p0.toInt64).toInt ∧ (p0.toInt64).toInt ≤ (10 : Int64).toInt) ∧ ((0 : Int64).toInt ≤ (p1.toInt64).toInt ∧ (p1.toInt64).toInt ≤ (50 : Int64).toInt))) : Met l yX9_many wm_c_X9_many_bad ({ frames := 11, cells := 0, slots := 0, locals := 380 }) (va_Pc [.ref m0, .int p0, .int p1] (PC κ D [] [(m0, .inr (16, [.int 0, .ref kl, .null, .ref tl]))] sz)) (va_Ql (fun (r : Int64) (_ : Unit) => True) (fun _ t => PB D [] [(m0, .inr (16, [.int 1, .ref kl, .null, .ref tl]))] (va_A [(m0, .inr (16, [.int 0, .ref kl, .null, .ref tl]))] sz) t) (va_A [(m0, .inr (16, [.int 0, .ref kl, .null, .ref tl]))] sz)) 0 0 (va_A [(m0, .inr (16, [.int 0, .ref kl, .null, .ref tl]))] sz) := by
  refine Met.ofW (cc := cX9_many) (maxL := 3) (ret := (some .long)) (by decide +kernel) rfl ?_
  intro p e s m args below meth c s₁ B hml hv
  obtain ⟨rfl, hsz, hP, hK, hD0, hE⟩ := hv
  have hx := B.exec
  have hb := B.bytes
  have hr := B.returns
  have hts := atoms_spec (ws := wm_c_X9_many_bad) B.pre
  have hown : s.vm.findClass RX9 = some m.cls := findClass_of_methodNamed B.named
  have hlocks := B.notSynchronized
  have iRX9 : ∀ w ∈ u_ws RX9 TX9 4, w ∈ wm_c_X9_many_bad := by decide +kernel
  subst hsz
  have hD := hD0.self (sz := s.heap.size)
  generalize hAe : va_A [(m0, .inr (16, [.int 0, .ref kl, .null, .ref tl]))] s.heap.size = A at hD hE ⊢
  have hA : ∀ q : Nat, s.heap.size ≤ q → A q := fun q h => by rw [← hAe]; exact Or.inr h
  have hS : va_S A s.heap s.heap [] := va_S.rf
  have hl := lv_entry ([.ref m0, .int p0, .int p1]) (n := 3) (Nat.le_of_ble_eq_true rfl)
  rw [lg_entry_eq]
  generalize (lg_sl ([.ref m0, .int p0, .int p1]) ++ List.replicate (3 - (lg_sl ([.ref m0, .int p0, .int p1])).length) Slot.unset).toArray = ls at hl ⊢
  have hl : lv_has ls 3 [(0, .ref m0), (1, .int p0), (2, .int p1)] := hl
  refine lv_aload_n hx hb dX9_many_0 rfl (lv_at hl 0 rfl) ?_
  have hS0 := hS
  have hFc := va_free (wc := [(m0, .inr (16, [.int 0, .ref kl, .null, .ref tl]))]) hD hS hA [0] rfl
  refine va_callv (va_runV (As := []) (rest := []) ⟨hx, hb, hml, hown, hts⟩ (c_X9_begins l κ D (s.heap).size (m0) (kl) (tl) (0) ) (cwV 0 hts gd_c_X9_many_bad_1 rfl rfl rfl (by decide +kernel) ⟨(Nat.le_of_ble_eq_true rfl), (Nat.le_of_ble_eq_true rfl)⟩) (preV hE hK hP hD hS hA [0] rfl (by decide) [] rfl (va_recv hK hP (ci := 16) (q0 := 0) rfl rfl)) rfl rfl hl.1 rfl (lv_room (Nat.le_of_ble_eq_true rfl)) dX9_many_1 ⟨(Nat.le_of_ble_eq_true rfl), (Nat.le_of_ble_eq_true rfl)⟩) hS (fun q _ h => hFc q h) hFc (fun u t H1 locs ht hvm hw hB hz1 hk1 hS => ?_)
  try dsimp only at hw
  obtain ⟨hP, hD, hK⟩ := jn (wc := [(m0, .inr (16, [.int 0, .ref kl, .null, .ref tl]))]) (wr := []) (w1 := [(m0, .inr (16, [.int 0, .ref kl, .null, .ref tl]))]) (t1 := []) hP hD hK hS0 hA [0] [] rfl rfl (by decide) (by decide) ht hvm hk1 hB
  generalize H1 = H at hP hS ⊢
  have hP : va_P D vwCl ([(m0, .inr (16, [.int 0, .ref kl, .null, .ref tl]))]) H := hP
  have hD : va_D A ([(m0, .inr (16, [.int 0, .ref kl, .null, .ref tl]))]) := hD
  have hK : va_K D vwCl [] s := hK
  refine W.widen (k := 0) (n := 0) (Nat.le_of_ble_eq_true rfl) (Nat.le_of_ble_eq_true rfl) ?_
  refine lv_aload_n hx hb dX9_many_4 rfl (lv_at hl 0 rfl) ?_
  refine lv_iload_n hx hb dX9_many_5 rfl (lv_at hl 1 rfl) ?_
  refine lv_i2l (v := (p0).toInt64) hx hb dX9_many_6 rfl ?_
  refine lv_lconst (v := 1) hx hb dX9_many_7 (by decide) ?_
  refine lv_ldc2 (v := 10) hx hb hown (hts (.constantLong RX9 183 (10)) (by decide +kernel)) dX9_many_8 ?_
  have hS0 := hS
  have hFc := va_free (wc := []) hD hS hA [] rfl
  refine va_calli (va_runS (As := [.long ((p0).toInt64), .long 1, .long 10]) (rest := [.ref m0]) ⟨hx, hb, hml, hown, hts⟩ (c_X9_in l κ D (H).size (((p0).toInt64)) (1) (10) ) (va_cwS 3 hts gd_c_X9_many_bad_11 rfl rfl rfl (by decide +kernel) ⟨(Nat.le_of_ble_eq_true rfl), (Nat.le_of_ble_eq_true rfl)⟩) (preS hE hK hP hD hS hA [] rfl (by decide) [] rfl) rfl rfl hl.1 rfl (lv_room (Nat.le_of_ble_eq_true rfl)) dX9_many_11 ⟨(Nat.le_of_ble_eq_true rfl), (Nat.le_of_ble_eq_true rfl)⟩) hS (fun q _ h => hFc q h) hFc (fun r_2 u t H1 locs ht hvm hw hB hz1 hk1 hS => ?_)
  try dsimp only at hw
  obtain ⟨hP, hD, hK⟩ := jn (wc := []) (wr := [(m0, .inr (16, [.int 0, .ref kl, .null, .ref tl]))]) (w1 := []) (t1 := []) hP hD hK hS0 hA [] [0] rfl rfl (by decide) (by decide) ht hvm hk1 hB
  generalize H1 = H at hP hS ⊢
  have hP : va_P D vwCl ([(m0, .inr (16, [.int 0, .ref kl, .null, .ref tl]))]) H := hP
  have hD : va_D A ([(m0, .inr (16, [.int 0, .ref kl, .null, .ref tl]))]) := hD
  have hK : va_K D vwCl [] s := hK
  refine W.widen (k := 0) (n := 0) (Nat.le_of_ble_eq_true rfl) (Nat.le_of_ble_eq_true rfl) ?_
  have hw_11 := hw
  refine lv_if_eq (tgt := 29) hx hb dX9_many_14 (by decide) (fun c_14 => ?_) (fun c_14 => ?_)
  · refine lv_iconst (v := 1) hx hb dX9_many_29 (by decide) ?_
    refine lv_goto (tgt := 34) hx hb dX9_many_30 (by decide) ?_
    refine lv_iconst (v := 1) hx hb dX9_many_34 (by decide) ?_
    have hS0 := hS
    have hFc := va_free (wc := [(m0, .inr (16, [.int 0, .ref kl, .null, .ref tl]))]) hD hS hA [0] rfl
    refine va_calli (va_runV (As := [.int 1, .int 1]) (rest := []) ⟨hx, hb, hml, hown, hts⟩ (c_X9_fails_1 l κ D (H).size (m0) (kl) (tl) ) (cwV 2 hts gd_c_X9_many_bad_35 rfl rfl rfl (by decide +kernel) ⟨(Nat.le_of_ble_eq_true rfl), (Nat.le_of_ble_eq_true rfl)⟩) (preV hE hK hP hD hS hA [0] rfl (by decide) [] rfl (va_recv hK hP (ci := 16) (q0 := 0) rfl rfl)) rfl rfl hl.1 rfl (lv_room (Nat.le_of_ble_eq_true rfl)) dX9_many_35 ⟨(Nat.le_of_ble_eq_true rfl), (Nat.le_of_ble_eq_true rfl)⟩) hS (fun q _ h => hFc q h) hFc (fun r_3 u t H1 locs ht hvm hw hB hz1 hk1 hS => ?_)
    try dsimp only at hw
    obtain ⟨hP, hD, hK⟩ := jn (wc := [(m0, .inr (16, [.int 0, .ref kl, .null, .ref tl]))]) (wr := []) (w1 := [(m0, .inr (16, [.int 1, .ref kl, .null, .ref tl]))]) (t1 := []) hP hD hK hS0 hA [0] [] rfl rfl (by decide) (by decide) ht hvm hk1 hB
    generalize H1 = H at hP hS ⊢
    have hP : va_P D vwCl ([(m0, .inr (16, [.int 1, .ref kl, .null, .ref tl]))]) H := hP
    have hD : va_D A ([(m0, .inr (16, [.int 1, .ref kl, .null, .ref tl]))]) := hD
    have hK : va_K D vwCl [] s := hK
    refine W.widen (k := 0) (n := 0) (Nat.le_of_ble_eq_true rfl) (Nat.le_of_ble_eq_true rfl) ?_
    subst hw
    refine lv_if_eq (tgt := 47) hx hb dX9_many_38 (by decide) (fun c_38 => absurd c_38 (by decide)) (fun _ => ?_)
    refine lv_ldc2 (v := (-1)) hx hb hown (hts (.constantLong RX9 187 (-1)) (by decide +kernel)) dX9_many_41 ?_
    refine lv_goto (tgt := 52) hx hb dX9_many_44 (by decide) ?_
    refine W.widen (k := 0) (n := 0) (Nat.le_of_ble_eq_true rfl) (Nat.le_of_ble_eq_true rfl) ?_
    exact W.lret (v := (-1)) hx hb hr (fun t ht hW => ⟨⟨(-1), (), rfl, trivial, PB.at hP hK hD hW.alike ht [0] rfl (by decide) [] rfl⟩, hS.F ht⟩) hS.2.2 dX9_many_52
  · refine lv_iload_n hx hb dX9_many_17 rfl (lv_at hl 2 rfl) ?_
    refine lv_i2l (v := (p1).toInt64) hx hb dX9_many_18 rfl ?_
    refine lv_lconst (v := 0) hx hb dX9_many_19 (by decide) ?_
    refine lv_ldc2 (v := 50) hx hb hown (hts (.constantLong RX9 185 (50)) (by decide +kernel)) dX9_many_20 ?_
    have hS0 := hS
    have hFc := va_free (wc := []) hD hS hA [] rfl
    refine va_calli (va_runS (As := [.long ((p1).toInt64), .long 0, .long 50]) (rest := [.ref m0]) ⟨hx, hb, hml, hown, hts⟩ (c_X9_in l κ D (H).size (((p1).toInt64)) (0) (50) ) (va_cwS 3 hts gd_c_X9_many_bad_23 rfl rfl rfl (by decide +kernel) ⟨(Nat.le_of_ble_eq_true rfl), (Nat.le_of_ble_eq_true rfl)⟩) (preS hE hK hP hD hS hA [] rfl (by decide) [] rfl) rfl rfl hl.1 rfl (lv_room (Nat.le_of_ble_eq_true rfl)) dX9_many_23 ⟨(Nat.le_of_ble_eq_true rfl), (Nat.le_of_ble_eq_true rfl)⟩) hS (fun q _ h => hFc q h) hFc (fun r_4 u t H1 locs ht hvm hw hB hz1 hk1 hS => ?_)
    try dsimp only at hw
    obtain ⟨hP, hD, hK⟩ := jn (wc := []) (wr := [(m0, .inr (16, [.int 0, .ref kl, .null, .ref tl]))]) (w1 := []) (t1 := []) hP hD hK hS0 hA [] [0] rfl rfl (by decide) (by decide) ht hvm hk1 hB
    generalize H1 = H at hP hS ⊢
    have hP : va_P D vwCl ([(m0, .inr (16, [.int 0, .ref kl, .null, .ref tl]))]) H := hP
    have hD : va_D A ([(m0, .inr (16, [.int 0, .ref kl, .null, .ref tl]))]) := hD
    have hK : va_K D vwCl [] s := hK
    refine W.widen (k := 0) (n := 0) (Nat.le_of_ble_eq_true rfl) (Nat.le_of_ble_eq_true rfl) ?_
    have hw_23 := hw
    refine lv_if_ne (tgt := 33) hx hb dX9_many_26 (by decide) (fun c_26 => absurd ⟨ifn hw_11 c_14, ifn hw_23 c_26⟩ hbad) (fun c_26 => ?_)
    refine lv_iconst (v := 1) hx hb dX9_many_29 (by decide) ?_
    refine lv_goto (tgt := 34) hx hb dX9_many_30 (by decide) ?_
    refine lv_iconst (v := 1) hx hb dX9_many_34 (by decide) ?_
    have hS0 := hS
    have hFc := va_free (wc := [(m0, .inr (16, [.int 0, .ref kl, .null, .ref tl]))]) hD hS hA [0] rfl
    refine va_calli (va_runV (As := [.int 1, .int 1]) (rest := []) ⟨hx, hb, hml, hown, hts⟩ (c_X9_fails_1 l κ D (H).size (m0) (kl) (tl) ) (cwV 2 hts gd_c_X9_many_bad_35 rfl rfl rfl (by decide +kernel) ⟨(Nat.le_of_ble_eq_true rfl), (Nat.le_of_ble_eq_true rfl)⟩) (preV hE hK hP hD hS hA [0] rfl (by decide) [] rfl (va_recv hK hP (ci := 16) (q0 := 0) rfl rfl)) rfl rfl hl.1 rfl (lv_room (Nat.le_of_ble_eq_true rfl)) dX9_many_35 ⟨(Nat.le_of_ble_eq_true rfl), (Nat.le_of_ble_eq_true rfl)⟩) hS (fun q _ h => hFc q h) hFc (fun r_5 u t H1 locs ht hvm hw hB hz1 hk1 hS => ?_)
    try dsimp only at hw
    obtain ⟨hP, hD, hK⟩ := jn (wc := [(m0, .inr (16, [.int 0, .ref kl, .null, .ref tl]))]) (wr := []) (w1 := [(m0, .inr (16, [.int 1, .ref kl, .null, .ref tl]))]) (t1 := []) hP hD hK hS0 hA [0] [] rfl rfl (by decide) (by decide) ht hvm hk1 hB
    generalize H1 = H at hP hS ⊢
    have hP : va_P D vwCl ([(m0, .inr (16, [.int 1, .ref kl, .null, .ref tl]))]) H := hP
    have hD : va_D A ([(m0, .inr (16, [.int 1, .ref kl, .null, .ref tl]))]) := hD
    have hK : va_K D vwCl [] s := hK
    refine W.widen (k := 0) (n := 0) (Nat.le_of_ble_eq_true rfl) (Nat.le_of_ble_eq_true rfl) ?_
    subst hw
    refine lv_if_eq (tgt := 47) hx hb dX9_many_38 (by decide) (fun c_38 => absurd c_38 (by decide)) (fun _ => ?_)
    refine lv_ldc2 (v := (-1)) hx hb hown (hts (.constantLong RX9 187 (-1)) (by decide +kernel)) dX9_many_41 ?_
    refine lv_goto (tgt := 52) hx hb dX9_many_44 (by decide) ?_
    refine W.widen (k := 0) (n := 0) (Nat.le_of_ble_eq_true rfl) (Nat.le_of_ble_eq_true rfl) ?_
    exact W.lret (v := (-1)) hx hb hr (fun t ht hW => ⟨⟨(-1), (), rfl, trivial, PB.at hP hK hD hW.alike ht [0] rfl (by decide) [] rfl⟩, hS.F ht⟩) hS.2.2 dX9_many_52
