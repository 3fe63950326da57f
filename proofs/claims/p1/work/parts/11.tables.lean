def wm_c_X3_seedsAt : List Cond := .code yX3_seedsAt cX3_seedsAt 11 (some .int) :: ([.fieldLink RX3 11 "Sowingcourt$Rows" "ways" "[[J"] ++ wsX30)
set_option maxHeartbeats 4000000 in
set_option maxRecDepth 100000 in
theorem c_X3_seedsAt (l : Launch) (κ : Nat → Nat) (D : va_G) (sz : Nat) (h0 : Nat) (q0 : Nat) (cO : ClassId) (cJ : ClassId) (rr : Nat → Nat) (FF : Nat → Nat → Int64) (xi : Int32) (xs : Int32) (xn : Int64) (xh : Int32) (hs : Nat) (sd : Nat) (nn : Nat) (kk : Nat) (exi : xi = nI hs) (exs : xs = nI sd) (exn : xn = lN nn) (exh : xh = nI kk) (hhs : hs < 11) (hkk : kk < hs) (hsd : sd < 51) (hnn : nn < 2 ^ 62) (hF : ∀ k, k < 11 → ∀ z, z < 91 → FF k z = WW k z) : Met l yX3_seedsAt wm_c_X3_seedsAt ({ frames := 8, cells := 0, slots := 0, locals := 200 }) (va_Pc [.ref h0, .int xi, .int xs, .long xn, .int xh] (PC κ D [(cO, .array .long), (cJ, .long)] [(h0, .inr (10, [.ref q0])), (q0, .inl (cO, 11, .inr (.inr (.inr (.inr (fun i => if i < 11 then some (rr i) else none)))))), ((rr 0), .inl (cJ, 91, .inr (.inl (FF 0)))), ((rr 1), .inl (cJ, 91, .inr (.inl (FF 1)))), ((rr 2), .inl (cJ, 91, .inr (.inl (FF 2)))), ((rr 3), .inl (cJ, 91, .inr (.inl (FF 3)))), ((rr 4), .inl (cJ, 91, .inr (.inl (FF 4)))), ((rr 5), .inl (cJ, 91, .inr (.inl (FF 5)))), ((rr 6), .inl (cJ, 91, .inr (.inl (FF 6)))), ((rr 7), .inl (cJ, 91, .inr (.inl (FF 7)))), ((rr 8), .inl (cJ, 91, .inr (.inl (FF 8)))), ((rr 9), .inl (cJ, 91, .inr (.inl (FF 9)))), ((rr 10), .inl (cJ, 91, .inr (.inl (FF 10))))] sz)) (va_Qi (fun (r : Int32) (_ : Unit) => r = nI (IR hs kk sd nn)) (fun _ t => PB D [] [] (va_A [(h0, .inr (10, [.ref q0])), (q0, .inl (cO, 11, .inr (.inr (.inr (.inr (fun i => if i < 11 then some (rr i) else none)))))), ((rr 0), .inl (cJ, 91, .inr (.inl (FF 0)))), ((rr 1), .inl (cJ, 91, .inr (.inl (FF 1)))), ((rr 2), .inl (cJ, 91, .inr (.inl (FF 2)))), ((rr 3), .inl (cJ, 91, .inr (.inl (FF 3)))), ((rr 4), .inl (cJ, 91, .inr (.inl (FF 4)))), ((rr 5), .inl (cJ, 91, .inr (.inl (FF 5)))), ((rr 6), .inl (cJ, 91, .inr (.inl (FF 6)))), ((rr 7), .inl (cJ, 91, .inr (.inl (FF 7)))), ((rr 8), .inl (cJ, 91, .inr (.inl (FF 8)))), ((rr 9), .inl (cJ, 91, .inr (.inl (FF 9)))), ((rr 10), .inl (cJ, 91, .inr (.inl (FF 10))))] sz) t) (va_A [(h0, .inr (10, [.ref q0])), (q0, .inl (cO, 11, .inr (.inr (.inr (.inr (fun i => if i < 11 then some (rr i) else none)))))), ((rr 0), .inl (cJ, 91, .inr (.inl (FF 0)))), ((rr 1), .inl (cJ, 91, .inr (.inl (FF 1)))), ((rr 2), .inl (cJ, 91, .inr (.inl (FF 2)))), ((rr 3), .inl (cJ, 91, .inr (.inl (FF 3)))), ((rr 4), .inl (cJ, 91, .inr (.inl (FF 4)))), ((rr 5), .inl (cJ, 91, .inr (.inl (FF 5)))), ((rr 6), .inl (cJ, 91, .inr (.inl (FF 6)))), ((rr 7), .inl (cJ, 91, .inr (.inl (FF 7)))), ((rr 8), .inl (cJ, 91, .inr (.inl (FF 8)))), ((rr 9), .inl (cJ, 91, .inr (.inl (FF 9)))), ((rr 10), .inl (cJ, 91, .inr (.inl (FF 10))))] sz)) 0 0 (va_A [(h0, .inr (10, [.ref q0])), (q0, .inl (cO, 11, .inr (.inr (.inr (.inr (fun i => if i < 11 then some (rr i) else none)))))), ((rr 0), .inl (cJ, 91, .inr (.inl (FF 0)))), ((rr 1), .inl (cJ, 91, .inr (.inl (FF 1)))), ((rr 2), .inl (cJ, 91, .inr (.inl (FF 2)))), ((rr 3), .inl (cJ, 91, .inr (.inl (FF 3)))), ((rr 4), .inl (cJ, 91, .inr (.inl (FF 4)))), ((rr 5), .inl (cJ, 91, .inr (.inl (FF 5)))), ((rr 6), .inl (cJ, 91, .inr (.inl (FF 6)))), ((rr 7), .inl (cJ, 91, .inr (.inl (FF 7)))), ((rr 8), .inl (cJ, 91, .inr (.inl (FF 8)))), ((rr 9), .inl (cJ, 91, .inr (.inl (FF 9)))), ((rr 10), .inl (cJ, 91, .inr (.inl (FF 10))))] sz) := by
  refine Met.ofW (cc := cX3_seedsAt) (maxL := 11) (ret := (some .int)) (by decide +kernel) rfl ?_
  intro p e s m args below meth c s₁ B hml hv
  obtain ⟨rfl, hsz, hP, hK, hD0, hE⟩ := hv
  have hx := B.exec
  have hb := B.bytes
  have hr := B.returns
  have hts := atoms_spec (ws := wm_c_X3_seedsAt) B.pre
  have hown : s.vm.findClass RX3 = some m.cls := findClass_of_methodNamed B.named
  have hlocks := B.notSynchronized
  have iRX3 : ∀ w ∈ u_ws RX3 TX3 1, w ∈ wm_c_X3_seedsAt := by decide +kernel
  subst hsz
  have hD := hD0.self (sz := s.heap.size)
  generalize hAe : va_A [(h0, .inr (10, [.ref q0])), (q0, .inl (cO, 11, .inr (.inr (.inr (.inr (fun i => if i < 11 then some (rr i) else none)))))), ((rr 0), .inl (cJ, 91, .inr (.inl (FF 0)))), ((rr 1), .inl (cJ, 91, .inr (.inl (FF 1)))), ((rr 2), .inl (cJ, 91, .inr (.inl (FF 2)))), ((rr 3), .inl (cJ, 91, .inr (.inl (FF 3)))), ((rr 4), .inl (cJ, 91, .inr (.inl (FF 4)))), ((rr 5), .inl (cJ, 91, .inr (.inl (FF 5)))), ((rr 6), .inl (cJ, 91, .inr (.inl (FF 6)))), ((rr 7), .inl (cJ, 91, .inr (.inl (FF 7)))), ((rr 8), .inl (cJ, 91, .inr (.inl (FF 8)))), ((rr 9), .inl (cJ, 91, .inr (.inl (FF 9)))), ((rr 10), .inl (cJ, 91, .inr (.inl (FF 10))))] s.heap.size = A at hD hE ⊢
  have hA : ∀ q : Nat, s.heap.size ≤ q → A q := fun q h => by rw [← hAe]; exact Or.inr h
  have hS : va_S A s.heap s.heap [] := va_S.rf
  have hl := lv_entry ([.ref h0, .int xi, .int xs, .long xn, .int xh]) (n := 11) (Nat.le_of_ble_eq_true rfl)
  rw [lg_entry_eq]
  generalize (lg_sl ([.ref h0, .int xi, .int xs, .long xn, .int xh]) ++ List.replicate (11 - (lg_sl ([.ref h0, .int xi, .int xs, .long xn, .int xh])).length) Slot.unset).toArray = ls at hl ⊢
  have hl : lv_has ls 11 [(0, .ref h0), (1, .int xi), (2, .int xs), (3, .long xn), (5, .int xh)] := hl
  refine lv_lload_n hx hb dX3_seedsAt_0 rfl (lv_at hl 3 rfl) ?_
  refine lv_lstore (lv' := [(6, .long xn), (0, .ref h0), (1, .int xi), (2, .int xs), (3, .long xn), (5, .int xh)]) hx hb dX3_seedsAt_1 hl (by decide) rfl (fun ls hl => ?_)
  refine lv_iload_n hx hb dX3_seedsAt_3 rfl (lv_at hl 3 rfl) ?_
  refine lv_istore (lv' := [(8, .int xs), (6, .long xn), (0, .ref h0), (1, .int xi), (2, .int xs), (3, .long xn), (5, .int xh)]) hx hb dX3_seedsAt_4 hl (by decide) rfl (fun ls hl => ?_)
  refine lv_iconst (v := 0) hx hb dX3_seedsAt_6 (by decide) ?_
  refine lv_istore (lv' := [(9, .int 0), (8, .int xs), (6, .long xn), (0, .ref h0), (1, .int xi), (2, .int xs), (3, .long xn), (5, .int xh)]) hx hb dX3_seedsAt_7 hl (by decide) rfl (fun ls hl => ?_)
  refine lv_iconst (v := 0) hx hb dX3_seedsAt_9 (by decide) ?_
  refine lv_istore (lv' := [(10, .int 0), (9, .int 0), (8, .int xs), (6, .long xn), (0, .ref h0), (1, .int xi), (2, .int xs), (3, .long xn), (5, .int xh)]) hx hb dX3_seedsAt_10 hl (by decide) rfl (fun ls hl => ?_)
  rw [exs, exn] at hl
  refine sa_outer hx hb hown hts iRX3 (hts (.fieldLink RX3 11 "Sowingcourt$Rows" "ways" "[[J") (by decide +kernel)) hK (tO := 0) (tJ := 1) rfl rfl hP (kx := 0) (kq := 1) rfl rfl (fun k hk => ⟨k + 2, rows_at rr FF cJ k hk⟩) hF (xi := xi) (xh := xh) exi hhs (V := IR hs kk sd nn) (fun ls hl => ?_) kk 0 0 sd nn ls (by rw [exh, Nat.zero_add]) (by omega) (by omega) hnn (by rw [Nat.sub_zero]) (by rw [Nat.zero_add]; exact lv_sub hl [0, 1, 2, 3, 8, 5, 4] rfl)
  refine lv_iload hx hb dX3_seedsAt_93 (lv_at hl 0 rfl) ?_
  refine W.widen (k := 0) (n := 0) (Nat.le_of_ble_eq_true rfl) (Nat.le_of_ble_eq_true rfl) ?_
  exact W.iret (v := (nI (IR hs kk sd nn))) hx hb hr (fun t ht hW => ⟨⟨(nI (IR hs kk sd nn)), (), rfl, rfl, PB.at hP hK hD hW.alike ht [] rfl (by decide) [] rfl⟩, hS.F ht⟩) hS.2.2 dX3_seedsAt_95

def wm_c_X5_many_ok : List Cond := .code yX5_many cX5_many 3 (some .long) :: ([.code yX5_needRows cX5_needRows 2 none, .code yX5_isWithin cX5_isWithin 3 (some .boolean), .methodLink RX5 57 yX5_isWithin, .static yX5_isWithin, .initialized RX5, .methodLink RX5 215 yX5_needRows, .static yX5_needRows, .fieldLink RX5 42 "Sowingcourt" "rows" "LSowingcourt$Rows;", .fieldLink RX5 218 "Sowingcourt$Rows" "ways" "[[J"] ++ wsX50 ++ wsX30)
set_option maxRecDepth 20000 in
theorem gd_c_X5_many_ok_2 : GoodIn wm_c_X5_many_ok (va_wsS RX5 215 yX5_needRows wm_c_X5_needRows_ok) := goodIn_of _ (by decide +kernel)
set_option maxHeartbeats 4000000 in
set_option maxRecDepth 100000 in
theorem c_X5_many_ok (l : Launch) (κ : Nat → Nat) (D : va_G) (sz : Nat) (h0 : Nat) (o0 : Nat) (g0 : Nat) (o2 : Nat) (o3 : Nat) (o4 : Nat) (o5 : Nat) (o6 : Nat) (q0 : Nat) (cO : ClassId) (cJ : ClassId) (rr : Nat → Nat) (FF : Nat → Nat → Int64) (p0 : Int32) (p1 : Int32) (hs : Nat) (sd : Nat) (e0 : p0 = nI hs) (e1 : p1 = nI sd) (h1s : 0 < hs) (hhs : hs < 11) (hsd : sd < 51) (hF : ∀ k, k < 11 → ∀ z, z < 91 → FF k z = WW k z) : Met l yX5_many wm_c_X5_many_ok ({ frames := 10, cells := 0, slots := 0, locals := 320 }) (va_Pc [.ref h0, .int p0, .int p1] (PC κ D [(cO, .array .long), (cJ, .long)] [(h0, .inr (12, [.ref o0, .int 0, .ref g0, .ref o2, .ref o3, .ref o4, .ref o5, .int 0, .ref o6])), (o4, .inr (10, [.ref q0])), (q0, .inl (cO, 11, .inr (.inr (.inr (.inr (fun i => if i < 11 then some (rr i) else none)))))), ((rr 0), .inl (cJ, 91, .inr (.inl (FF 0)))), ((rr 1), .inl (cJ, 91, .inr (.inl (FF 1)))), ((rr 2), .inl (cJ, 91, .inr (.inl (FF 2)))), ((rr 3), .inl (cJ, 91, .inr (.inl (FF 3)))), ((rr 4), .inl (cJ, 91, .inr (.inl (FF 4)))), ((rr 5), .inl (cJ, 91, .inr (.inl (FF 5)))), ((rr 6), .inl (cJ, 91, .inr (.inl (FF 6)))), ((rr 7), .inl (cJ, 91, .inr (.inl (FF 7)))), ((rr 8), .inl (cJ, 91, .inr (.inl (FF 8)))), ((rr 9), .inl (cJ, 91, .inr (.inl (FF 9)))), ((rr 10), .inl (cJ, 91, .inr (.inl (FF 10))))] sz)) (va_Ql (fun (r : Int64) (_ : Unit) => r = lN (WN hs sd)) (fun _ t => PB D [] [] (va_A [(h0, .inr (12, [.ref o0, .int 0, .ref g0, .ref o2, .ref o3, .ref o4, .ref o5, .int 0, .ref o6])), (o4, .inr (10, [.ref q0])), (q0, .inl (cO, 11, .inr (.inr (.inr (.inr (fun i => if i < 11 then some (rr i) else none)))))), ((rr 0), .inl (cJ, 91, .inr (.inl (FF 0)))), ((rr 1), .inl (cJ, 91, .inr (.inl (FF 1)))), ((rr 2), .inl (cJ, 91, .inr (.inl (FF 2)))), ((rr 3), .inl (cJ, 91, .inr (.inl (FF 3)))), ((rr 4), .inl (cJ, 91, .inr (.inl (FF 4)))), ((rr 5), .inl (cJ, 91, .inr (.inl (FF 5)))), ((rr 6), .inl (cJ, 91, .inr (.inl (FF 6)))), ((rr 7), .inl (cJ, 91, .inr (.inl (FF 7)))), ((rr 8), .inl (cJ, 91, .inr (.inl (FF 8)))), ((rr 9), .inl (cJ, 91, .inr (.inl (FF 9)))), ((rr 10), .inl (cJ, 91, .inr (.inl (FF 10))))] sz) t) (va_A [(h0, .inr (12, [.ref o0, .int 0, .ref g0, .ref o2, .ref o3, .ref o4, .ref o5, .int 0, .ref o6])), (o4, .inr (10, [.ref q0])), (q0, .inl (cO, 11, .inr (.inr (.inr (.inr (fun i => if i < 11 then some (rr i) else none)))))), ((rr 0), .inl (cJ, 91, .inr (.inl (FF 0)))), ((rr 1), .inl (cJ, 91, .inr (.inl (FF 1)))), ((rr 2), .inl (cJ, 91, .inr (.inl (FF 2)))), ((rr 3), .inl (cJ, 91, .inr (.inl (FF 3)))), ((rr 4), .inl (cJ, 91, .inr (.inl (FF 4)))), ((rr 5), .inl (cJ, 91, .inr (.inl (FF 5)))), ((rr 6), .inl (cJ, 91, .inr (.inl (FF 6)))), ((rr 7), .inl (cJ, 91, .inr (.inl (FF 7)))), ((rr 8), .inl (cJ, 91, .inr (.inl (FF 8)))), ((rr 9), .inl (cJ, 91, .inr (.inl (FF 9)))), ((rr 10), .inl (cJ, 91, .inr (.inl (FF 10))))] sz)) 0 0 (va_A [(h0, .inr (12, [.ref o0, .int 0, .ref g0, .ref o2, .ref o3, .ref o4, .ref o5, .int 0, .ref o6])), (o4, .inr (10, [.ref q0])), (q0, .inl (cO, 11, .inr (.inr (.inr (.inr (fun i => if i < 11 then some (rr i) else none)))))), ((rr 0), .inl (cJ, 91, .inr (.inl (FF 0)))), ((rr 1), .inl (cJ, 91, .inr (.inl (FF 1)))), ((rr 2), .inl (cJ, 91, .inr (.inl (FF 2)))), ((rr 3), .inl (cJ, 91, .inr (.inl (FF 3)))), ((rr 4), .inl (cJ, 91, .inr (.inl (FF 4)))), ((rr 5), .inl (cJ, 91, .inr (.inl (FF 5)))), ((rr 6), .inl (cJ, 91, .inr (.inl (FF 6)))), ((rr 7), .inl (cJ, 91, .inr (.inl (FF 7)))), ((rr 8), .inl (cJ, 91, .inr (.inl (FF 8)))), ((rr 9), .inl (cJ, 91, .inr (.inl (FF 9)))), ((rr 10), .inl (cJ, 91, .inr (.inl (FF 10))))] sz) := by
  refine Met.ofW (cc := cX5_many) (maxL := 3) (ret := (some .long)) (by decide +kernel) rfl ?_
  intro p e s m args below meth c s₁ B hml hv
  obtain ⟨rfl, hsz, hP, hK, hD0, hE⟩ := hv
  have hx := B.exec
  have hb := B.bytes
  have hr := B.returns
  have hts := atoms_spec (ws := wm_c_X5_many_ok) B.pre
  have hown : s.vm.findClass RX5 = some m.cls := findClass_of_methodNamed B.named
  have hlocks := B.notSynchronized
  have iRX5 : ∀ w ∈ u_ws RX5 TX5 9, w ∈ wm_c_X5_many_ok := by decide +kernel
  have iRX3 : ∀ w ∈ u_ws RX3 TX3 1, w ∈ wm_c_X5_many_ok := by decide +kernel
  subst hsz
  have hD := hD0.self (sz := s.heap.size)
  generalize hAe : va_A [(h0, .inr (12, [.ref o0, .int 0, .ref g0, .ref o2, .ref o3, .ref o4, .ref o5, .int 0, .ref o6])), (o4, .inr (10, [.ref q0])), (q0, .inl (cO, 11, .inr (.inr (.inr (.inr (fun i => if i < 11 then some (rr i) else none)))))), ((rr 0), .inl (cJ, 91, .inr (.inl (FF 0)))), ((rr 1), .inl (cJ, 91, .inr (.inl (FF 1)))), ((rr 2), .inl (cJ, 91, .inr (.inl (FF 2)))), ((rr 3), .inl (cJ, 91, .inr (.inl (FF 3)))), ((rr 4), .inl (cJ, 91, .inr (.inl (FF 4)))), ((rr 5), .inl (cJ, 91, .inr (.inl (FF 5)))), ((rr 6), .inl (cJ, 91, .inr (.inl (FF 6)))), ((rr 7), .inl (cJ, 91, .inr (.inl (FF 7)))), ((rr 8), .inl (cJ, 91, .inr (.inl (FF 8)))), ((rr 9), .inl (cJ, 91, .inr (.inl (FF 9)))), ((rr 10), .inl (cJ, 91, .inr (.inl (FF 10))))] s.heap.size = A at hD hE ⊢
  have hA : ∀ q : Nat, s.heap.size ≤ q → A q := fun q h => by rw [← hAe]; exact Or.inr h
  have hS : va_S A s.heap s.heap [] := va_S.rf
  have hl := lv_entry ([.ref h0, .int p0, .int p1]) (n := 3) (Nat.le_of_ble_eq_true rfl)
  rw [lg_entry_eq]
  generalize (lg_sl ([.ref h0, .int p0, .int p1]) ++ List.replicate (3 - (lg_sl ([.ref h0, .int p0, .int p1])).length) Slot.unset).toArray = ls at hl ⊢
  have hl : lv_has ls 3 [(0, .ref h0), (1, .int p0), (2, .int p1)] := hl
  refine lv_iload_n hx hb dX5_many_0 rfl (lv_at hl 1 rfl) ?_
  refine lv_iload_n hx hb dX5_many_1 rfl (lv_at hl 2 rfl) ?_
  have hS0 := hS
  have hFc := va_free (wc := []) hD hS hA [] rfl
  refine va_callv (va_runS (As := [.int p0, .int p1]) (rest := []) ⟨hx, hb, hml, hown, hts⟩ (c_X5_needRows_ok l κ D (s.heap).size (p0) (p1) ((by rw [e0, toI_1, toI_10, nI_toInt (by omega)]; omega)) ((by rw [e1, toI_0, toI_50, nI_toInt (by omega)]; omega))) (va_cwS 2 hts gd_c_X5_many_ok_2 rfl rfl rfl (by decide +kernel) ⟨(Nat.le_of_ble_eq_true rfl), (Nat.le_of_ble_eq_true rfl)⟩) (preS hE hK hP hD hS hA [] rfl (by decide) [] rfl) rfl rfl hl.1 rfl (lv_room (Nat.le_of_ble_eq_true rfl)) dX5_many_2 ⟨(Nat.le_of_ble_eq_true rfl), (Nat.le_of_ble_eq_true rfl)⟩) hS (fun q _ h => hFc q h) hFc (fun u t H1 locs ht hvm hw hB hz1 hk1 hS => ?_)
  try dsimp only at hw
  obtain ⟨hP, hD, hK⟩ := jn (wc := []) (wr := [(h0, .inr (12, [.ref o0, .int 0, .ref g0, .ref o2, .ref o3, .ref o4, .ref o5, .int 0, .ref o6])), (o4, .inr (10, [.ref q0])), (q0, .inl (cO, 11, .inr (.inr (.inr (.inr (fun i => if i < 11 then some (rr i) else none)))))), ((rr 0), .inl (cJ, 91, .inr (.inl (FF 0)))), ((rr 1), .inl (cJ, 91, .inr (.inl (FF 1)))), ((rr 2), .inl (cJ, 91, .inr (.inl (FF 2)))), ((rr 3), .inl (cJ, 91, .inr (.inl (FF 3)))), ((rr 4), .inl (cJ, 91, .inr (.inl (FF 4)))), ((rr 5), .inl (cJ, 91, .inr (.inl (FF 5)))), ((rr 6), .inl (cJ, 91, .inr (.inl (FF 6)))), ((rr 7), .inl (cJ, 91, .inr (.inl (FF 7)))), ((rr 8), .inl (cJ, 91, .inr (.inl (FF 8)))), ((rr 9), .inl (cJ, 91, .inr (.inl (FF 9)))), ((rr 10), .inl (cJ, 91, .inr (.inl (FF 10))))]) (w1 := []) (t1 := []) hP hD hK hS0 hA [] [0, 1, 2, 3, 4, 5, 6, 7, 8, 9, 10, 11, 12, 13] rfl rfl (by decide) (by decide) ht hvm hk1 hB
  generalize H1 = H at hP hS ⊢
  have hP : va_P D vwCl ([(h0, .inr (12, [.ref o0, .int 0, .ref g0, .ref o2, .ref o3, .ref o4, .ref o5, .int 0, .ref o6])), (o4, .inr (10, [.ref q0])), (q0, .inl (cO, 11, .inr (.inr (.inr (.inr (fun i => if i < 11 then some (rr i) else none)))))), ((rr 0), .inl (cJ, 91, .inr (.inl (FF 0)))), ((rr 1), .inl (cJ, 91, .inr (.inl (FF 1)))), ((rr 2), .inl (cJ, 91, .inr (.inl (FF 2)))), ((rr 3), .inl (cJ, 91, .inr (.inl (FF 3)))), ((rr 4), .inl (cJ, 91, .inr (.inl (FF 4)))), ((rr 5), .inl (cJ, 91, .inr (.inl (FF 5)))), ((rr 6), .inl (cJ, 91, .inr (.inl (FF 6)))), ((rr 7), .inl (cJ, 91, .inr (.inl (FF 7)))), ((rr 8), .inl (cJ, 91, .inr (.inl (FF 8)))), ((rr 9), .inl (cJ, 91, .inr (.inl (FF 9)))), ((rr 10), .inl (cJ, 91, .inr (.inl (FF 10))))]) H := hP
  have hD : va_D A ([(h0, .inr (12, [.ref o0, .int 0, .ref g0, .ref o2, .ref o3, .ref o4, .ref o5, .int 0, .ref o6])), (o4, .inr (10, [.ref q0])), (q0, .inl (cO, 11, .inr (.inr (.inr (.inr (fun i => if i < 11 then some (rr i) else none)))))), ((rr 0), .inl (cJ, 91, .inr (.inl (FF 0)))), ((rr 1), .inl (cJ, 91, .inr (.inl (FF 1)))), ((rr 2), .inl (cJ, 91, .inr (.inl (FF 2)))), ((rr 3), .inl (cJ, 91, .inr (.inl (FF 3)))), ((rr 4), .inl (cJ, 91, .inr (.inl (FF 4)))), ((rr 5), .inl (cJ, 91, .inr (.inl (FF 5)))), ((rr 6), .inl (cJ, 91, .inr (.inl (FF 6)))), ((rr 7), .inl (cJ, 91, .inr (.inl (FF 7)))), ((rr 8), .inl (cJ, 91, .inr (.inl (FF 8)))), ((rr 9), .inl (cJ, 91, .inr (.inl (FF 9)))), ((rr 10), .inl (cJ, 91, .inr (.inl (FF 10))))]) := hD
  have hK : va_K D vwCl [(cO, .array .long), (cJ, .long)] s := hK
  refine W.widen (k := 0) (n := 0) (Nat.le_of_ble_eq_true rfl) (Nat.le_of_ble_eq_true rfl) ?_
  refine lv_aload_n hx hb dX5_many_5 rfl (lv_at hl 0 rfl) ?_
  refine va_get (D := D) (ci := 12) (v := .ref o4) (C := RX5) (T := TX5) (N := 9) hx hb hts iRX5 hown hK hP 0 rfl rfl 5 (by decide) (hts (.fieldLink RX5 42 "Sowingcourt" "rows" "LSowingcourt$Rows;") (by decide +kernel)) (fun _ h9 => h9) rfl dX5_many_6 ?_
  refine va_get (D := D) (ci := 10) (v := .ref q0) (C := RX3) (T := TX3) (N := 1) hx hb hts iRX3 hown hK hP 1 rfl rfl 0 (by decide) (hts (.fieldLink RX5 218 "Sowingcourt$Rows" "ways" "[[J") (by decide +kernel)) (fun _ h9 => h9) rfl dX5_many_9 ?_
  refine lv_iload_n hx hb dX5_many_12 rfl (lv_at hl 1 rfl) ?_
  refine va_aldg hx hb hK hP 2 0 rfl rfl (i := p0) (by rw [e0]; exact vp_in_nI hhs (by omega)) dX5_many_13 ?_
  refine W.eq (g2 := F0 m 14 ls [.ref (rr hs)]) (congrArg (fun z9 => F0 m 14 ls (z9 :: [])) (by rw [e0, nI_clamp (show hs < 2 ^ 31 by omega), if_pos hhs]; rfl)) ?_
  refine lv_iload_n hx hb dX5_many_14 rfl (lv_at hl 2 rfl) ?_
  refine va_lald hx hb hK hP (hs + 3) 1 (cA := cJ) (n := 91) (f := FF hs) (rows_at rr FF cJ hs hhs) rfl (i := p1) (by rw [e1]; exact vp_in_nI (by omega) (by omega)) dX5_many_15 ?_
  refine W.eq (g2 := F0 m 16 ls [.long (lN (WN hs sd))]) (congrArg (fun z9 => F0 m 16 ls (Value.long z9 :: [])) (show FF hs p1.toNatClampNeg = lN (WN hs sd) by rw [e1, nI_clamp (show sd < 2 ^ 31 by omega), hF hs hhs sd (by omega), WW_N])) ?_
  refine W.widen (k := 0) (n := 0) (Nat.le_of_ble_eq_true rfl) (Nat.le_of_ble_eq_true rfl) ?_
  exact W.lret (v := (lN (WN hs sd))) hx hb hr (fun t ht hW => ⟨⟨(lN (WN hs sd)), (), rfl, rfl, PB.at hP hK hD hW.alike ht [] rfl (by decide) [] rfl⟩, hS.F ht⟩) hS.2.2 dX5_many_16

def wm_c_X5_many_bad : List Cond := .code yX5_many cX5_many 3 (some .long) :: ([.code yX5_needRows cX5_needRows 2 none, .code yX5_isWithin cX5_isWithin 3 (some .boolean), .methodLink RX5 57 yX5_isWithin, .static yX5_isWithin, .initialized RX5, .classLink RX5 61 "java/lang/IllegalArgumentException", .initialized "java/lang/IllegalArgumentException", .methodLink RX5 215 yX5_needRows, .static yX5_needRows] ++ (vx_atS RX5 65 "java/lang/IllegalArgumentException" supX).filter goodWord)
set_option maxRecDepth 20000 in
theorem gd_c_X5_many_bad_2 : GoodIn wm_c_X5_many_bad (va_wsS RX5 215 yX5_needRows wm_c_X5_needRows_bad) := goodIn_of _ (by decide +kernel)
set_option maxHeartbeats 4000000 in
set_option maxRecDepth 100000 in
theorem c_X5_many_bad (l : Launch) (hl0 : l.stackTraces = false) (κ : Nat → Nat) (D : va_G) (sz : Nat) (h0 : Nat) (o0 : Nat) (g0 : Nat) (o2 : Nat) (o3 : Nat) (o4 : Nat) (o5 : Nat) (o6 : Nat) (p0 : Int32) (p1 : Int32) (hbad : ¬ (((1 : Int32).toInt ≤ p0.toInt ∧ p0.toInt ≤ (10 : Int32).toInt) ∧ ((0 : Int32).toInt ≤ p1.toInt ∧ p1.toInt ≤ (50 : Int32).toInt))) : vx_Met l yX5_many wm_c_X5_many_bad ({ frames := 10, cells := 1, slots := 6, locals := 320 }) (va_Pc [.ref h0, .int p0, .int p1] (PC κ D [] [(h0, .inr (12, [.ref o0, .int 0, .ref g0, .ref o2, .ref o3, .ref o4, .ref o5, .int 0, .ref o6]))] sz)) (va_Ql (fun (_ : Int64) (_ : Unit) => False) (fun _ _ => True) (va_A [(h0, .inr (12, [.ref o0, .int 0, .ref g0, .ref o2, .ref o3, .ref o4, .ref o5, .int 0, .ref o6]))] sz)) (XQ "java/lang/IllegalArgumentException" D [] [] (va_A [(h0, .inr (12, [.ref o0, .int 0, .ref g0, .ref o2, .ref o3, .ref o4, .ref o5, .int 0, .ref o6]))] sz)) 1 6 (va_A [(h0, .inr (12, [.ref o0, .int 0, .ref g0, .ref o2, .ref o3, .ref o4, .ref o5, .int 0, .ref o6]))] sz) := by
  refine vx_ofW (cc := cX5_many) (maxL := 3) (ret := (some .long)) (by decide +kernel) rfl ?_
  intro p e s m args below meth c s₁ B hml htab hv
  obtain ⟨rfl, hsz, hP, hK, hD0, hE⟩ := hv
  have hx := B.exec
  have hb := B.bytes
  have hr := B.returns
  have hts := atoms_spec (ws := wm_c_X5_many_bad) B.pre
  have hown : s.vm.findClass RX5 = some m.cls := findClass_of_methodNamed B.named
  have hlocks := B.notSynchronized
  subst hsz
  have hD := hD0.self (sz := s.heap.size)
  generalize hAe : va_A [(h0, .inr (12, [.ref o0, .int 0, .ref g0, .ref o2, .ref o3, .ref o4, .ref o5, .int 0, .ref o6]))] s.heap.size = A at hD hE ⊢
  have hA : ∀ q : Nat, s.heap.size ≤ q → A q := fun q h => by rw [← hAe]; exact Or.inr h
  have hS : va_S A s.heap s.heap [] := va_S.rf
  have hl := lv_entry ([.ref h0, .int p0, .int p1]) (n := 3) (Nat.le_of_ble_eq_true rfl)
  rw [lg_entry_eq]
  generalize (lg_sl ([.ref h0, .int p0, .int p1]) ++ List.replicate (3 - (lg_sl ([.ref h0, .int p0, .int p1])).length) Slot.unset).toArray = ls at hl ⊢
  have hl : lv_has ls 3 [(0, .ref h0), (1, .int p0), (2, .int p1)] := hl
  refine lv_iload_n hx hb dX5_many_0 rfl (lv_at hl 1 rfl) ?_
  refine lv_iload_n hx hb dX5_many_1 rfl (lv_at hl 2 rfl) ?_
  have hS0 := hS
  have hFc := va_free (wc := []) hD hS hA [] rfl
  refine vx_callv (vx_runS (As := [.int p0, .int p1]) (rest := []) ⟨hx, hb, hml, hown, hts⟩ (c_X5_needRows_bad l hl0 κ D (s.heap).size (p0) (p1) (hbad)) (va_cwS 2 hts gd_c_X5_many_bad_2 rfl rfl rfl (by decide +kernel) ⟨(Nat.le_of_ble_eq_true rfl), (Nat.le_of_ble_eq_true rfl)⟩) (preS hE hK hP hD hS hA [] rfl (by decide) [] rfl) rfl rfl hl.1 rfl (lv_room (Nat.le_of_ble_eq_true rfl)) dX5_many_2 ⟨(Nat.le_of_ble_eq_true rfl), (Nat.le_of_ble_eq_true rfl)⟩) hS (fun q _ h => hFc q h) hFc (fun q _ h => hFc q h) (fun E9 ce q9 u9 t H1 locs ht hvm _ hB hz1 hk1 hS hce hcv hcl => ?_) (fun _ _ _ _ _ _ hw => hw.elim)
  obtain ⟨rfl, hB⟩ := hB
  obtain ⟨hP, hD, hK⟩ := jn (wc := []) (wr := [(h0, .inr (12, [.ref o0, .int 0, .ref g0, .ref o2, .ref o3, .ref o4, .ref o5, .int 0, .ref o6]))]) (w1 := []) (t1 := []) hP hD hK hS0 hA [] [0] rfl rfl (by decide) (by decide) ht hvm hk1 hB
  generalize H1 = H at hP hS hce ⊢
  have hP : va_P D vwCl ([(h0, .inr (12, [.ref o0, .int 0, .ref g0, .ref o2, .ref o3, .ref o4, .ref o5, .int 0, .ref o6]))]) H := hP
  have hD : va_D A ([(h0, .inr (12, [.ref o0, .int 0, .ref g0, .ref o2, .ref o3, .ref o4, .ref o5, .int 0, .ref o6]))]) := hD
  have hK : va_K D vwCl [] s := hK
  refine vx_widen (k := 1) (n := 6) (Nat.le_of_ble_eq_true rfl) (Nat.le_of_ble_eq_true rfl) ?_
  exact vx_out (fun x hx => (htab x hx).elim) hlocks hce hcv hcl (fun t ht hal => ⟨(), trivial, ⟨rfl, PB.at hP hK hD hal ht [] rfl (by decide) [] rfl⟩, hS.F ht⟩) hS.2.2 (Nat.le_of_ble_eq_true rfl) (Nat.le_of_ble_eq_true rfl)

def wm_c_X5_inRow_ok : List Cond := .code yX5_inRow cX5_inRow 6 (some .int) :: ([.code yX5_needRows cX5_needRows 2 none, .code yX5_isWithin cX5_isWithin 3 (some .boolean), .methodLink RX5 57 yX5_isWithin, .static yX5_isWithin, .initialized RX5, .methodLink RX5 215 yX5_needRows, .static yX5_needRows, .fieldLink RX5 42 "Sowingcourt" "rows" "LSowingcourt$Rows;", .fieldLink RX5 218 "Sowingcourt$Rows" "ways" "[[J", .code yX3_seedsAt cX3_seedsAt 11 (some .int), .fieldLink RX3 11 "Sowingcourt$Rows" "ways" "[[J", .methodLink RX5 230 yX3_seedsAt, .instanceMethod yX3_seedsAt, .selects RX3 yX3_seedsAt yX3_seedsAt, .initialized RX3] ++ wsX50 ++ wsX30)
set_option maxRecDepth 20000 in
theorem gd_c_X5_inRow_ok_2 : GoodIn wm_c_X5_inRow_ok (va_wsS RX5 215 yX5_needRows wm_c_X5_needRows_ok) := goodIn_of _ (by decide +kernel)
set_option maxRecDepth 20000 in
theorem gd_c_X5_inRow_ok_43 : GoodIn wm_c_X5_inRow_ok (va_wsS RX5 57 yX5_isWithin wm_c_X5_isWithin) := goodIn_of _ (by decide +kernel)
set_option maxRecDepth 20000 in
theorem gd_c_X5_inRow_ok_68 : GoodIn wm_c_X5_inRow_ok (wsV RX5 230 RX3 yX3_seedsAt wm_c_X3_seedsAt) := goodIn_of _ (by decide +kernel)
set_option maxHeartbeats 4000000 in
set_option maxRecDepth 100000 in
theorem c_X5_inRow_ok (l : Launch) (κ : Nat → Nat) (D : va_G) (sz : Nat) (h0 : Nat) (o0 : Nat) (g0 : Nat) (o2 : Nat) (o3 : Nat) (o4 : Nat) (o5 : Nat) (o6 : Nat) (q0 : Nat) (cO : ClassId) (cJ : ClassId) (rr : Nat → Nat) (FF : Nat → Nat → Int64) (p0 : Int32) (p1 : Int32) (p2 : Int64) (p3 : Int32) (hs : Nat) (sd : Nat) (nn : Nat) (kk : Nat) (e0 : p0 = nI hs) (e1 : p1 = nI sd) (h1s : 0 < hs) (hhs : hs < 11) (hsd : sd < 51) (e2 : p2 = lN nn) (hnn : nn < WN hs sd) (e3 : p3 = nI kk) (hkk : kk < hs) (hF : ∀ k, k < 11 → ∀ z, z < 91 → FF k z = WW k z) : Met l yX5_inRow wm_c_X5_inRow_ok ({ frames := 10, cells := 0, slots := 0, locals := 320 }) (va_Pc [.ref h0, .int p0, .int p1, .long p2, .int p3] (PC κ D [(cO, .array .long), (cJ, .long)] [(h0, .inr (12, [.ref o0, .int 0, .ref g0, .ref o2, .ref o3, .ref o4, .ref o5, .int 0, .ref o6])), (o4, .inr (10, [.ref q0])), (q0, .inl (cO, 11, .inr (.inr (.inr (.inr (fun i => if i < 11 then some (rr i) else none)))))), ((rr 0), .inl (cJ, 91, .inr (.inl (FF 0)))), ((rr 1), .inl (cJ, 91, .inr (.inl (FF 1)))), ((rr 2), .inl (cJ, 91, .inr (.inl (FF 2)))), ((rr 3), .inl (cJ, 91, .inr (.inl (FF 3)))), ((rr 4), .inl (cJ, 91, .inr (.inl (FF 4)))), ((rr 5), .inl (cJ, 91, .inr (.inl (FF 5)))), ((rr 6), .inl (cJ, 91, .inr (.inl (FF 6)))), ((rr 7), .inl (cJ, 91, .inr (.inl (FF 7)))), ((rr 8), .inl (cJ, 91, .inr (.inl (FF 8)))), ((rr 9), .inl (cJ, 91, .inr (.inl (FF 9)))), ((rr 10), .inl (cJ, 91, .inr (.inl (FF 10))))] sz)) (va_Qi (fun (r : Int32) (_ : Unit) => r = nI (IR hs kk sd nn)) (fun _ t => PB D [] [] (va_A [(h0, .inr (12, [.ref o0, .int 0, .ref g0, .ref o2, .ref o3, .ref o4, .ref o5, .int 0, .ref o6])), (o4, .inr (10, [.ref q0])), (q0, .inl (cO, 11, .inr (.inr (.inr (.inr (fun i => if i < 11 then some (rr i) else none)))))), ((rr 0), .inl (cJ, 91, .inr (.inl (FF 0)))), ((rr 1), .inl (cJ, 91, .inr (.inl (FF 1)))), ((rr 2), .inl (cJ, 91, .inr (.inl (FF 2)))), ((rr 3), .inl (cJ, 91, .inr (.inl (FF 3)))), ((rr 4), .inl (cJ, 91, .inr (.inl (FF 4)))), ((rr 5), .inl (cJ, 91, .inr (.inl (FF 5)))), ((rr 6), .inl (cJ, 91, .inr (.inl (FF 6)))), ((rr 7), .inl (cJ, 91, .inr (.inl (FF 7)))), ((rr 8), .inl (cJ, 91, .inr (.inl (FF 8)))), ((rr 9), .inl (cJ, 91, .inr (.inl (FF 9)))), ((rr 10), .inl (cJ, 91, .inr (.inl (FF 10))))] sz) t) (va_A [(h0, .inr (12, [.ref o0, .int 0, .ref g0, .ref o2, .ref o3, .ref o4, .ref o5, .int 0, .ref o6])), (o4, .inr (10, [.ref q0])), (q0, .inl (cO, 11, .inr (.inr (.inr (.inr (fun i => if i < 11 then some (rr i) else none)))))), ((rr 0), .inl (cJ, 91, .inr (.inl (FF 0)))), ((rr 1), .inl (cJ, 91, .inr (.inl (FF 1)))), ((rr 2), .inl (cJ, 91, .inr (.inl (FF 2)))), ((rr 3), .inl (cJ, 91, .inr (.inl (FF 3)))), ((rr 4), .inl (cJ, 91, .inr (.inl (FF 4)))), ((rr 5), .inl (cJ, 91, .inr (.inl (FF 5)))), ((rr 6), .inl (cJ, 91, .inr (.inl (FF 6)))), ((rr 7), .inl (cJ, 91, .inr (.inl (FF 7)))), ((rr 8), .inl (cJ, 91, .inr (.inl (FF 8)))), ((rr 9), .inl (cJ, 91, .inr (.inl (FF 9)))), ((rr 10), .inl (cJ, 91, .inr (.inl (FF 10))))] sz)) 0 0 (va_A [(h0, .inr (12, [.ref o0, .int 0, .ref g0, .ref o2, .ref o3, .ref o4, .ref o5, .int 0, .ref o6])), (o4, .inr (10, [.ref q0])), (q0, .inl (cO, 11, .inr (.inr (.inr (.inr (fun i => if i < 11 then some (rr i) else none)))))), ((rr 0), .inl (cJ, 91, .inr (.inl (FF 0)))), ((rr 1), .inl (cJ, 91, .inr (.inl (FF 1)))), ((rr 2), .inl (cJ, 91, .inr (.inl (FF 2)))), ((rr 3), .inl (cJ, 91, .inr (.inl (FF 3)))), ((rr 4), .inl (cJ, 91, .inr (.inl (FF 4)))), ((rr 5), .inl (cJ, 91, .inr (.inl (FF 5)))), ((rr 6), .inl (cJ, 91, .inr (.inl (FF 6)))), ((rr 7), .inl (cJ, 91, .inr (.inl (FF 7)))), ((rr 8), .inl (cJ, 91, .inr (.inl (FF 8)))), ((rr 9), .inl (cJ, 91, .inr (.inl (FF 9)))), ((rr 10), .inl (cJ, 91, .inr (.inl (FF 10))))] sz) := by
  refine Met.ofW (cc := cX5_inRow) (maxL := 6) (ret := (some .int)) (by decide +kernel) rfl ?_
  intro p e s m args below meth c s₁ B hml hv
  obtain ⟨rfl, hsz, hP, hK, hD0, hE⟩ := hv
  have hx := B.exec
  have hb := B.bytes
  have hr := B.returns
  have hts := atoms_spec (ws := wm_c_X5_inRow_ok) B.pre
  have hown : s.vm.findClass RX5 = some m.cls := findClass_of_methodNamed B.named
  have hlocks := B.notSynchronized
  have iRX5 : ∀ w ∈ u_ws RX5 TX5 9, w ∈ wm_c_X5_inRow_ok := by decide +kernel
  have iRX3 : ∀ w ∈ u_ws RX3 TX3 1, w ∈ wm_c_X5_inRow_ok := by decide +kernel
  subst hsz
  have hD := hD0.self (sz := s.heap.size)
  generalize hAe : va_A [(h0, .inr (12, [.ref o0, .int 0, .ref g0, .ref o2, .ref o3, .ref o4, .ref o5, .int 0, .ref o6])), (o4, .inr (10, [.ref q0])), (q0, .inl (cO, 11, .inr (.inr (.inr (.inr (fun i => if i < 11 then some (rr i) else none)))))), ((rr 0), .inl (cJ, 91, .inr (.inl (FF 0)))), ((rr 1), .inl (cJ, 91, .inr (.inl (FF 1)))), ((rr 2), .inl (cJ, 91, .inr (.inl (FF 2)))), ((rr 3), .inl (cJ, 91, .inr (.inl (FF 3)))), ((rr 4), .inl (cJ, 91, .inr (.inl (FF 4)))), ((rr 5), .inl (cJ, 91, .inr (.inl (FF 5)))), ((rr 6), .inl (cJ, 91, .inr (.inl (FF 6)))), ((rr 7), .inl (cJ, 91, .inr (.inl (FF 7)))), ((rr 8), .inl (cJ, 91, .inr (.inl (FF 8)))), ((rr 9), .inl (cJ, 91, .inr (.inl (FF 9)))), ((rr 10), .inl (cJ, 91, .inr (.inl (FF 10))))] s.heap.size = A at hD hE ⊢
  have hA : ∀ q : Nat, s.heap.size ≤ q → A q := fun q h => by rw [← hAe]; exact Or.inr h
  have hS : va_S A s.heap s.heap [] := va_S.rf
  have hl := lv_entry ([.ref h0, .int p0, .int p1, .long p2, .int p3]) (n := 6) (Nat.le_of_ble_eq_true rfl)
  rw [lg_entry_eq]
  generalize (lg_sl ([.ref h0, .int p0, .int p1, .long p2, .int p3]) ++ List.replicate (6 - (lg_sl ([.ref h0, .int p0, .int p1, .long p2, .int p3])).length) Slot.unset).toArray = ls at hl ⊢
  have hl : lv_has ls 6 [(0, .ref h0), (1, .int p0), (2, .int p1), (3, .long p2), (5, .int p3)] := hl
  refine lv_iload_n hx hb dX5_inRow_0 rfl (lv_at hl 1 rfl) ?_
  refine lv_iload_n hx hb dX5_inRow_1 rfl (lv_at hl 2 rfl) ?_
  have hS0 := hS
  have hFc := va_free (wc := []) hD hS hA [] rfl
  refine va_callv (va_runS (As := [.int p0, .int p1]) (rest := []) ⟨hx, hb, hml, hown, hts⟩ (c_X5_needRows_ok l κ D (s.heap).size (p0) (p1) ((by rw [e0, toI_1, toI_10, nI_toInt (by omega)]; omega)) ((by rw [e1, toI_0, toI_50, nI_toInt (by omega)]; omega))) (va_cwS 2 hts gd_c_X5_inRow_ok_2 rfl rfl rfl (by decide +kernel) ⟨(Nat.le_of_ble_eq_true rfl), (Nat.le_of_ble_eq_true rfl)⟩) (preS hE hK hP hD hS hA [] rfl (by decide) [] rfl) rfl rfl hl.1 rfl (lv_room (Nat.le_of_ble_eq_true rfl)) dX5_inRow_2 ⟨(Nat.le_of_ble_eq_true rfl), (Nat.le_of_ble_eq_true rfl)⟩) hS (fun q _ h => hFc q h) hFc (fun u t H1 locs ht hvm hw hB hz1 hk1 hS => ?_)
  try dsimp only at hw
  obtain ⟨hP, hD, hK⟩ := jn (wc := []) (wr := [(h0, .inr (12, [.ref o0, .int 0, .ref g0, .ref o2, .ref o3, .ref o4, .ref o5, .int 0, .ref o6])), (o4, .inr (10, [.ref q0])), (q0, .inl (cO, 11, .inr (.inr (.inr (.inr (fun i => if i < 11 then some (rr i) else none)))))), ((rr 0), .inl (cJ, 91, .inr (.inl (FF 0)))), ((rr 1), .inl (cJ, 91, .inr (.inl (FF 1)))), ((rr 2), .inl (cJ, 91, .inr (.inl (FF 2)))), ((rr 3), .inl (cJ, 91, .inr (.inl (FF 3)))), ((rr 4), .inl (cJ, 91, .inr (.inl (FF 4)))), ((rr 5), .inl (cJ, 91, .inr (.inl (FF 5)))), ((rr 6), .inl (cJ, 91, .inr (.inl (FF 6)))), ((rr 7), .inl (cJ, 91, .inr (.inl (FF 7)))), ((rr 8), .inl (cJ, 91, .inr (.inl (FF 8)))), ((rr 9), .inl (cJ, 91, .inr (.inl (FF 9)))), ((rr 10), .inl (cJ, 91, .inr (.inl (FF 10))))]) (w1 := []) (t1 := []) hP hD hK hS0 hA [] [0, 1, 2, 3, 4, 5, 6, 7, 8, 9, 10, 11, 12, 13] rfl rfl (by decide) (by decide) ht hvm hk1 hB
  generalize H1 = H at hP hS ⊢
  have hP : va_P D vwCl ([(h0, .inr (12, [.ref o0, .int 0, .ref g0, .ref o2, .ref o3, .ref o4, .ref o5, .int 0, .ref o6])), (o4, .inr (10, [.ref q0])), (q0, .inl (cO, 11, .inr (.inr (.inr (.inr (fun i => if i < 11 then some (rr i) else none)))))), ((rr 0), .inl (cJ, 91, .inr (.inl (FF 0)))), ((rr 1), .inl (cJ, 91, .inr (.inl (FF 1)))), ((rr 2), .inl (cJ, 91, .inr (.inl (FF 2)))), ((rr 3), .inl (cJ, 91, .inr (.inl (FF 3)))), ((rr 4), .inl (cJ, 91, .inr (.inl (FF 4)))), ((rr 5), .inl (cJ, 91, .inr (.inl (FF 5)))), ((rr 6), .inl (cJ, 91, .inr (.inl (FF 6)))), ((rr 7), .inl (cJ, 91, .inr (.inl (FF 7)))), ((rr 8), .inl (cJ, 91, .inr (.inl (FF 8)))), ((rr 9), .inl (cJ, 91, .inr (.inl (FF 9)))), ((rr 10), .inl (cJ, 91, .inr (.inl (FF 10))))]) H := hP
  have hD : va_D A ([(h0, .inr (12, [.ref o0, .int 0, .ref g0, .ref o2, .ref o3, .ref o4, .ref o5, .int 0, .ref o6])), (o4, .inr (10, [.ref q0])), (q0, .inl (cO, 11, .inr (.inr (.inr (.inr (fun i => if i < 11 then some (rr i) else none)))))), ((rr 0), .inl (cJ, 91, .inr (.inl (FF 0)))), ((rr 1), .inl (cJ, 91, .inr (.inl (FF 1)))), ((rr 2), .inl (cJ, 91, .inr (.inl (FF 2)))), ((rr 3), .inl (cJ, 91, .inr (.inl (FF 3)))), ((rr 4), .inl (cJ, 91, .inr (.inl (FF 4)))), ((rr 5), .inl (cJ, 91, .inr (.inl (FF 5)))), ((rr 6), .inl (cJ, 91, .inr (.inl (FF 6)))), ((rr 7), .inl (cJ, 91, .inr (.inl (FF 7)))), ((rr 8), .inl (cJ, 91, .inr (.inl (FF 8)))), ((rr 9), .inl (cJ, 91, .inr (.inl (FF 9)))), ((rr 10), .inl (cJ, 91, .inr (.inl (FF 10))))]) := hD
  have hK : va_K D vwCl [(cO, .array .long), (cJ, .long)] s := hK
  refine W.widen (k := 0) (n := 0) (Nat.le_of_ble_eq_true rfl) (Nat.le_of_ble_eq_true rfl) ?_
  refine lv_lload_n hx hb dX5_inRow_5 rfl (lv_at hl 3 rfl) ?_
  refine lv_lconst (v := 0) hx hb dX5_inRow_6 (by decide) ?_
  refine W.lcmp hx hb dX5_inRow_7 ?_
  refine lv_if_lt (tgt := 27) hx hb dX5_inRow_8 (by decide) (fun c_8 => absurd ((lg_cmp_lt _ _).mp c_8) (by rw [e2, show (0 : Int64) = lN 0 from rfl, pk_lLT (by have := WN_b hhs hsd; omega) (by omega)]; omega)) (fun c_8 => ?_)
  refine lv_lload_n hx hb dX5_inRow_11 rfl (lv_at hl 3 rfl) ?_
  refine lv_aload_n hx hb dX5_inRow_12 rfl (lv_at hl 0 rfl) ?_
  refine va_get (D := D) (ci := 12) (v := .ref o4) (C := RX5) (T := TX5) (N := 9) hx hb hts iRX5 hown hK hP 0 rfl rfl 5 (by decide) (hts (.fieldLink RX5 42 "Sowingcourt" "rows" "LSowingcourt$Rows;") (by decide +kernel)) (fun _ h9 => h9) rfl dX5_inRow_13 ?_
  refine va_get (D := D) (ci := 10) (v := .ref q0) (C := RX3) (T := TX3) (N := 1) hx hb hts iRX3 hown hK hP 1 rfl rfl 0 (by decide) (hts (.fieldLink RX5 218 "Sowingcourt$Rows" "ways" "[[J") (by decide +kernel)) (fun _ h9 => h9) rfl dX5_inRow_16 ?_
  refine lv_iload_n hx hb dX5_inRow_19 rfl (lv_at hl 1 rfl) ?_
  refine va_aldg hx hb hK hP 2 0 rfl rfl (i := p0) (by rw [e0]; exact vp_in_nI hhs (by omega)) dX5_inRow_20 ?_
  refine W.eq (g2 := F0 m 21 ls [.ref (rr hs), .long p2]) (congrArg (fun z9 => F0 m 21 ls (z9 :: [.long p2])) (by rw [e0, nI_clamp (show hs < 2 ^ 31 by omega), if_pos hhs]; rfl)) ?_
  refine lv_iload_n hx hb dX5_inRow_21 rfl (lv_at hl 2 rfl) ?_
  refine va_lald hx hb hK hP (hs + 3) 1 (cA := cJ) (n := 91) (f := FF hs) (rows_at rr FF cJ hs hhs) rfl (i := p1) (by rw [e1]; exact vp_in_nI (by omega) (by omega)) dX5_inRow_22 ?_
  refine W.eq (g2 := F0 m 23 ls [.long (lN (WN hs sd)), .long p2]) (congrArg (fun z9 => F0 m 23 ls (Value.long z9 :: [.long p2])) (show FF hs p1.toNatClampNeg = lN (WN hs sd) by rw [e1, nI_clamp (show sd < 2 ^ 31 by omega), hF hs hhs sd (by omega), WW_N])) ?_
  refine W.lcmp hx hb dX5_inRow_23 ?_
  refine lv_if_lt (tgt := 37) hx hb dX5_inRow_24 (by decide) (fun c_24 => ?_) (fun c_24 => absurd ((lg_cmp_lt _ _).mpr (by rw [e2]; exact (pk_lLT (by have := WN_b hhs hsd; omega) (by have := WN_b hhs hsd; omega)).mpr hnn)) c_24)
  refine lv_iload hx hb dX5_inRow_37 (lv_at hl 4 rfl) ?_
  refine lv_iconst (v := 0) hx hb dX5_inRow_39 (by decide) ?_
  refine lv_iload_n hx hb dX5_inRow_40 rfl (lv_at hl 1 rfl) ?_
  refine lv_iconst (v := 1) hx hb dX5_inRow_41 (by decide) ?_
  refine lv_isub hx hb dX5_inRow_42 ?_
  refine lv_topi (fun v_2 ev_2 => ?_)
  have ev_2 : v_2 = nI (hs - 1) := ev_2.trans (by rw [e0, show (1 : Int32) = nI 1 from rfl, pk_sub (by omega)])
  subst ev_2
  have hS0 := hS
  have hFc := va_free (wc := []) hD hS hA [] rfl
  refine va_calli (va_runS (As := [.int p3, .int 0, .int (nI (hs - 1))]) (rest := []) ⟨hx, hb, hml, hown, hts⟩ (c_X5_isWithin l κ D (H).size (p3) (0) ((nI (hs - 1))) ) (va_cwS 3 hts gd_c_X5_inRow_ok_43 rfl rfl rfl (by decide +kernel) ⟨(Nat.le_of_ble_eq_true rfl), (Nat.le_of_ble_eq_true rfl)⟩) (preS hE hK hP hD hS hA [] rfl (by decide) [] rfl) rfl rfl hl.1 rfl (lv_room (Nat.le_of_ble_eq_true rfl)) dX5_inRow_43 ⟨(Nat.le_of_ble_eq_true rfl), (Nat.le_of_ble_eq_true rfl)⟩) hS (fun q _ h => hFc q h) hFc (fun r_3 u t H1 locs ht hvm hw hB hz1 hk1 hS => ?_)
  try dsimp only at hw
  obtain ⟨hP, hD, hK⟩ := jn (wc := []) (wr := [(h0, .inr (12, [.ref o0, .int 0, .ref g0, .ref o2, .ref o3, .ref o4, .ref o5, .int 0, .ref o6])), (o4, .inr (10, [.ref q0])), (q0, .inl (cO, 11, .inr (.inr (.inr (.inr (fun i => if i < 11 then some (rr i) else none)))))), ((rr 0), .inl (cJ, 91, .inr (.inl (FF 0)))), ((rr 1), .inl (cJ, 91, .inr (.inl (FF 1)))), ((rr 2), .inl (cJ, 91, .inr (.inl (FF 2)))), ((rr 3), .inl (cJ, 91, .inr (.inl (FF 3)))), ((rr 4), .inl (cJ, 91, .inr (.inl (FF 4)))), ((rr 5), .inl (cJ, 91, .inr (.inl (FF 5)))), ((rr 6), .inl (cJ, 91, .inr (.inl (FF 6)))), ((rr 7), .inl (cJ, 91, .inr (.inl (FF 7)))), ((rr 8), .inl (cJ, 91, .inr (.inl (FF 8)))), ((rr 9), .inl (cJ, 91, .inr (.inl (FF 9)))), ((rr 10), .inl (cJ, 91, .inr (.inl (FF 10))))]) (w1 := []) (t1 := []) hP hD hK hS0 hA [] [0, 1, 2, 3, 4, 5, 6, 7, 8, 9, 10, 11, 12, 13] rfl rfl (by decide) (by decide) ht hvm hk1 hB
  generalize H1 = H at hP hS ⊢
  have hP : va_P D vwCl ([(h0, .inr (12, [.ref o0, .int 0, .ref g0, .ref o2, .ref o3, .ref o4, .ref o5, .int 0, .ref o6])), (o4, .inr (10, [.ref q0])), (q0, .inl (cO, 11, .inr (.inr (.inr (.inr (fun i => if i < 11 then some (rr i) else none)))))), ((rr 0), .inl (cJ, 91, .inr (.inl (FF 0)))), ((rr 1), .inl (cJ, 91, .inr (.inl (FF 1)))), ((rr 2), .inl (cJ, 91, .inr (.inl (FF 2)))), ((rr 3), .inl (cJ, 91, .inr (.inl (FF 3)))), ((rr 4), .inl (cJ, 91, .inr (.inl (FF 4)))), ((rr 5), .inl (cJ, 91, .inr (.inl (FF 5)))), ((rr 6), .inl (cJ, 91, .inr (.inl (FF 6)))), ((rr 7), .inl (cJ, 91, .inr (.inl (FF 7)))), ((rr 8), .inl (cJ, 91, .inr (.inl (FF 8)))), ((rr 9), .inl (cJ, 91, .inr (.inl (FF 9)))), ((rr 10), .inl (cJ, 91, .inr (.inl (FF 10))))]) H := hP
  have hD : va_D A ([(h0, .inr (12, [.ref o0, .int 0, .ref g0, .ref o2, .ref o3, .ref o4, .ref o5, .int 0, .ref o6])), (o4, .inr (10, [.ref q0])), (q0, .inl (cO, 11, .inr (.inr (.inr (.inr (fun i => if i < 11 then some (rr i) else none)))))), ((rr 0), .inl (cJ, 91, .inr (.inl (FF 0)))), ((rr 1), .inl (cJ, 91, .inr (.inl (FF 1)))), ((rr 2), .inl (cJ, 91, .inr (.inl (FF 2)))), ((rr 3), .inl (cJ, 91, .inr (.inl (FF 3)))), ((rr 4), .inl (cJ, 91, .inr (.inl (FF 4)))), ((rr 5), .inl (cJ, 91, .inr (.inl (FF 5)))), ((rr 6), .inl (cJ, 91, .inr (.inl (FF 6)))), ((rr 7), .inl (cJ, 91, .inr (.inl (FF 7)))), ((rr 8), .inl (cJ, 91, .inr (.inl (FF 8)))), ((rr 9), .inl (cJ, 91, .inr (.inl (FF 9)))), ((rr 10), .inl (cJ, 91, .inr (.inl (FF 10))))]) := hD
  have hK : va_K D vwCl [(cO, .array .long), (cJ, .long)] s := hK
  refine W.widen (k := 0) (n := 0) (Nat.le_of_ble_eq_true rfl) (Nat.le_of_ble_eq_true rfl) ?_
  have hw : r_3 = 1 := hw.trans (if_pos (by rw [e3, toI_0, nI_toInt (by omega), nI_toInt (by omega)]; omega))
  subst hw
  refine lv_if_ne (tgt := 59) hx hb dX5_inRow_46 (by decide) (fun _ => ?_) (fun c_46 => absurd c_46 (by decide))
  refine lv_aload_n hx hb dX5_inRow_59 rfl (lv_at hl 0 rfl) ?_
  refine va_get (D := D) (ci := 12) (v := .ref o4) (C := RX5) (T := TX5) (N := 9) hx hb hts iRX5 hown hK hP 0 rfl rfl 5 (by decide) (hts (.fieldLink RX5 42 "Sowingcourt" "rows" "LSowingcourt$Rows;") (by decide +kernel)) (fun _ h9 => h9) rfl dX5_inRow_60 ?_
  refine lv_iload_n hx hb dX5_inRow_63 rfl (lv_at hl 1 rfl) ?_
  refine lv_iload_n hx hb dX5_inRow_64 rfl (lv_at hl 2 rfl) ?_
  refine lv_lload_n hx hb dX5_inRow_65 rfl (lv_at hl 3 rfl) ?_
  refine lv_iload hx hb dX5_inRow_66 (lv_at hl 4 rfl) ?_
  have hS0 := hS
  have hFc := va_free (wc := [(o4, .inr (10, [.ref q0])), (q0, .inl (cO, 11, .inr (.inr (.inr (.inr (fun i => if i < 11 then some (rr i) else none)))))), ((rr 0), .inl (cJ, 91, .inr (.inl (FF 0)))), ((rr 1), .inl (cJ, 91, .inr (.inl (FF 1)))), ((rr 2), .inl (cJ, 91, .inr (.inl (FF 2)))), ((rr 3), .inl (cJ, 91, .inr (.inl (FF 3)))), ((rr 4), .inl (cJ, 91, .inr (.inl (FF 4)))), ((rr 5), .inl (cJ, 91, .inr (.inl (FF 5)))), ((rr 6), .inl (cJ, 91, .inr (.inl (FF 6)))), ((rr 7), .inl (cJ, 91, .inr (.inl (FF 7)))), ((rr 8), .inl (cJ, 91, .inr (.inl (FF 8)))), ((rr 9), .inl (cJ, 91, .inr (.inl (FF 9)))), ((rr 10), .inl (cJ, 91, .inr (.inl (FF 10))))]) hD hS hA [1, 2, 3, 4, 5, 6, 7, 8, 9, 10, 11, 12, 13] rfl
  refine va_calli (va_runV (As := [.int p0, .int p1, .long p2, .int p3]) (rest := []) ⟨hx, hb, hml, hown, hts⟩ (c_X3_seedsAt l κ D (H).size (o4) (q0) (cO) (cJ) (rr) (FF) (p0) (p1) (p2) (p3) (hs) (sd) (nn) (kk) (e0) (e1) (e2) (e3) (hhs) (hkk) (hsd) ((Nat.lt_trans hnn (WN_b hhs hsd))) (hF)) (cwV 4 hts gd_c_X5_inRow_ok_68 rfl rfl rfl (by decide +kernel) ⟨(Nat.le_of_ble_eq_true rfl), (Nat.le_of_ble_eq_true rfl)⟩) (preV hE hK hP hD hS hA [1, 2, 3, 4, 5, 6, 7, 8, 9, 10, 11, 12, 13] rfl (by decide) [0, 1] rfl (va_recv hK hP (ci := 10) (q0 := 1) rfl rfl)) rfl rfl hl.1 rfl (lv_room (Nat.le_of_ble_eq_true rfl)) dX5_inRow_68 ⟨(Nat.le_of_ble_eq_true rfl), (Nat.le_of_ble_eq_true rfl)⟩) hS (fun q _ h => hFc q h) hFc (fun r_4 u t H1 locs ht hvm hw hB hz1 hk1 hS => ?_)
  try dsimp only at hw
  obtain ⟨hP, hD, hK⟩ := jn (wc := [(o4, .inr (10, [.ref q0])), (q0, .inl (cO, 11, .inr (.inr (.inr (.inr (fun i => if i < 11 then some (rr i) else none)))))), ((rr 0), .inl (cJ, 91, .inr (.inl (FF 0)))), ((rr 1), .inl (cJ, 91, .inr (.inl (FF 1)))), ((rr 2), .inl (cJ, 91, .inr (.inl (FF 2)))), ((rr 3), .inl (cJ, 91, .inr (.inl (FF 3)))), ((rr 4), .inl (cJ, 91, .inr (.inl (FF 4)))), ((rr 5), .inl (cJ, 91, .inr (.inl (FF 5)))), ((rr 6), .inl (cJ, 91, .inr (.inl (FF 6)))), ((rr 7), .inl (cJ, 91, .inr (.inl (FF 7)))), ((rr 8), .inl (cJ, 91, .inr (.inl (FF 8)))), ((rr 9), .inl (cJ, 91, .inr (.inl (FF 9)))), ((rr 10), .inl (cJ, 91, .inr (.inl (FF 10))))]) (wr := [(h0, .inr (12, [.ref o0, .int 0, .ref g0, .ref o2, .ref o3, .ref o4, .ref o5, .int 0, .ref o6]))]) (w1 := []) (t1 := []) hP hD hK hS0 hA [1, 2, 3, 4, 5, 6, 7, 8, 9, 10, 11, 12, 13] [0] rfl rfl (by decide) (by decide) ht hvm hk1 hB
  generalize H1 = H at hP hS ⊢
  have hP : va_P D vwCl ([(h0, .inr (12, [.ref o0, .int 0, .ref g0, .ref o2, .ref o3, .ref o4, .ref o5, .int 0, .ref o6]))]) H := hP
  have hD : va_D A ([(h0, .inr (12, [.ref o0, .int 0, .ref g0, .ref o2, .ref o3, .ref o4, .ref o5, .int 0, .ref o6]))]) := hD
  have hK : va_K D vwCl [(cO, .array .long), (cJ, .long)] s := hK
  refine W.widen (k := 0) (n := 0) (Nat.le_of_ble_eq_true rfl) (Nat.le_of_ble_eq_true rfl) ?_
  have hw_68 := hw
  refine W.widen (k := 0) (n := 0) (Nat.le_of_ble_eq_true rfl) (Nat.le_of_ble_eq_true rfl) ?_
  exact W.iret (v := r_4) hx hb hr (fun t ht hW => ⟨⟨r_4, (), rfl, hw_68, PB.at hP hK hD hW.alike ht [] rfl (by decide) [] rfl⟩, hS.F ht⟩) hS.2.2 dX5_inRow_71

def wm_c_X5_inRow_badA : List Cond := .code yX5_inRow cX5_inRow 6 (some .int) :: ([.code yX5_needRows cX5_needRows 2 none, .code yX5_isWithin cX5_isWithin 3 (some .boolean), .methodLink RX5 57 yX5_isWithin, .static yX5_isWithin, .initialized RX5, .classLink RX5 61 "java/lang/IllegalArgumentException", .initialized "java/lang/IllegalArgumentException", .methodLink RX5 215 yX5_needRows, .static yX5_needRows] ++ (vx_atS RX5 65 "java/lang/IllegalArgumentException" supX).filter goodWord)
set_option maxRecDepth 20000 in
theorem gd_c_X5_inRow_badA_2 : GoodIn wm_c_X5_inRow_badA (va_wsS RX5 215 yX5_needRows wm_c_X5_needRows_bad) := goodIn_of _ (by decide +kernel)
set_option maxHeartbeats 4000000 in
set_option maxRecDepth 100000 in
theorem c_X5_inRow_badA (l : Launch) (hl0 : l.stackTraces = false) (κ : Nat → Nat) (D : va_G) (sz : Nat) (h0 : Nat) (o0 : Nat) (g0 : Nat) (o2 : Nat) (o3 : Nat) (o4 : Nat) (o5 : Nat) (o6 : Nat) (p0 : Int32) (p1 : Int32) (p2 : Int64) (p3 : Int32) (hbad : ¬ (((1 : Int32).toInt ≤ p0.toInt ∧ p0.toInt ≤ (10 : Int32).toInt) ∧ ((0 : Int32).toInt ≤ p1.toInt ∧ p1.toInt ≤ (50 : Int32).toInt))) : vx_Met l yX5_inRow wm_c_X5_inRow_badA ({ frames := 10, cells := 1, slots := 6, locals := 320 }) (va_Pc [.ref h0, .int p0, .int p1, .long p2, .int p3] (PC κ D [] [(h0, .inr (12, [.ref o0, .int 0, .ref g0, .ref o2, .ref o3, .ref o4, .ref o5, .int 0, .ref o6]))] sz)) (va_Qi (fun (_ : Int32) (_ : Unit) => False) (fun _ _ => True) (va_A [(h0, .inr (12, [.ref o0, .int 0, .ref g0, .ref o2, .ref o3, .ref o4, .ref o5, .int 0, .ref o6]))] sz)) (XQ "java/lang/IllegalArgumentException" D [] [] (va_A [(h0, .inr (12, [.ref o0, .int 0, .ref g0, .ref o2, .ref o3, .ref o4, .ref o5, .int 0, .ref o6]))] sz)) 1 6 (va_A [(h0, .inr (12, [.ref o0, .int 0, .ref g0, .ref o2, .ref o3, .ref o4, .ref o5, .int 0, .ref o6]))] sz) := by
  refine vx_ofW (cc := cX5_inRow) (maxL := 6) (ret := (some .int)) (by decide +kernel) rfl ?_
  intro p e s m args below meth c s₁ B hml htab hv
  obtain ⟨rfl, hsz, hP, hK, hD0, hE⟩ := hv
  have hx := B.exec
  have hb := B.bytes
  have hr := B.returns
  have hts := atoms_spec (ws := wm_c_X5_inRow_badA) B.pre
  have hown : s.vm.findClass RX5 = some m.cls := findClass_of_methodNamed B.named
  have hlocks := B.notSynchronized
  subst hsz
  have hD := hD0.self (sz := s.heap.size)
  generalize hAe : va_A [(h0, .inr (12, [.ref o0, .int 0, .ref g0, .ref o2, .ref o3, .ref o4, .ref o5, .int 0, .ref o6]))] s.heap.size = A at hD hE ⊢
  have hA : ∀ q : Nat, s.heap.size ≤ q → A q := fun q h => by rw [← hAe]; exact Or.inr h
  have hS : va_S A s.heap s.heap [] := va_S.rf
  have hl := lv_entry ([.ref h0, .int p0, .int p1, .long p2, .int p3]) (n := 6) (Nat.le_of_ble_eq_true rfl)
  rw [lg_entry_eq]
  generalize (lg_sl ([.ref h0, .int p0, .int p1, .long p2, .int p3]) ++ List.replicate (6 - (lg_sl ([.ref h0, .int p0, .int p1, .long p2, .int p3])).length) Slot.unset).toArray = ls at hl ⊢
  have hl : lv_has ls 6 [(0, .ref h0), (1, .int p0), (2, .int p1), (3, .long p2), (5, .int p3)] := hl
  refine lv_iload_n hx hb dX5_inRow_0 rfl (lv_at hl 1 rfl) ?_
  refine lv_iload_n hx hb dX5_inRow_1 rfl (lv_at hl 2 rfl) ?_
  have hS0 := hS
  have hFc := va_free (wc := []) hD hS hA [] rfl
  refine vx_callv (vx_runS (As := [.int p0, .int p1]) (rest := []) ⟨hx, hb, hml, hown, hts⟩ (c_X5_needRows_bad l hl0 κ D (s.heap).size (p0) (p1) (hbad)) (va_cwS 2 hts gd_c_X5_inRow_badA_2 rfl rfl rfl (by decide +kernel) ⟨(Nat.le_of_ble_eq_true rfl), (Nat.le_of_ble_eq_true rfl)⟩) (preS hE hK hP hD hS hA [] rfl (by decide) [] rfl) rfl rfl hl.1 rfl (lv_room (Nat.le_of_ble_eq_true rfl)) dX5_inRow_2 ⟨(Nat.le_of_ble_eq_true rfl), (Nat.le_of_ble_eq_true rfl)⟩) hS (fun q _ h => hFc q h) hFc (fun q _ h => hFc q h) (fun E9 ce q9 u9 t H1 locs ht hvm _ hB hz1 hk1 hS hce hcv hcl => ?_) (fun _ _ _ _ _ _ hw => hw.elim)
  obtain ⟨rfl, hB⟩ := hB
  obtain ⟨hP, hD, hK⟩ := jn (wc := []) (wr := [(h0, .inr (12, [.ref o0, .int 0, .ref g0, .ref o2, .ref o3, .ref o4, .ref o5, .int 0, .ref o6]))]) (w1 := []) (t1 := []) hP hD hK hS0 hA [] [0] rfl rfl (by decide) (by decide) ht hvm hk1 hB
  generalize H1 = H at hP hS hce ⊢
  have hP : va_P D vwCl ([(h0, .inr (12, [.ref o0, .int 0, .ref g0, .ref o2, .ref o3, .ref o4, .ref o5, .int 0, .ref o6]))]) H := hP
  have hD : va_D A ([(h0, .inr (12, [.ref o0, .int 0, .ref g0, .ref o2, .ref o3, .ref o4, .ref o5, .int 0, .ref o6]))]) := hD
  have hK : va_K D vwCl [] s := hK
  refine vx_widen (k := 1) (n := 6) (Nat.le_of_ble_eq_true rfl) (Nat.le_of_ble_eq_true rfl) ?_
  exact vx_out (fun x hx => (htab x hx).elim) hlocks hce hcv hcl (fun t ht hal => ⟨(), trivial, ⟨rfl, PB.at hP hK hD hal ht [] rfl (by decide) [] rfl⟩, hS.F ht⟩) hS.2.2 (Nat.le_of_ble_eq_true rfl) (Nat.le_of_ble_eq_true rfl)

def wm_c_X5_inRow_badB : List Cond := .code yX5_inRow cX5_inRow 6 (some .int) :: ([.code yX5_needRows cX5_needRows 2 none, .code yX5_isWithin cX5_isWithin 3 (some .boolean), .methodLink RX5 57 yX5_isWithin, .static yX5_isWithin, .initialized RX5, .methodLink RX5 215 yX5_needRows, .static yX5_needRows, .classLink RX5 61 "java/lang/IllegalArgumentException", .initialized "java/lang/IllegalArgumentException", .fieldLink RX5 42 "Sowingcourt" "rows" "LSowingcourt$Rows;", .fieldLink RX5 218 "Sowingcourt$Rows" "ways" "[[J"] ++ (vx_atS RX5 65 "java/lang/IllegalArgumentException" supX).filter goodWord ++ wsX50 ++ wsX30)
set_option maxRecDepth 20000 in
theorem gd_c_X5_inRow_badB_2 : GoodIn wm_c_X5_inRow_badB (va_wsS RX5 215 yX5_needRows wm_c_X5_needRows_ok) := goodIn_of _ (by decide +kernel)
set_option maxHeartbeats 4000000 in
set_option maxRecDepth 100000 in
theorem c_X5_inRow_badB (l : Launch) (hl0 : l.stackTraces = false) (κ : Nat → Nat) (D : va_G) (sz : Nat) (h0 : Nat) (o0 : Nat) (g0 : Nat) (o2 : Nat) (o3 : Nat) (o4 : Nat) (o5 : Nat) (o6 : Nat) (q0 : Nat) (cO : ClassId) (cJ : ClassId) (rr : Nat → Nat) (FF : Nat → Nat → Int64) (p0 : Int32) (p1 : Int32) (p2 : Int64) (p3 : Int32) (hs : Nat) (sd : Nat) (e0 : p0 = nI hs) (e1 : p1 = nI sd) (h1s : 0 < hs) (hhs : hs < 11) (hsd : sd < 51) (hbad : ¬ (0 ≤ p2.toInt ∧ p2.toInt < (WN hs sd : Int))) (hF : ∀ k, k < 11 → ∀ z, z < 91 → FF k z = WW k z) : vx_Met l yX5_inRow wm_c_X5_inRow_badB ({ frames := 10, cells := 1, slots := 6, locals := 320 }) (va_Pc [.ref h0, .int p0, .int p1, .long p2, .int p3] (PC κ D [(cO, .array .long), (cJ, .long)] [(h0, .inr (12, [.ref o0, .int 0, .ref g0, .ref o2, .ref o3, .ref o4, .ref o5, .int 0, .ref o6])), (o4, .inr (10, [.ref q0])), (q0, .inl (cO, 11, .inr (.inr (.inr (.inr (fun i => if i < 11 then some (rr i) else none)))))), ((rr 0), .inl (cJ, 91, .inr (.inl (FF 0)))), ((rr 1), .inl (cJ, 91, .inr (.inl (FF 1)))), ((rr 2), .inl (cJ, 91, .inr (.inl (FF 2)))), ((rr 3), .inl (cJ, 91, .inr (.inl (FF 3)))), ((rr 4), .inl (cJ, 91, .inr (.inl (FF 4)))), ((rr 5), .inl (cJ, 91, .inr (.inl (FF 5)))), ((rr 6), .inl (cJ, 91, .inr (.inl (FF 6)))), ((rr 7), .inl (cJ, 91, .inr (.inl (FF 7)))), ((rr 8), .inl (cJ, 91, .inr (.inl (FF 8)))), ((rr 9), .inl (cJ, 91, .inr (.inl (FF 9)))), ((rr 10), .inl (cJ, 91, .inr (.inl (FF 10))))] sz)) (va_Qi (fun (_ : Int32) (_ : Unit) => False) (fun _ _ => True) (va_A [(h0, .inr (12, [.ref o0, .int 0, .ref g0, .ref o2, .ref o3, .ref o4, .ref o5, .int 0, .ref o6])), (o4, .inr (10, [.ref q0])), (q0, .inl (cO, 11, .inr (.inr (.inr (.inr (fun i => if i < 11 then some (rr i) else none)))))), ((rr 0), .inl (cJ, 91, .inr (.inl (FF 0)))), ((rr 1), .inl (cJ, 91, .inr (.inl (FF 1)))), ((rr 2), .inl (cJ, 91, .inr (.inl (FF 2)))), ((rr 3), .inl (cJ, 91, .inr (.inl (FF 3)))), ((rr 4), .inl (cJ, 91, .inr (.inl (FF 4)))), ((rr 5), .inl (cJ, 91, .inr (.inl (FF 5)))), ((rr 6), .inl (cJ, 91, .inr (.inl (FF 6)))), ((rr 7), .inl (cJ, 91, .inr (.inl (FF 7)))), ((rr 8), .inl (cJ, 91, .inr (.inl (FF 8)))), ((rr 9), .inl (cJ, 91, .inr (.inl (FF 9)))), ((rr 10), .inl (cJ, 91, .inr (.inl (FF 10))))] sz)) (XQ "java/lang/IllegalArgumentException" D [] [] (va_A [(h0, .inr (12, [.ref o0, .int 0, .ref g0, .ref o2, .ref o3, .ref o4, .ref o5, .int 0, .ref o6])), (o4, .inr (10, [.ref q0])), (q0, .inl (cO, 11, .inr (.inr (.inr (.inr (fun i => if i < 11 then some (rr i) else none)))))), ((rr 0), .inl (cJ, 91, .inr (.inl (FF 0)))), ((rr 1), .inl (cJ, 91, .inr (.inl (FF 1)))), ((rr 2), .inl (cJ, 91, .inr (.inl (FF 2)))), ((rr 3), .inl (cJ, 91, .inr (.inl (FF 3)))), ((rr 4), .inl (cJ, 91, .inr (.inl (FF 4)))), ((rr 5), .inl (cJ, 91, .inr (.inl (FF 5)))), ((rr 6), .inl (cJ, 91, .inr (.inl (FF 6)))), ((rr 7), .inl (cJ, 91, .inr (.inl (FF 7)))), ((rr 8), .inl (cJ, 91, .inr (.inl (FF 8)))), ((rr 9), .inl (cJ, 91, .inr (.inl (FF 9)))), ((rr 10), .inl (cJ, 91, .inr (.inl (FF 10))))] sz)) 1 6 (va_A [(h0, .inr (12, [.ref o0, .int 0, .ref g0, .ref o2, .ref o3, .ref o4, .ref o5, .int 0, .ref o6])), (o4, .inr (10, [.ref q0])), (q0, .inl (cO, 11, .inr (.inr (.inr (.inr (fun i => if i < 11 then some (rr i) else none)))))), ((rr 0), .inl (cJ, 91, .inr (.inl (FF 0)))), ((rr 1), .inl (cJ, 91, .inr (.inl (FF 1)))), ((rr 2), .inl (cJ, 91, .inr (.inl (FF 2)))), ((rr 3), .inl (cJ, 91, .inr (.inl (FF 3)))), ((rr 4), .inl (cJ, 91, .inr (.inl (FF 4)))), ((rr 5), .inl (cJ, 91, .inr (.inl (FF 5)))), ((rr 6), .inl (cJ, 91, .inr (.inl (FF 6)))), ((rr 7), .inl (cJ, 91, .inr (.inl (FF 7)))), ((rr 8), .inl (cJ, 91, .inr (.inl (FF 8)))), ((rr 9), .inl (cJ, 91, .inr (.inl (FF 9)))), ((rr 10), .inl (cJ, 91, .inr (.inl (FF 10))))] sz) := by
  refine vx_ofW (cc := cX5_inRow) (maxL := 6) (ret := (some .int)) (by decide +kernel) rfl ?_
  intro p e s m args below meth c s₁ B hml htab hv
  obtain ⟨rfl, hsz, hP, hK, hD0, hE⟩ := hv
  have hx := B.exec
  have hb := B.bytes
  have hr := B.returns
  have hts := atoms_spec (ws := wm_c_X5_inRow_badB) B.pre
  have hown : s.vm.findClass RX5 = some m.cls := findClass_of_methodNamed B.named
  have hlocks := B.notSynchronized
  have iRX5 : ∀ w ∈ u_ws RX5 TX5 9, w ∈ wm_c_X5_inRow_badB := by decide +kernel
  have iRX3 : ∀ w ∈ u_ws RX3 TX3 1, w ∈ wm_c_X5_inRow_badB := by decide +kernel
  subst hsz
  have hD := hD0.self (sz := s.heap.size)
  generalize hAe : va_A [(h0, .inr (12, [.ref o0, .int 0, .ref g0, .ref o2, .ref o3, .ref o4, .ref o5, .int 0, .ref o6])), (o4, .inr (10, [.ref q0])), (q0, .inl (cO, 11, .inr (.inr (.inr (.inr (fun i => if i < 11 then some (rr i) else none)))))), ((rr 0), .inl (cJ, 91, .inr (.inl (FF 0)))), ((rr 1), .inl (cJ, 91, .inr (.inl (FF 1)))), ((rr 2), .inl (cJ, 91, .inr (.inl (FF 2)))), ((rr 3), .inl (cJ, 91, .inr (.inl (FF 3)))), ((rr 4), .inl (cJ, 91, .inr (.inl (FF 4)))), ((rr 5), .inl (cJ, 91, .inr (.inl (FF 5)))), ((rr 6), .inl (cJ, 91, .inr (.inl (FF 6)))), ((rr 7), .inl (cJ, 91, .inr (.inl (FF 7)))), ((rr 8), .inl (cJ, 91, .inr (.inl (FF 8)))), ((rr 9), .inl (cJ, 91, .inr (.inl (FF 9)))), ((rr 10), .inl (cJ, 91, .inr (.inl (FF 10))))] s.heap.size = A at hD hE ⊢
  have hA : ∀ q : Nat, s.heap.size ≤ q → A q := fun q h => by rw [← hAe]; exact Or.inr h
  have hS : va_S A s.heap s.heap [] := va_S.rf
  have hl := lv_entry ([.ref h0, .int p0, .int p1, .long p2, .int p3]) (n := 6) (Nat.le_of_ble_eq_true rfl)
  rw [lg_entry_eq]
  generalize (lg_sl ([.ref h0, .int p0, .int p1, .long p2, .int p3]) ++ List.replicate (6 - (lg_sl ([.ref h0, .int p0, .int p1, .long p2, .int p3])).length) Slot.unset).toArray = ls at hl ⊢
  have hl : lv_has ls 6 [(0, .ref h0), (1, .int p0), (2, .int p1), (3, .long p2), (5, .int p3)] := hl
  refine lv_iload_n hx hb dX5_inRow_0 rfl (lv_at hl 1 rfl) ?_
  refine lv_iload_n hx hb dX5_inRow_1 rfl (lv_at hl 2 rfl) ?_
  have hS0 := hS
  have hFc := va_free (wc := []) hD hS hA [] rfl
  refine va_callv (va_runS (As := [.int p0, .int p1]) (rest := []) ⟨hx, hb, hml, hown, hts⟩ (c_X5_needRows_ok l κ D (s.heap).size (p0) (p1) ((by rw [e0, toI_1, toI_10, nI_toInt (by omega)]; omega)) ((by rw [e1, toI_0, toI_50, nI_toInt (by omega)]; omega))) (va_cwS 2 hts gd_c_X5_inRow_badB_2 rfl rfl rfl (by decide +kernel) ⟨(Nat.le_of_ble_eq_true rfl), (Nat.le_of_ble_eq_true rfl)⟩) (preS hE hK hP hD hS hA [] rfl (by decide) [] rfl) rfl rfl hl.1 rfl (lv_room (Nat.le_of_ble_eq_true rfl)) dX5_inRow_2 ⟨(Nat.le_of_ble_eq_true rfl), (Nat.le_of_ble_eq_true rfl)⟩) hS (fun q _ h => hFc q h) hFc (fun u t H1 locs ht hvm hw hB hz1 hk1 hS => ?_)
  try dsimp only at hw
  obtain ⟨hP, hD, hK⟩ := jn (wc := []) (wr := [(h0, .inr (12, [.ref o0, .int 0, .ref g0, .ref o2, .ref o3, .ref o4, .ref o5, .int 0, .ref o6])), (o4, .inr (10, [.ref q0])), (q0, .inl (cO, 11, .inr (.inr (.inr (.inr (fun i => if i < 11 then some (rr i) else none)))))), ((rr 0), .inl (cJ, 91, .inr (.inl (FF 0)))), ((rr 1), .inl (cJ, 91, .inr (.inl (FF 1)))), ((rr 2), .inl (cJ, 91, .inr (.inl (FF 2)))), ((rr 3), .inl (cJ, 91, .inr (.inl (FF 3)))), ((rr 4), .inl (cJ, 91, .inr (.inl (FF 4)))), ((rr 5), .inl (cJ, 91, .inr (.inl (FF 5)))), ((rr 6), .inl (cJ, 91, .inr (.inl (FF 6)))), ((rr 7), .inl (cJ, 91, .inr (.inl (FF 7)))), ((rr 8), .inl (cJ, 91, .inr (.inl (FF 8)))), ((rr 9), .inl (cJ, 91, .inr (.inl (FF 9)))), ((rr 10), .inl (cJ, 91, .inr (.inl (FF 10))))]) (w1 := []) (t1 := []) hP hD hK hS0 hA [] [0, 1, 2, 3, 4, 5, 6, 7, 8, 9, 10, 11, 12, 13] rfl rfl (by decide) (by decide) ht hvm hk1 hB
  generalize H1 = H at hP hS ⊢
  have hP : va_P D vwCl ([(h0, .inr (12, [.ref o0, .int 0, .ref g0, .ref o2, .ref o3, .ref o4, .ref o5, .int 0, .ref o6])), (o4, .inr (10, [.ref q0])), (q0, .inl (cO, 11, .inr (.inr (.inr (.inr (fun i => if i < 11 then some (rr i) else none)))))), ((rr 0), .inl (cJ, 91, .inr (.inl (FF 0)))), ((rr 1), .inl (cJ, 91, .inr (.inl (FF 1)))), ((rr 2), .inl (cJ, 91, .inr (.inl (FF 2)))), ((rr 3), .inl (cJ, 91, .inr (.inl (FF 3)))), ((rr 4), .inl (cJ, 91, .inr (.inl (FF 4)))), ((rr 5), .inl (cJ, 91, .inr (.inl (FF 5)))), ((rr 6), .inl (cJ, 91, .inr (.inl (FF 6)))), ((rr 7), .inl (cJ, 91, .inr (.inl (FF 7)))), ((rr 8), .inl (cJ, 91, .inr (.inl (FF 8)))), ((rr 9), .inl (cJ, 91, .inr (.inl (FF 9)))), ((rr 10), .inl (cJ, 91, .inr (.inl (FF 10))))]) H := hP
  have hD : va_D A ([(h0, .inr (12, [.ref o0, .int 0, .ref g0, .ref o2, .ref o3, .ref o4, .ref o5, .int 0, .ref o6])), (o4, .inr (10, [.ref q0])), (q0, .inl (cO, 11, .inr (.inr (.inr (.inr (fun i => if i < 11 then some (rr i) else none)))))), ((rr 0), .inl (cJ, 91, .inr (.inl (FF 0)))), ((rr 1), .inl (cJ, 91, .inr (.inl (FF 1)))), ((rr 2), .inl (cJ, 91, .inr (.inl (FF 2)))), ((rr 3), .inl (cJ, 91, .inr (.inl (FF 3)))), ((rr 4), .inl (cJ, 91, .inr (.inl (FF 4)))), ((rr 5), .inl (cJ, 91, .inr (.inl (FF 5)))), ((rr 6), .inl (cJ, 91, .inr (.inl (FF 6)))), ((rr 7), .inl (cJ, 91, .inr (.inl (FF 7)))), ((rr 8), .inl (cJ, 91, .inr (.inl (FF 8)))), ((rr 9), .inl (cJ, 91, .inr (.inl (FF 9)))), ((rr 10), .inl (cJ, 91, .inr (.inl (FF 10))))]) := hD
  have hK : va_K D vwCl [(cO, .array .long), (cJ, .long)] s := hK
  refine W.widen (k := 0) (n := 0) (Nat.le_of_ble_eq_true rfl) (Nat.le_of_ble_eq_true rfl) ?_
  refine lv_lload_n hx hb dX5_inRow_5 rfl (lv_at hl 3 rfl) ?_
  refine lv_lconst (v := 0) hx hb dX5_inRow_6 (by decide) ?_
  refine W.lcmp hx hb dX5_inRow_7 ?_
  refine lv_if_lt (tgt := 27) hx hb dX5_inRow_8 (by decide) (fun c_8 => ?_) (fun c_8 => ?_)
  · exact thS hx hb hl0 (own := RX5) (cls := "java/lang/IllegalArgumentException") (text := "there is no such row") (ik := 61) (is := 226) (ic := 65) hown (by decide +kernel) (hts (.classLink RX5 61 "java/lang/IllegalArgumentException") (by decide +kernel)) (hts (.initialized "java/lang/IllegalArgumentException") (by decide +kernel)) hE.st226 (fun w h => hts w ((by decide +kernel : ∀ w ∈ (vx_atS RX5 65 "java/lang/IllegalArgumentException" supX).filter goodWord, w ∈ wm_c_X5_inRow_badB) w h)) (by decide +kernel) hE.ca0 (by decide +kernel) hE hS (by rw [hml]; exact hl.1) dX5_inRow_27 dX5_inRow_30 dX5_inRow_31 dX5_inRow_33 dX5_inRow_36 htab (Nat.le_of_ble_eq_true rfl) (Nat.le_of_ble_eq_true rfl) (Nat.le_of_ble_eq_true rfl) (Nat.le_of_ble_eq_true rfl) hlocks hP hK hD [] rfl (by decide) [] rfl (Nat.le_of_ble_eq_true rfl) (Nat.le_of_ble_eq_true rfl)
  · refine lv_lload_n hx hb dX5_inRow_11 rfl (lv_at hl 3 rfl) ?_
    refine lv_aload_n hx hb dX5_inRow_12 rfl (lv_at hl 0 rfl) ?_
    refine va_get (D := D) (ci := 12) (v := .ref o4) (C := RX5) (T := TX5) (N := 9) hx hb hts iRX5 hown hK hP 0 rfl rfl 5 (by decide) (hts (.fieldLink RX5 42 "Sowingcourt" "rows" "LSowingcourt$Rows;") (by decide +kernel)) (fun _ h9 => h9) rfl dX5_inRow_13 ?_
    refine va_get (D := D) (ci := 10) (v := .ref q0) (C := RX3) (T := TX3) (N := 1) hx hb hts iRX3 hown hK hP 1 rfl rfl 0 (by decide) (hts (.fieldLink RX5 218 "Sowingcourt$Rows" "ways" "[[J") (by decide +kernel)) (fun _ h9 => h9) rfl dX5_inRow_16 ?_
    refine lv_iload_n hx hb dX5_inRow_19 rfl (lv_at hl 1 rfl) ?_
    refine va_aldg hx hb hK hP 2 0 rfl rfl (i := p0) (by rw [e0]; exact vp_in_nI hhs (by omega)) dX5_inRow_20 ?_
    refine W.eq (g2 := F0 m 21 ls [.ref (rr hs), .long p2]) (congrArg (fun z9 => F0 m 21 ls (z9 :: [.long p2])) (by rw [e0, nI_clamp (show hs < 2 ^ 31 by omega), if_pos hhs]; rfl)) ?_
    refine lv_iload_n hx hb dX5_inRow_21 rfl (lv_at hl 2 rfl) ?_
    refine va_lald hx hb hK hP (hs + 3) 1 (cA := cJ) (n := 91) (f := FF hs) (rows_at rr FF cJ hs hhs) rfl (i := p1) (by rw [e1]; exact vp_in_nI (by omega) (by omega)) dX5_inRow_22 ?_
    refine W.eq (g2 := F0 m 23 ls [.long (lN (WN hs sd)), .long p2]) (congrArg (fun z9 => F0 m 23 ls (Value.long z9 :: [.long p2])) (show FF hs p1.toNatClampNeg = lN (WN hs sd) by rw [e1, nI_clamp (show sd < 2 ^ 31 by omega), hF hs hhs sd (by omega), WW_N])) ?_
    refine W.lcmp hx hb dX5_inRow_23 ?_
    refine lv_if_lt (tgt := 37) hx hb dX5_inRow_24 (by decide) (fun c_24 => absurd (show 0 ≤ p2.toInt ∧ p2.toInt < (WN hs sd : Int) from ⟨Int.not_lt.mp (fun h => c_8 ((lg_cmp_lt _ _).mpr (Int64.lt_iff_toInt_lt.mpr h))), by have h9 := Int64.lt_iff_toInt_lt.mp ((lg_cmp_lt _ _).mp c_24); rw [pk_lT (by have := WN_b hhs hsd; omega)] at h9; exact h9⟩) hbad) (fun c_24 => ?_)
    exact thS hx hb hl0 (own := RX5) (cls := "java/lang/IllegalArgumentException") (text := "there is no such row") (ik := 61) (is := 226) (ic := 65) hown (by decide +kernel) (hts (.classLink RX5 61 "java/lang/IllegalArgumentException") (by decide +kernel)) (hts (.initialized "java/lang/IllegalArgumentException") (by decide +kernel)) hE.st226 (fun w h => hts w ((by decide +kernel : ∀ w ∈ (vx_atS RX5 65 "java/lang/IllegalArgumentException" supX).filter goodWord, w ∈ wm_c_X5_inRow_badB) w h)) (by decide +kernel) hE.ca0 (by decide +kernel) hE hS (by rw [hml]; exact hl.1) dX5_inRow_27 dX5_inRow_30 dX5_inRow_31 dX5_inRow_33 dX5_inRow_36 htab (Nat.le_of_ble_eq_true rfl) (Nat.le_of_ble_eq_true rfl) (Nat.le_of_ble_eq_true rfl) (Nat.le_of_ble_eq_true rfl) hlocks hP hK hD [] rfl (by decide) [] rfl (Nat.le_of_ble_eq_true rfl) (Nat.le_of_ble_eq_true rfl)

def wm_c_X5_inRow_badC : List Cond := .code yX5_inRow cX5_inRow 6 (some .int) :: ([.code yX5_needRows cX5_needRows 2 none, .code yX5_isWithin cX5_isWithin 3 (some .boolean), .methodLink RX5 57 yX5_isWithin, .static yX5_isWithin, .initialized RX5, .methodLink RX5 215 yX5_needRows, .static yX5_needRows, .fieldLink RX5 42 "Sowingcourt" "rows" "LSowingcourt$Rows;", .fieldLink RX5 218 "Sowingcourt$Rows" "ways" "[[J", .classLink RX5 193 "java/lang/IndexOutOfBoundsException", .initialized "java/lang/IndexOutOfBoundsException"] ++ wsX50 ++ wsX30 ++ (vx_atS RX5 197 "java/lang/IndexOutOfBoundsException" supX).filter goodWord)
set_option maxRecDepth 20000 in
theorem gd_c_X5_inRow_badC_2 : GoodIn wm_c_X5_inRow_badC (va_wsS RX5 215 yX5_needRows wm_c_X5_needRows_ok) := goodIn_of _ (by decide +kernel)
set_option maxRecDepth 20000 in
theorem gd_c_X5_inRow_badC_43 : GoodIn wm_c_X5_inRow_badC (va_wsS RX5 57 yX5_isWithin wm_c_X5_isWithin) := goodIn_of _ (by decide +kernel)
set_option maxHeartbeats 4000000 in
set_option maxRecDepth 100000 in
theorem c_X5_inRow_badC (l : Launch) (hl0 : l.stackTraces = false) (κ : Nat → Nat) (D : va_G) (sz : Nat) (h0 : Nat) (o0 : Nat) (g0 : Nat) (o2 : Nat) (o3 : Nat) (o4 : Nat) (o5 : Nat) (o6 : Nat) (q0 : Nat) (cO : ClassId) (cJ : ClassId) (rr : Nat → Nat) (FF : Nat → Nat → Int64) (p0 : Int32) (p1 : Int32) (p2 : Int64) (p3 : Int32) (hs : Nat) (sd : Nat) (nn : Nat) (e0 : p0 = nI hs) (e1 : p1 = nI sd) (h1s : 0 < hs) (hhs : hs < 11) (hsd : sd < 51) (e2 : p2 = lN nn) (hnn : nn < WN hs sd) (hbad : ¬ (0 ≤ p3.toInt ∧ p3.toInt < (hs : Int))) (hF : ∀ k, k < 11 → ∀ z, z < 91 → FF k z = WW k z) : vx_Met l yX5_inRow wm_c_X5_inRow_badC ({ frames := 10, cells := 1, slots := 6, locals := 320 }) (va_Pc [.ref h0, .int p0, .int p1, .long p2, .int p3] (PC κ D [(cO, .array .long), (cJ, .long)] [(h0, .inr (12, [.ref o0, .int 0, .ref g0, .ref o2, .ref o3, .ref o4, .ref o5, .int 0, .ref o6])), (o4, .inr (10, [.ref q0])), (q0, .inl (cO, 11, .inr (.inr (.inr (.inr (fun i => if i < 11 then some (rr i) else none)))))), ((rr 0), .inl (cJ, 91, .inr (.inl (FF 0)))), ((rr 1), .inl (cJ, 91, .inr (.inl (FF 1)))), ((rr 2), .inl (cJ, 91, .inr (.inl (FF 2)))), ((rr 3), .inl (cJ, 91, .inr (.inl (FF 3)))), ((rr 4), .inl (cJ, 91, .inr (.inl (FF 4)))), ((rr 5), .inl (cJ, 91, .inr (.inl (FF 5)))), ((rr 6), .inl (cJ, 91, .inr (.inl (FF 6)))), ((rr 7), .inl (cJ, 91, .inr (.inl (FF 7)))), ((rr 8), .inl (cJ, 91, .inr (.inl (FF 8)))), ((rr 9), .inl (cJ, 91, .inr (.inl (FF 9)))), ((rr 10), .inl (cJ, 91, .inr (.inl (FF 10))))] sz)) (va_Qi (fun (_ : Int32) (_ : Unit) => False) (fun _ _ => True) (va_A [(h0, .inr (12, [.ref o0, .int 0, .ref g0, .ref o2, .ref o3, .ref o4, .ref o5, .int 0, .ref o6])), (o4, .inr (10, [.ref q0])), (q0, .inl (cO, 11, .inr (.inr (.inr (.inr (fun i => if i < 11 then some (rr i) else none)))))), ((rr 0), .inl (cJ, 91, .inr (.inl (FF 0)))), ((rr 1), .inl (cJ, 91, .inr (.inl (FF 1)))), ((rr 2), .inl (cJ, 91, .inr (.inl (FF 2)))), ((rr 3), .inl (cJ, 91, .inr (.inl (FF 3)))), ((rr 4), .inl (cJ, 91, .inr (.inl (FF 4)))), ((rr 5), .inl (cJ, 91, .inr (.inl (FF 5)))), ((rr 6), .inl (cJ, 91, .inr (.inl (FF 6)))), ((rr 7), .inl (cJ, 91, .inr (.inl (FF 7)))), ((rr 8), .inl (cJ, 91, .inr (.inl (FF 8)))), ((rr 9), .inl (cJ, 91, .inr (.inl (FF 9)))), ((rr 10), .inl (cJ, 91, .inr (.inl (FF 10))))] sz)) (XQ "java/lang/IndexOutOfBoundsException" D [] [] (va_A [(h0, .inr (12, [.ref o0, .int 0, .ref g0, .ref o2, .ref o3, .ref o4, .ref o5, .int 0, .ref o6])), (o4, .inr (10, [.ref q0])), (q0, .inl (cO, 11, .inr (.inr (.inr (.inr (fun i => if i < 11 then some (rr i) else none)))))), ((rr 0), .inl (cJ, 91, .inr (.inl (FF 0)))), ((rr 1), .inl (cJ, 91, .inr (.inl (FF 1)))), ((rr 2), .inl (cJ, 91, .inr (.inl (FF 2)))), ((rr 3), .inl (cJ, 91, .inr (.inl (FF 3)))), ((rr 4), .inl (cJ, 91, .inr (.inl (FF 4)))), ((rr 5), .inl (cJ, 91, .inr (.inl (FF 5)))), ((rr 6), .inl (cJ, 91, .inr (.inl (FF 6)))), ((rr 7), .inl (cJ, 91, .inr (.inl (FF 7)))), ((rr 8), .inl (cJ, 91, .inr (.inl (FF 8)))), ((rr 9), .inl (cJ, 91, .inr (.inl (FF 9)))), ((rr 10), .inl (cJ, 91, .inr (.inl (FF 10))))] sz)) 1 6 (va_A [(h0, .inr (12, [.ref o0, .int 0, .ref g0, .ref o2, .ref o3, .ref o4, .ref o5, .int 0, .ref o6])), (o4, .inr (10, [.ref q0])), (q0, .inl (cO, 11, .inr (.inr (.inr (.inr (fun i => if i < 11 then some (rr i) else none)))))), ((rr 0), .inl (cJ, 91, .inr (.inl (FF 0)))), ((rr 1), .inl (cJ, 91, .inr (.inl (FF 1)))), ((rr 2), .inl (cJ, 91, .inr (.inl (FF 2)))), ((rr 3), .inl (cJ, 91, .inr (.inl (FF 3)))), ((rr 4), .inl (cJ, 91, .inr (.inl (FF 4)))), ((rr 5), .inl (cJ, 91, .inr (.inl (FF 5)))), ((rr 6), .inl (cJ, 91, .inr (.inl (FF 6)))), ((rr 7), .inl (cJ, 91, .inr (.inl (FF 7)))), ((rr 8), .inl (cJ, 91, .inr (.inl (FF 8)))), ((rr 9), .inl (cJ, 91, .inr (.inl (FF 9)))), ((rr 10), .inl (cJ, 91, .inr (.inl (FF 10))))] sz) := by
  refine vx_ofW (cc := cX5_inRow) (maxL := 6) (ret := (some .int)) (by decide +kernel) rfl ?_
  intro p e s m args below meth c s₁ B hml htab hv
  obtain ⟨rfl, hsz, hP, hK, hD0, hE⟩ := hv
  have hx := B.exec
  have hb := B.bytes
  have hr := B.returns
  have hts := atoms_spec (ws := wm_c_X5_inRow_badC) B.pre
  have hown : s.vm.findClass RX5 = some m.cls := findClass_of_methodNamed B.named
  have hlocks := B.notSynchronized
  have iRX5 : ∀ w ∈ u_ws RX5 TX5 9, w ∈ wm_c_X5_inRow_badC := by decide +kernel
  have iRX3 : ∀ w ∈ u_ws RX3 TX3 1, w ∈ wm_c_X5_inRow_badC := by decide +kernel
  subst hsz
  have hD := hD0.self (sz := s.heap.size)
  generalize hAe : va_A [(h0, .inr (12, [.ref o0, .int 0, .ref g0, .ref o2, .ref o3, .ref o4, .ref o5, .int 0, .ref o6])), (o4, .inr (10, [.ref q0])), (q0, .inl (cO, 11, .inr (.inr (.inr (.inr (fun i => if i < 11 then some (rr i) else none)))))), ((rr 0), .inl (cJ, 91, .inr (.inl (FF 0)))), ((rr 1), .inl (cJ, 91, .inr (.inl (FF 1)))), ((rr 2), .inl (cJ, 91, .inr (.inl (FF 2)))), ((rr 3), .inl (cJ, 91, .inr (.inl (FF 3)))), ((rr 4), .inl (cJ, 91, .inr (.inl (FF 4)))), ((rr 5), .inl (cJ, 91, .inr (.inl (FF 5)))), ((rr 6), .inl (cJ, 91, .inr (.inl (FF 6)))), ((rr 7), .inl (cJ, 91, .inr (.inl (FF 7)))), ((rr 8), .inl (cJ, 91, .inr (.inl (FF 8)))), ((rr 9), .inl (cJ, 91, .inr (.inl (FF 9)))), ((rr 10), .inl (cJ, 91, .inr (.inl (FF 10))))] s.heap.size = A at hD hE ⊢
  have hA : ∀ q : Nat, s.heap.size ≤ q → A q := fun q h => by rw [← hAe]; exact Or.inr h
  have hS : va_S A s.heap s.heap [] := va_S.rf
  have hl := lv_entry ([.ref h0, .int p0, .int p1, .long p2, .int p3]) (n := 6) (Nat.le_of_ble_eq_true rfl)
  rw [lg_entry_eq]
  generalize (lg_sl ([.ref h0, .int p0, .int p1, .long p2, .int p3]) ++ List.replicate (6 - (lg_sl ([.ref h0, .int p0, .int p1, .long p2, .int p3])).length) Slot.unset).toArray = ls at hl ⊢
  have hl : lv_has ls 6 [(0, .ref h0), (1, .int p0), (2, .int p1), (3, .long p2), (5, .int p3)] := hl
  refine lv_iload_n hx hb dX5_inRow_0 rfl (lv_at hl 1 rfl) ?_
  refine lv_iload_n hx hb dX5_inRow_1 rfl (lv_at hl 2 rfl) ?_
  have hS0 := hS
  have hFc := va_free (wc := []) hD hS hA [] rfl
  refine va_callv (va_runS (As := [.int p0, .int p1]) (rest := []) ⟨hx, hb, hml, hown, hts⟩ (c_X5_needRows_ok l κ D (s.heap).size (p0) (p1) ((by rw [e0, toI_1, toI_10, nI_toInt (by omega)]; omega)) ((by rw [e1, toI_0, toI_50, nI_toInt (by omega)]; omega))) (va_cwS 2 hts gd_c_X5_inRow_badC_2 rfl rfl rfl (by decide +kernel) ⟨(Nat.le_of_ble_eq_true rfl), (Nat.le_of_ble_eq_true rfl)⟩) (preS hE hK hP hD hS hA [] rfl (by decide) [] rfl) rfl rfl hl.1 rfl (lv_room (Nat.le_of_ble_eq_true rfl)) dX5_inRow_2 ⟨(Nat.le_of_ble_eq_true rfl), (Nat.le_of_ble_eq_true rfl)⟩) hS (fun q _ h => hFc q h) hFc (fun u t H1 locs ht hvm hw hB hz1 hk1 hS => ?_)
  try dsimp only at hw
  obtain ⟨hP, hD, hK⟩ := jn (wc := []) (wr := [(h0, .inr (12, [.ref o0, .int 0, .ref g0, .ref o2, .ref o3, .ref o4, .ref o5, .int 0, .ref o6])), (o4, .inr (10, [.ref q0])), (q0, .inl (cO, 11, .inr (.inr (.inr (.inr (fun i => if i < 11 then some (rr i) else none)))))), ((rr 0), .inl (cJ, 91, .inr (.inl (FF 0)))), ((rr 1), .inl (cJ, 91, .inr (.inl (FF 1)))), ((rr 2), .inl (cJ, 91, .inr (.inl (FF 2)))), ((rr 3), .inl (cJ, 91, .inr (.inl (FF 3)))), ((rr 4), .inl (cJ, 91, .inr (.inl (FF 4)))), ((rr 5), .inl (cJ, 91, .inr (.inl (FF 5)))), ((rr 6), .inl (cJ, 91, .inr (.inl (FF 6)))), ((rr 7), .inl (cJ, 91, .inr (.inl (FF 7)))), ((rr 8), .inl (cJ, 91, .inr (.inl (FF 8)))), ((rr 9), .inl (cJ, 91, .inr (.inl (FF 9)))), ((rr 10), .inl (cJ, 91, .inr (.inl (FF 10))))]) (w1 := []) (t1 := []) hP hD hK hS0 hA [] [0, 1, 2, 3, 4, 5, 6, 7, 8, 9, 10, 11, 12, 13] rfl rfl (by decide) (by decide) ht hvm hk1 hB
  generalize H1 = H at hP hS ⊢
  have hP : va_P D vwCl ([(h0, .inr (12, [.ref o0, .int 0, .ref g0, .ref o2, .ref o3, .ref o4, .ref o5, .int 0, .ref o6])), (o4, .inr (10, [.ref q0])), (q0, .inl (cO, 11, .inr (.inr (.inr (.inr (fun i => if i < 11 then some (rr i) else none)))))), ((rr 0), .inl (cJ, 91, .inr (.inl (FF 0)))), ((rr 1), .inl (cJ, 91, .inr (.inl (FF 1)))), ((rr 2), .inl (cJ, 91, .inr (.inl (FF 2)))), ((rr 3), .inl (cJ, 91, .inr (.inl (FF 3)))), ((rr 4), .inl (cJ, 91, .inr (.inl (FF 4)))), ((rr 5), .inl (cJ, 91, .inr (.inl (FF 5)))), ((rr 6), .inl (cJ, 91, .inr (.inl (FF 6)))), ((rr 7), .inl (cJ, 91, .inr (.inl (FF 7)))), ((rr 8), .inl (cJ, 91, .inr (.inl (FF 8)))), ((rr 9), .inl (cJ, 91, .inr (.inl (FF 9)))), ((rr 10), .inl (cJ, 91, .inr (.inl (FF 10))))]) H := hP
  have hD : va_D A ([(h0, .inr (12, [.ref o0, .int 0, .ref g0, .ref o2, .ref o3, .ref o4, .ref o5, .int 0, .ref o6])), (o4, .inr (10, [.ref q0])), (q0, .inl (cO, 11, .inr (.inr (.inr (.inr (fun i => if i < 11 then some (rr i) else none)))))), ((rr 0), .inl (cJ, 91, .inr (.inl (FF 0)))), ((rr 1), .inl (cJ, 91, .inr (.inl (FF 1)))), ((rr 2), .inl (cJ, 91, .inr (.inl (FF 2)))), ((rr 3), .inl (cJ, 91, .inr (.inl (FF 3)))), ((rr 4), .inl (cJ, 91, .inr (.inl (FF 4)))), ((rr 5), .inl (cJ, 91, .inr (.inl (FF 5)))), ((rr 6), .inl (cJ, 91, .inr (.inl (FF 6)))), ((rr 7), .inl (cJ, 91, .inr (.inl (FF 7)))), ((rr 8), .inl (cJ, 91, .inr (.inl (FF 8)))), ((rr 9), .inl (cJ, 91, .inr (.inl (FF 9)))), ((rr 10), .inl (cJ, 91, .inr (.inl (FF 10))))]) := hD
  have hK : va_K D vwCl [(cO, .array .long), (cJ, .long)] s := hK
  refine W.widen (k := 0) (n := 0) (Nat.le_of_ble_eq_true rfl) (Nat.le_of_ble_eq_true rfl) ?_
  refine lv_lload_n hx hb dX5_inRow_5 rfl (lv_at hl 3 rfl) ?_
  refine lv_lconst (v := 0) hx hb dX5_inRow_6 (by decide) ?_
  refine W.lcmp hx hb dX5_inRow_7 ?_
  refine lv_if_lt (tgt := 27) hx hb dX5_inRow_8 (by decide) (fun c_8 => absurd ((lg_cmp_lt _ _).mp c_8) (by rw [e2, show (0 : Int64) = lN 0 from rfl, pk_lLT (by have := WN_b hhs hsd; omega) (by omega)]; omega)) (fun c_8 => ?_)
  refine lv_lload_n hx hb dX5_inRow_11 rfl (lv_at hl 3 rfl) ?_
  refine lv_aload_n hx hb dX5_inRow_12 rfl (lv_at hl 0 rfl) ?_
  refine va_get (D := D) (ci := 12) (v := .ref o4) (C := RX5) (T := TX5) (N := 9) hx hb hts iRX5 hown hK hP 0 rfl rfl 5 (by decide) (hts (.fieldLink RX5 42 "Sowingcourt" "rows" "LSowingcourt$Rows;") (by decide +kernel)) (fun _ h9 => h9) rfl dX5_inRow_13 ?_
  refine va_get (D := D) (ci := 10) (v := .ref q0) (C := RX3) (T := TX3) (N := 1) hx hb hts iRX3 hown hK hP 1 rfl rfl 0 (by decide) (hts (.fieldLink RX5 218 "Sowingcourt$Rows" "ways" "[[J") (by decide +kernel)) (fun _ h9 => h9) rfl dX5_inRow_16 ?_
  refine lv_iload_n hx hb dX5_inRow_19 rfl (lv_at hl 1 rfl) ?_
  refine va_aldg hx hb hK hP 2 0 rfl rfl (i := p0) (by rw [e0]; exact vp_in_nI hhs (by omega)) dX5_inRow_20 ?_
  refine W.eq (g2 := F0 m 21 ls [.ref (rr hs), .long p2]) (congrArg (fun z9 => F0 m 21 ls (z9 :: [.long p2])) (by rw [e0, nI_clamp (show hs < 2 ^ 31 by omega), if_pos hhs]; rfl)) ?_
  refine lv_iload_n hx hb dX5_inRow_21 rfl (lv_at hl 2 rfl) ?_
  refine va_lald hx hb hK hP (hs + 3) 1 (cA := cJ) (n := 91) (f := FF hs) (rows_at rr FF cJ hs hhs) rfl (i := p1) (by rw [e1]; exact vp_in_nI (by omega) (by omega)) dX5_inRow_22 ?_
  refine W.eq (g2 := F0 m 23 ls [.long (lN (WN hs sd)), .long p2]) (congrArg (fun z9 => F0 m 23 ls (Value.long z9 :: [.long p2])) (show FF hs p1.toNatClampNeg = lN (WN hs sd) by rw [e1, nI_clamp (show sd < 2 ^ 31 by omega), hF hs hhs sd (by omega), WW_N])) ?_
  refine W.lcmp hx hb dX5_inRow_23 ?_
  refine lv_if_lt (tgt := 37) hx hb dX5_inRow_24 (by decide) (fun c_24 => ?_) (fun c_24 => absurd ((lg_cmp_lt _ _).mpr (by rw [e2]; exact (pk_lLT (by have := WN_b hhs hsd; omega) (by have := WN_b hhs hsd; omega)).mpr hnn)) c_24)
  refine lv_iload hx hb dX5_inRow_37 (lv_at hl 4 rfl) ?_
  refine lv_iconst (v := 0) hx hb dX5_inRow_39 (by decide) ?_
  refine lv_iload_n hx hb dX5_inRow_40 rfl (lv_at hl 1 rfl) ?_
  refine lv_iconst (v := 1) hx hb dX5_inRow_41 (by decide) ?_
  refine lv_isub hx hb dX5_inRow_42 ?_
  refine lv_topi (fun v_2 ev_2 => ?_)
  have ev_2 : v_2 = nI (hs - 1) := ev_2.trans (by rw [e0, show (1 : Int32) = nI 1 from rfl, pk_sub (by omega)])
  subst ev_2
  have hS0 := hS
  have hFc := va_free (wc := []) hD hS hA [] rfl
  refine va_calli (va_runS (As := [.int p3, .int 0, .int (nI (hs - 1))]) (rest := []) ⟨hx, hb, hml, hown, hts⟩ (c_X5_isWithin l κ D (H).size (p3) (0) ((nI (hs - 1))) ) (va_cwS 3 hts gd_c_X5_inRow_badC_43 rfl rfl rfl (by decide +kernel) ⟨(Nat.le_of_ble_eq_true rfl), (Nat.le_of_ble_eq_true rfl)⟩) (preS hE hK hP hD hS hA [] rfl (by decide) [] rfl) rfl rfl hl.1 rfl (lv_room (Nat.le_of_ble_eq_true rfl)) dX5_inRow_43 ⟨(Nat.le_of_ble_eq_true rfl), (Nat.le_of_ble_eq_true rfl)⟩) hS (fun q _ h => hFc q h) hFc (fun r_3 u t H1 locs ht hvm hw hB hz1 hk1 hS => ?_)
  try dsimp only at hw
  obtain ⟨hP, hD, hK⟩ := jn (wc := []) (wr := [(h0, .inr (12, [.ref o0, .int 0, .ref g0, .ref o2, .ref o3, .ref o4, .ref o5, .int 0, .ref o6])), (o4, .inr (10, [.ref q0])), (q0, .inl (cO, 11, .inr (.inr (.inr (.inr (fun i => if i < 11 then some (rr i) else none)))))), ((rr 0), .inl (cJ, 91, .inr (.inl (FF 0)))), ((rr 1), .inl (cJ, 91, .inr (.inl (FF 1)))), ((rr 2), .inl (cJ, 91, .inr (.inl (FF 2)))), ((rr 3), .inl (cJ, 91, .inr (.inl (FF 3)))), ((rr 4), .inl (cJ, 91, .inr (.inl (FF 4)))), ((rr 5), .inl (cJ, 91, .inr (.inl (FF 5)))), ((rr 6), .inl (cJ, 91, .inr (.inl (FF 6)))), ((rr 7), .inl (cJ, 91, .inr (.inl (FF 7)))), ((rr 8), .inl (cJ, 91, .inr (.inl (FF 8)))), ((rr 9), .inl (cJ, 91, .inr (.inl (FF 9)))), ((rr 10), .inl (cJ, 91, .inr (.inl (FF 10))))]) (w1 := []) (t1 := []) hP hD hK hS0 hA [] [0, 1, 2, 3, 4, 5, 6, 7, 8, 9, 10, 11, 12, 13] rfl rfl (by decide) (by decide) ht hvm hk1 hB
  generalize H1 = H at hP hS ⊢
  have hP : va_P D vwCl ([(h0, .inr (12, [.ref o0, .int 0, .ref g0, .ref o2, .ref o3, .ref o4, .ref o5, .int 0, .ref o6])), (o4, .inr (10, [.ref q0])), (q0, .inl (cO, 11, .inr (.inr (.inr (.inr (fun i => if i < 11 then some (rr i) else none)))))), ((rr 0), .inl (cJ, 91, .inr (.inl (FF 0)))), ((rr 1), .inl (cJ, 91, .inr (.inl (FF 1)))), ((rr 2), .inl (cJ, 91, .inr (.inl (FF 2)))), ((rr 3), .inl (cJ, 91, .inr (.inl (FF 3)))), ((rr 4), .inl (cJ, 91, .inr (.inl (FF 4)))), ((rr 5), .inl (cJ, 91, .inr (.inl (FF 5)))), ((rr 6), .inl (cJ, 91, .inr (.inl (FF 6)))), ((rr 7), .inl (cJ, 91, .inr (.inl (FF 7)))), ((rr 8), .inl (cJ, 91, .inr (.inl (FF 8)))), ((rr 9), .inl (cJ, 91, .inr (.inl (FF 9)))), ((rr 10), .inl (cJ, 91, .inr (.inl (FF 10))))]) H := hP
  have hD : va_D A ([(h0, .inr (12, [.ref o0, .int 0, .ref g0, .ref o2, .ref o3, .ref o4, .ref o5, .int 0, .ref o6])), (o4, .inr (10, [.ref q0])), (q0, .inl (cO, 11, .inr (.inr (.inr (.inr (fun i => if i < 11 then some (rr i) else none)))))), ((rr 0), .inl (cJ, 91, .inr (.inl (FF 0)))), ((rr 1), .inl (cJ, 91, .inr (.inl (FF 1)))), ((rr 2), .inl (cJ, 91, .inr (.inl (FF 2)))), ((rr 3), .inl (cJ, 91, .inr (.inl (FF 3)))), ((rr 4), .inl (cJ, 91, .inr (.inl (FF 4)))), ((rr 5), .inl (cJ, 91, .inr (.inl (FF 5)))), ((rr 6), .inl (cJ, 91, .inr (.inl (FF 6)))), ((rr 7), .inl (cJ, 91, .inr (.inl (FF 7)))), ((rr 8), .inl (cJ, 91, .inr (.inl (FF 8)))), ((rr 9), .inl (cJ, 91, .inr (.inl (FF 9)))), ((rr 10), .inl (cJ, 91, .inr (.inl (FF 10))))]) := hD
  have hK : va_K D vwCl [(cO, .array .long), (cJ, .long)] s := hK
  refine W.widen (k := 0) (n := 0) (Nat.le_of_ble_eq_true rfl) (Nat.le_of_ble_eq_true rfl) ?_
  have hw : r_3 = 0 := hw.trans (if_neg (by rw [toI_0, nI_toInt (show hs - 1 < 2 ^ 31 by omega)]; omega))
  subst hw
  refine lv_if_ne (tgt := 59) hx hb dX5_inRow_46 (by decide) (fun c_46 => absurd c_46 (by decide)) (fun _ => ?_)
  exact thS hx hb hl0 (own := RX5) (cls := "java/lang/IndexOutOfBoundsException") (text := "there is no such hole") (ik := 193) (is := 228) (ic := 197) hown (by decide +kernel) (hts (.classLink RX5 193 "java/lang/IndexOutOfBoundsException") (by decide +kernel)) (hts (.initialized "java/lang/IndexOutOfBoundsException") (by decide +kernel)) hE.st228 (fun w h => hts w ((by decide +kernel : ∀ w ∈ (vx_atS RX5 197 "java/lang/IndexOutOfBoundsException" supX).filter goodWord, w ∈ wm_c_X5_inRow_badC) w h)) (by decide +kernel) hE.ca2 (by decide +kernel) hE hS (by rw [hml]; exact hl.1) dX5_inRow_49 dX5_inRow_52 dX5_inRow_53 dX5_inRow_55 dX5_inRow_58 htab (Nat.le_of_ble_eq_true rfl) (Nat.le_of_ble_eq_true rfl) (Nat.le_of_ble_eq_true rfl) (Nat.le_of_ble_eq_true rfl) hlocks hP hK hD [] rfl (by decide) [] rfl (Nat.le_of_ble_eq_true rfl) (Nat.le_of_ble_eq_true rfl)

def wm_c_X5_type_ok : List Cond := .code yX5_type cX5_type 2 (some .int) :: ([.code yX5_isWithin cX5_isWithin 3 (some .boolean), .methodLink RX5 57 yX5_isWithin, .static yX5_isWithin, .initialized RX5, .fieldLink RX5 268 "Sowingcourt" "typedCount" "I", .fieldLink RX5 46 "Sowingcourt" "typed" "[I"] ++ wsX50)
set_option maxRecDepth 20000 in
theorem gd_c_X5_type_ok_4 : GoodIn wm_c_X5_type_ok (va_wsS RX5 57 yX5_isWithin wm_c_X5_isWithin) := goodIn_of _ (by decide +kernel)
set_option maxHeartbeats 4000000 in
set_option maxRecDepth 100000 in
theorem c_X5_type_ok (l : Launch) (κ : Nat → Nat) (D : va_G) (sz : Nat) (h0 : Nat) (o0 : Nat) (g0 : Nat) (o2 : Nat) (o3 : Nat) (o4 : Nat) (o5 : Nat) (o6 : Nat) (p0 : Int32) (cI : ClassId) (tf : Nat → Int32) (hA0 : (0 : Int32).toInt ≤ p0.toInt ∧ p0.toInt ≤ (9 : Int32).toInt) : Met l yX5_type wm_c_X5_type_ok ({ frames := 9, cells := 0, slots := 0, locals := 260 }) (va_Pc [.ref h0, .int p0] (PC κ D [(cI, .int)] [(h0, .inr (12, [.ref o0, .int 0, .ref g0, .ref o2, .ref o3, .ref o4, .ref o5, .int 0, .ref o6])), (o5, .inl (cI, 60, .inl tf))] sz)) (va_Qi (fun (r : Int32) (_ : Unit) => r = 1) (fun _ t => PB D [] [] (va_A [(h0, .inr (12, [.ref o0, .int 0, .ref g0, .ref o2, .ref o3, .ref o4, .ref o5, .int 0, .ref o6])), (o5, .inl (cI, 60, .inl tf))] sz) t) (va_A [(h0, .inr (12, [.ref o0, .int 0, .ref g0, .ref o2, .ref o3, .ref o4, .ref o5, .int 0, .ref o6])), (o5, .inl (cI, 60, .inl tf))] sz)) 0 0 (va_A [(h0, .inr (12, [.ref o0, .int 0, .ref g0, .ref o2, .ref o3, .ref o4, .ref o5, .int 0, .ref o6])), (o5, .inl (cI, 60, .inl tf))] sz) := by
  refine Met.ofW (cc := cX5_type) (maxL := 2) (ret := (some .int)) (by decide +kernel) rfl ?_
  intro p e s m args below meth c s₁ B hml hv
  obtain ⟨rfl, hsz, hP, hK, hD0, hE⟩ := hv
  have hx := B.exec
  have hb := B.bytes
  have hr := B.returns
  have hts := atoms_spec (ws := wm_c_X5_type_ok) B.pre
  have hown : s.vm.findClass RX5 = some m.cls := findClass_of_methodNamed B.named
  have hlocks := B.notSynchronized
  have iRX5 : ∀ w ∈ u_ws RX5 TX5 9, w ∈ wm_c_X5_type_ok := by decide +kernel
  subst hsz
  have hD := hD0.self (sz := s.heap.size)
  generalize hAe : va_A [(h0, .inr (12, [.ref o0, .int 0, .ref g0, .ref o2, .ref o3, .ref o4, .ref o5, .int 0, .ref o6])), (o5, .inl (cI, 60, .inl tf))] s.heap.size = A at hD hE ⊢
  have hA : ∀ q : Nat, s.heap.size ≤ q → A q := fun q h => by rw [← hAe]; exact Or.inr h
  have hS : va_S A s.heap s.heap [] := va_S.rf
  have hl := lv_entry ([.ref h0, .int p0]) (n := 2) (Nat.le_of_ble_eq_true rfl)
  rw [lg_entry_eq]
  generalize (lg_sl ([.ref h0, .int p0]) ++ List.replicate (2 - (lg_sl ([.ref h0, .int p0])).length) Slot.unset).toArray = ls at hl ⊢
  have hl : lv_has ls 2 [(0, .ref h0), (1, .int p0)] := hl
  refine lv_iload_n hx hb dX5_type_0 rfl (lv_at hl 1 rfl) ?_
  refine lv_iconst (v := 0) hx hb dX5_type_1 (by decide) ?_
  refine lv_bipush (v := 9) hx hb dX5_type_2 (by decide) ?_
  have hS0 := hS
  have hFc := va_free (wc := []) hD hS hA [] rfl
  refine va_calli (va_runS (As := [.int p0, .int 0, .int 9]) (rest := []) ⟨hx, hb, hml, hown, hts⟩ (c_X5_isWithin l κ D (s.heap).size (p0) (0) (9) ) (va_cwS 3 hts gd_c_X5_type_ok_4 rfl rfl rfl (by decide +kernel) ⟨(Nat.le_of_ble_eq_true rfl), (Nat.le_of_ble_eq_true rfl)⟩) (preS hE hK hP hD hS hA [] rfl (by decide) [] rfl) rfl rfl hl.1 rfl (lv_room (Nat.le_of_ble_eq_true rfl)) dX5_type_4 ⟨(Nat.le_of_ble_eq_true rfl), (Nat.le_of_ble_eq_true rfl)⟩) hS (fun q _ h => hFc q h) hFc (fun r_1 u t H1 locs ht hvm hw hB hz1 hk1 hS => ?_)
  try dsimp only at hw
  obtain ⟨hP, hD, hK⟩ := jn (wc := []) (wr := [(h0, .inr (12, [.ref o0, .int 0, .ref g0, .ref o2, .ref o3, .ref o4, .ref o5, .int 0, .ref o6])), (o5, .inl (cI, 60, .inl tf))]) (w1 := []) (t1 := []) hP hD hK hS0 hA [] [0, 1] rfl rfl (by decide) (by decide) ht hvm hk1 hB
  generalize H1 = H at hP hS ⊢
  have hP : va_P D vwCl ([(h0, .inr (12, [.ref o0, .int 0, .ref g0, .ref o2, .ref o3, .ref o4, .ref o5, .int 0, .ref o6])), (o5, .inl (cI, 60, .inl tf))]) H := hP
  have hD : va_D A ([(h0, .inr (12, [.ref o0, .int 0, .ref g0, .ref o2, .ref o3, .ref o4, .ref o5, .int 0, .ref o6])), (o5, .inl (cI, 60, .inl tf))]) := hD
  have hK : va_K D vwCl [(cI, .int)] s := hK
  refine W.widen (k := 0) (n := 0) (Nat.le_of_ble_eq_true rfl) (Nat.le_of_ble_eq_true rfl) ?_
  have hw : r_1 = 1 := hw.trans (if_pos hA0)
  subst hw
  refine lv_if_ne (tgt := 21) hx hb dX5_type_7 (by decide) (fun _ => ?_) (fun c_7 => absurd c_7 (by decide))
  refine lv_aload_n hx hb dX5_type_21 rfl (lv_at hl 0 rfl) ?_
  refine va_get (D := D) (ci := 12) (v := .int 0) (C := RX5) (T := TX5) (N := 9) hx hb hts iRX5 hown hK hP 0 rfl rfl 7 (by decide) (hts (.fieldLink RX5 268 "Sowingcourt" "typedCount" "I") (by decide +kernel)) (fun _ h9 => h9) rfl dX5_type_22 ?_
  refine lv_bipush (v := 60) hx hb dX5_type_25 (by decide) ?_
  refine lv_icmp_lt (tgt := 41) hx hb dX5_type_27 (by decide) (fun _ => ?_) (fun c_27 => absurd c_27 (by decide))
  refine lv_aload_n hx hb dX5_type_41 rfl (lv_at hl 0 rfl) ?_
  refine va_get (D := D) (ci := 12) (v := .ref o5) (C := RX5) (T := TX5) (N := 9) hx hb hts iRX5 hown hK hP 0 rfl rfl 6 (by decide) (hts (.fieldLink RX5 46 "Sowingcourt" "typed" "[I") (by decide +kernel)) (fun _ h9 => h9) rfl dX5_type_42 ?_
  refine lv_aload_n hx hb dX5_type_45 rfl (lv_at hl 0 rfl) ?_
  refine va_get (D := D) (ci := 12) (v := .int 0) (C := RX5) (T := TX5) (N := 9) hx hb hts iRX5 hown hK hP 0 rfl rfl 7 (by decide) (hts (.fieldLink RX5 268 "Sowingcourt" "typedCount" "I") (by decide +kernel)) (fun _ h9 => h9) rfl dX5_type_46 ?_
  refine lv_iload_n hx hb dX5_type_49 rfl (lv_at hl 1 rfl) ?_
  refine va_iast hx hb hK hP hD hS 1 0 rfl rfl (i := 0) (by unfold vp_in; decide) dX5_type_50 (fun H locs hP hD hS => ?_)
  have hP : va_P D vwCl ([(h0, .inr (12, [.ref o0, .int 0, .ref g0, .ref o2, .ref o3, .ref o4, .ref o5, .int 0, .ref o6])), (o5, .inl (cI, 60, .inl (upd tf 0 (p0))))]) H := hP
  have hD : va_D A ([(h0, .inr (12, [.ref o0, .int 0, .ref g0, .ref o2, .ref o3, .ref o4, .ref o5, .int 0, .ref o6])), (o5, .inl (cI, 60, .inl (upd tf 0 (p0))))]) := hD
  refine lv_aload_n hx hb dX5_type_51 rfl (lv_at hl 0 rfl) ?_
  refine lv_dup hx hb dX5_type_52 rfl ?_
  refine va_get (D := D) (ci := 12) (v := .int 0) (C := RX5) (T := TX5) (N := 9) hx hb hts iRX5 hown hK hP 0 rfl rfl 7 (by decide) (hts (.fieldLink RX5 268 "Sowingcourt" "typedCount" "I") (by decide +kernel)) (fun _ h9 => h9) rfl dX5_type_53 ?_
  refine lv_iconst (v := 1) hx hb dX5_type_56 (by decide) ?_
  refine lv_iadd hx hb dX5_type_57 ?_
  refine lv_topi (fun v_2 ev_2 => ?_)
  have ev_2 : v_2 = 1 := ev_2.trans (by decide)
  subst ev_2
  refine va_put (D := D) (ci := 12) (v := .int 1) (ty := .int) (C := RX5) (T := TX5) (N := 9) hx hb hts iRX5 tyX5 tyX5_ok nmX5 hown hK hP hD hS 0 rfl rfl 7 (by decide) (hts (.fieldLink RX5 268 "Sowingcourt" "typedCount" "I") (by decide +kernel)) (fun _ h9 => h9) rfl (by decide +kernel) rfl rfl (Nat.le_of_ble_eq_true rfl) dX5_type_58 (fun H locs hP hD hS => ?_)
  have hP : va_P D vwCl ([(h0, .inr (12, [.ref o0, .int 0, .ref g0, .ref o2, .ref o3, .ref o4, .ref o5, .int 1, .ref o6])), (o5, .inl (cI, 60, .inl (upd tf 0 (p0))))]) H := hP
  have hD : va_D A ([(h0, .inr (12, [.ref o0, .int 0, .ref g0, .ref o2, .ref o3, .ref o4, .ref o5, .int 1, .ref o6])), (o5, .inl (cI, 60, .inl (upd tf 0 (p0))))]) := hD
  refine lv_aload_n hx hb dX5_type_61 rfl (lv_at hl 0 rfl) ?_
  refine va_get (D := D) (ci := 12) (v := .int 1) (C := RX5) (T := TX5) (N := 9) hx hb hts iRX5 hown hK hP 0 rfl rfl 7 (by decide) (hts (.fieldLink RX5 268 "Sowingcourt" "typedCount" "I") (by decide +kernel)) (fun _ h9 => h9) rfl dX5_type_62 ?_
  refine W.widen (k := 0) (n := 0) (Nat.le_of_ble_eq_true rfl) (Nat.le_of_ble_eq_true rfl) ?_
  exact W.iret (v := 1) hx hb hr (fun t ht hW => ⟨⟨1, (), rfl, rfl, PB.at hP hK hD hW.alike ht [] rfl (by decide) [] rfl⟩, hS.F ht⟩) hS.2.2 dX5_type_65

def wm_c_X5_type_bad : List Cond := .code yX5_type cX5_type 2 (some .int) :: ([.code yX5_isWithin cX5_isWithin 3 (some .boolean), .methodLink RX5 57 yX5_isWithin, .static yX5_isWithin, .initialized RX5, .classLink RX5 61 "java/lang/IllegalArgumentException", .initialized "java/lang/IllegalArgumentException"] ++ (vx_atS RX5 65 "java/lang/IllegalArgumentException" supX).filter goodWord)
set_option maxRecDepth 20000 in
theorem gd_c_X5_type_bad_4 : GoodIn wm_c_X5_type_bad (va_wsS RX5 57 yX5_isWithin wm_c_X5_isWithin) := goodIn_of _ (by decide +kernel)
set_option maxHeartbeats 4000000 in
set_option maxRecDepth 100000 in
theorem c_X5_type_bad (l : Launch) (hl0 : l.stackTraces = false) (κ : Nat → Nat) (D : va_G) (sz : Nat) (h0 : Nat) (o0 : Nat) (g0 : Nat) (o2 : Nat) (o3 : Nat) (o4 : Nat) (o5 : Nat) (o6 : Nat) (p0 : Int32) (hbad : ¬ ((0 : Int32).toInt ≤ p0.toInt ∧ p0.toInt ≤ (9 : Int32).toInt)) : vx_Met l yX5_type wm_c_X5_type_bad ({ frames := 9, cells := 1, slots := 6, locals := 260 }) (va_Pc [.ref h0, .int p0] (PC κ D [] [(h0, .inr (12, [.ref o0, .int 0, .ref g0, .ref o2, .ref o3, .ref o4, .ref o5, .int 0, .ref o6]))] sz)) (va_Qi (fun (_ : Int32) (_ : Unit) => False) (fun _ _ => True) (va_A [(h0, .inr (12, [.ref o0, .int 0, .ref g0, .ref o2, .ref o3, .ref o4, .ref o5, .int 0, .ref o6]))] sz)) (XQ "java/lang/IllegalArgumentException" D [] [] (va_A [(h0, .inr (12, [.ref o0, .int 0, .ref g0, .ref o2, .ref o3, .ref o4, .ref o5, .int 0, .ref o6]))] sz)) 1 6 (va_A [(h0, .inr (12, [.ref o0, .int 0, .ref g0, .ref o2, .ref o3, .ref o4, .ref o5, .int 0, .ref o6]))] sz) := by
  refine vx_ofW (cc := cX5_type) (maxL := 2) (ret := (some .int)) (by decide +kernel) rfl ?_
  intro p e s m args below meth c s₁ B hml htab hv
  obtain ⟨rfl, hsz, hP, hK, hD0, hE⟩ := hv
  have hx := B.exec
  have hb := B.bytes
  have hr := B.returns
  have hts := atoms_spec (ws := wm_c_X5_type_bad) B.pre
  have hown : s.vm.findClass RX5 = some m.cls := findClass_of_methodNamed B.named
  have hlocks := B.notSynchronized
  subst hsz
  have hD := hD0.self (sz := s.heap.size)
  generalize hAe : va_A [(h0, .inr (12, [.ref o0, .int 0, .ref g0, .ref o2, .ref o3, .ref o4, .ref o5, .int 0, .ref o6]))] s.heap.size = A at hD hE ⊢
  have hA : ∀ q : Nat, s.heap.size ≤ q → A q := fun q h => by rw [← hAe]; exact Or.inr h
  have hS : va_S A s.heap s.heap [] := va_S.rf
  have hl := lv_entry ([.ref h0, .int p0]) (n := 2) (Nat.le_of_ble_eq_true rfl)
  rw [lg_entry_eq]
  generalize (lg_sl ([.ref h0, .int p0]) ++ List.replicate (2 - (lg_sl ([.ref h0, .int p0])).length) Slot.unset).toArray = ls at hl ⊢
  have hl : lv_has ls 2 [(0, .ref h0), (1, .int p0)] := hl
  refine lv_iload_n hx hb dX5_type_0 rfl (lv_at hl 1 rfl) ?_
  refine lv_iconst (v := 0) hx hb dX5_type_1 (by decide) ?_
  refine lv_bipush (v := 9) hx hb dX5_type_2 (by decide) ?_
  have hS0 := hS
  have hFc := va_free (wc := []) hD hS hA [] rfl
  refine va_calli (va_runS (As := [.int p0, .int 0, .int 9]) (rest := []) ⟨hx, hb, hml, hown, hts⟩ (c_X5_isWithin l κ D (s.heap).size (p0) (0) (9) ) (va_cwS 3 hts gd_c_X5_type_bad_4 rfl rfl rfl (by decide +kernel) ⟨(Nat.le_of_ble_eq_true rfl), (Nat.le_of_ble_eq_true rfl)⟩) (preS hE hK hP hD hS hA [] rfl (by decide) [] rfl) rfl rfl hl.1 rfl (lv_room (Nat.le_of_ble_eq_true rfl)) dX5_type_4 ⟨(Nat.le_of_ble_eq_true rfl), (Nat.le_of_ble_eq_true rfl)⟩) hS (fun q _ h => hFc q h) hFc (fun r_1 u t H1 locs ht hvm hw hB hz1 hk1 hS => ?_)
  try dsimp only at hw
  obtain ⟨hP, hD, hK⟩ := jn (wc := []) (wr := [(h0, .inr (12, [.ref o0, .int 0, .ref g0, .ref o2, .ref o3, .ref o4, .ref o5, .int 0, .ref o6]))]) (w1 := []) (t1 := []) hP hD hK hS0 hA [] [0] rfl rfl (by decide) (by decide) ht hvm hk1 hB
  generalize H1 = H at hP hS ⊢
  have hP : va_P D vwCl ([(h0, .inr (12, [.ref o0, .int 0, .ref g0, .ref o2, .ref o3, .ref o4, .ref o5, .int 0, .ref o6]))]) H := hP
  have hD : va_D A ([(h0, .inr (12, [.ref o0, .int 0, .ref g0, .ref o2, .ref o3, .ref o4, .ref o5, .int 0, .ref o6]))]) := hD
  have hK : va_K D vwCl [] s := hK
  refine W.widen (k := 0) (n := 0) (Nat.le_of_ble_eq_true rfl) (Nat.le_of_ble_eq_true rfl) ?_
  have hw : r_1 = 0 := hw.trans (if_neg hbad)
  subst hw
  refine lv_if_ne (tgt := 21) hx hb dX5_type_7 (by decide) (fun c_7 => absurd c_7 (by decide)) (fun _ => ?_)
  exact thSW hx hb hl0 (own := RX5) (cls := "java/lang/IllegalArgumentException") (text := "the hole is out of range") (ik := 61) (is := 266) (ic := 65) hown (by decide +kernel) (hts (.classLink RX5 61 "java/lang/IllegalArgumentException") (by decide +kernel)) (hts (.initialized "java/lang/IllegalArgumentException") (by decide +kernel)) hE.st266 (fun w h => hts w ((by decide +kernel : ∀ w ∈ (vx_atS RX5 65 "java/lang/IllegalArgumentException" supX).filter goodWord, w ∈ wm_c_X5_type_bad) w h)) (by decide +kernel) hE.ca0 (by decide +kernel) hE hS (by rw [hml]; exact hl.1) dX5_type_10 dX5_type_13 dX5_type_14 dX5_type_17 dX5_type_20 htab (Nat.le_of_ble_eq_true rfl) (Nat.le_of_ble_eq_true rfl) (Nat.le_of_ble_eq_true rfl) (Nat.le_of_ble_eq_true rfl) hlocks hP hK hD [] rfl (by decide) [] rfl (Nat.le_of_ble_eq_true rfl) (Nat.le_of_ble_eq_true rfl)

def wm_c_X5_wipe : List Cond := .code yX5_wipe cX5_wipe 2 (some .int) :: ([.fieldLink RX5 268 "Sowingcourt" "typedCount" "I"] ++ wsX50)
set_option maxHeartbeats 4000000 in
set_option maxRecDepth 100000 in
theorem c_X5_wipe (l : Launch) (κ : Nat → Nat) (D : va_G) (sz : Nat) (h0 : Nat) (o0 : Nat) (g0 : Nat) (o2 : Nat) (o3 : Nat) (o4 : Nat) (o5 : Nat) (o6 : Nat)  : Met l yX5_wipe wm_c_X5_wipe ({ frames := 8, cells := 0, slots := 0, locals := 200 }) (va_Pc [.ref h0] (PC κ D [] [(h0, .inr (12, [.ref o0, .int 0, .ref g0, .ref o2, .ref o3, .ref o4, .ref o5, .int 0, .ref o6]))] sz)) (va_Qi (fun (r : Int32) (_ : Unit) => r = 0) (fun _ t => PB D [] [] (va_A [(h0, .inr (12, [.ref o0, .int 0, .ref g0, .ref o2, .ref o3, .ref o4, .ref o5, .int 0, .ref o6]))] sz) t) (va_A [(h0, .inr (12, [.ref o0, .int 0, .ref g0, .ref o2, .ref o3, .ref o4, .ref o5, .int 0, .ref o6]))] sz)) 0 0 (va_A [(h0, .inr (12, [.ref o0, .int 0, .ref g0, .ref o2, .ref o3, .ref o4, .ref o5, .int 0, .ref o6]))] sz) := by
  refine Met.ofW (cc := cX5_wipe) (maxL := 2) (ret := (some .int)) (by decide +kernel) rfl ?_
  intro p e s m args below meth c s₁ B hml hv
  obtain ⟨rfl, hsz, hP, hK, hD0, hE⟩ := hv
  have hx := B.exec
  have hb := B.bytes
  have hr := B.returns
  have hts := atoms_spec (ws := wm_c_X5_wipe) B.pre
  have hown : s.vm.findClass RX5 = some m.cls := findClass_of_methodNamed B.named
  have hlocks := B.notSynchronized
  have iRX5 : ∀ w ∈ u_ws RX5 TX5 9, w ∈ wm_c_X5_wipe := by decide +kernel
  subst hsz
  have hD := hD0.self (sz := s.heap.size)
  generalize hAe : va_A [(h0, .inr (12, [.ref o0, .int 0, .ref g0, .ref o2, .ref o3, .ref o4, .ref o5, .int 0, .ref o6]))] s.heap.size = A at hD hE ⊢
  have hA : ∀ q : Nat, s.heap.size ≤ q → A q := fun q h => by rw [← hAe]; exact Or.inr h
  have hS : va_S A s.heap s.heap [] := va_S.rf
  have hl := lv_entry ([.ref h0]) (n := 2) (Nat.le_of_ble_eq_true rfl)
  rw [lg_entry_eq]
  generalize (lg_sl ([.ref h0]) ++ List.replicate (2 - (lg_sl ([.ref h0])).length) Slot.unset).toArray = ls at hl ⊢
  have hl : lv_has ls 2 [(0, .ref h0)] := hl
  refine lv_aload_n hx hb dX5_wipe_0 rfl (lv_at hl 0 rfl) ?_
  refine va_get (D := D) (ci := 12) (v := .int 0) (C := RX5) (T := TX5) (N := 9) hx hb hts iRX5 hown hK hP 0 rfl rfl 7 (by decide) (hts (.fieldLink RX5 268 "Sowingcourt" "typedCount" "I") (by decide +kernel)) (fun _ h9 => h9) rfl dX5_wipe_1 ?_
  refine lv_istore_n (lv' := [(1, .int 0), (0, .ref h0)]) hx hb dX5_wipe_4 rfl hl (by decide) rfl (fun ls hl => ?_)
  refine lv_aload_n hx hb dX5_wipe_5 rfl (lv_at hl 1 rfl) ?_
  refine lv_iconst (v := 0) hx hb dX5_wipe_6 (by decide) ?_
  refine va_put (D := D) (ci := 12) (v := .int 0) (ty := .int) (C := RX5) (T := TX5) (N := 9) hx hb hts iRX5 tyX5 tyX5_ok nmX5 hown hK hP hD hS 0 rfl rfl 7 (by decide) (hts (.fieldLink RX5 268 "Sowingcourt" "typedCount" "I") (by decide +kernel)) (fun _ h9 => h9) rfl (by decide +kernel) rfl rfl (Nat.le_of_ble_eq_true rfl) dX5_wipe_7 (fun H locs hP hD hS => ?_)
  have hP : va_P D vwCl ([(h0, .inr (12, [.ref o0, .int 0, .ref g0, .ref o2, .ref o3, .ref o4, .ref o5, .int 0, .ref o6]))]) H := hP
  have hD : va_D A ([(h0, .inr (12, [.ref o0, .int 0, .ref g0, .ref o2, .ref o3, .ref o4, .ref o5, .int 0, .ref o6]))]) := hD
  refine lv_iload_n hx hb dX5_wipe_10 rfl (lv_at hl 0 rfl) ?_
  refine W.widen (k := 0) (n := 0) (Nat.le_of_ble_eq_true rfl) (Nat.le_of_ble_eq_true rfl) ?_
  exact W.iret (v := 0) hx hb hr (fun t ht hW => ⟨⟨0, (), rfl, rfl, PB.at hP hK hD hW.alike ht [] rfl (by decide) [] rfl⟩, hS.F ht⟩) hS.2.2 dX5_wipe_11

def wm_c_X5_checksum : List Cond := .code yX5_checksum cX5_checksum 4 (some .long) :: ([.constantLong RX5 293 (7), .fieldLink RX5 19 "Sowingcourt" "game" "LSowingcourt$Game;", .fieldLink RX5 179 "Sowingcourt$Game" "begun" "Z"] ++ wsX50 ++ wsX10)
set_option maxHeartbeats 4000000 in
set_option maxRecDepth 100000 in
theorem c_X5_checksum (l : Launch) (κ : Nat → Nat) (D : va_G) (sz : Nat) (h0 : Nat) (o0 : Nat) (g0 : Nat) (o2 : Nat) (o3 : Nat) (o4 : Nat) (o5 : Nat) (o6 : Nat) (g1 : Nat) (g2 : Nat) (g3 : Nat) (g4 : Nat) (g5 : Nat) (g6 : Nat)  : Met l yX5_checksum wm_c_X5_checksum ({ frames := 8, cells := 0, slots := 0, locals := 200 }) (va_Pc [.ref h0] (PC κ D [] [(h0, .inr (12, [.ref o0, .int 0, .ref g0, .ref o2, .ref o3, .ref o4, .ref o5, .int 0, .ref o6])), (g0, .inr (8, [.ref g1, .ref g2, .ref g3, .ref g4, .ref g5, .ref g6, .int 0, .int 0, .int 0, .int 0]))] sz)) (va_Ql (fun (r : Int64) (_ : Unit) => r = 7) (fun _ t => PB D [] [] (va_A [(h0, .inr (12, [.ref o0, .int 0, .ref g0, .ref o2, .ref o3, .ref o4, .ref o5, .int 0, .ref o6])), (g0, .inr (8, [.ref g1, .ref g2, .ref g3, .ref g4, .ref g5, .ref g6, .int 0, .int 0, .int 0, .int 0]))] sz) t) (va_A [(h0, .inr (12, [.ref o0, .int 0, .ref g0, .ref o2, .ref o3, .ref o4, .ref o5, .int 0, .ref o6])), (g0, .inr (8, [.ref g1, .ref g2, .ref g3, .ref g4, .ref g5, .ref g6, .int 0, .int 0, .int 0, .int 0]))] sz)) 0 0 (va_A [(h0, .inr (12, [.ref o0, .int 0, .ref g0, .ref o2, .ref o3, .ref o4, .ref o5, .int 0, .ref o6])), (g0, .inr (8, [.ref g1, .ref g2, .ref g3, .ref g4, .ref g5, .ref g6, .int 0, .int 0, .int 0, .int 0]))] sz) := by
  refine Met.ofW (cc := cX5_checksum) (maxL := 4) (ret := (some .long)) (by decide +kernel) rfl ?_
  intro p e s m args below meth c s₁ B hml hv
  obtain ⟨rfl, hsz, hP, hK, hD0, hE⟩ := hv
  have hx := B.exec
  have hb := B.bytes
  have hr := B.returns
  have hts := atoms_spec (ws := wm_c_X5_checksum) B.pre
  have hown : s.vm.findClass RX5 = some m.cls := findClass_of_methodNamed B.named
  have hlocks := B.notSynchronized
  have iRX5 : ∀ w ∈ u_ws RX5 TX5 9, w ∈ wm_c_X5_checksum := by decide +kernel
  have iRX1 : ∀ w ∈ u_ws RX1 TX1 10, w ∈ wm_c_X5_checksum := by decide +kernel
  subst hsz
  have hD := hD0.self (sz := s.heap.size)
  generalize hAe : va_A [(h0, .inr (12, [.ref o0, .int 0, .ref g0, .ref o2, .ref o3, .ref o4, .ref o5, .int 0, .ref o6])), (g0, .inr (8, [.ref g1, .ref g2, .ref g3, .ref g4, .ref g5, .ref g6, .int 0, .int 0, .int 0, .int 0]))] s.heap.size = A at hD hE ⊢
  have hA : ∀ q : Nat, s.heap.size ≤ q → A q := fun q h => by rw [← hAe]; exact Or.inr h
  have hS : va_S A s.heap s.heap [] := va_S.rf
  have hl := lv_entry ([.ref h0]) (n := 4) (Nat.le_of_ble_eq_true rfl)
  rw [lg_entry_eq]
  generalize (lg_sl ([.ref h0]) ++ List.replicate (4 - (lg_sl ([.ref h0])).length) Slot.unset).toArray = ls at hl ⊢
  have hl : lv_has ls 4 [(0, .ref h0)] := hl
  refine lv_ldc2 (v := 7) hx hb hown (hts (.constantLong RX5 293 (7)) (by decide +kernel)) dX5_checksum_0 ?_
  refine lv_lstore_n (lv' := [(1, .long 7), (0, .ref h0)]) hx hb dX5_checksum_3 rfl hl (by decide) rfl (fun ls hl => ?_)
  refine lv_aload_n hx hb dX5_checksum_4 rfl (lv_at hl 1 rfl) ?_
  refine va_get (D := D) (ci := 12) (v := .ref g0) (C := RX5) (T := TX5) (N := 9) hx hb hts iRX5 hown hK hP 0 rfl rfl 2 (by decide) (hts (.fieldLink RX5 19 "Sowingcourt" "game" "LSowingcourt$Game;") (by decide +kernel)) (fun _ h9 => h9) rfl dX5_checksum_5 ?_
  refine va_get (D := D) (ci := 8) (v := .int 0) (C := RX1) (T := TX1) (N := 10) hx hb hts iRX1 hown hK hP 1 rfl rfl 7 (by decide) (hts (.fieldLink RX5 179 "Sowingcourt$Game" "begun" "Z") (by decide +kernel)) (fun _ h9 => h9) rfl dX5_checksum_8 ?_
  refine lv_if_ne (tgt := 16) hx hb dX5_checksum_11 (by decide) (fun c_11 => absurd c_11 (by decide)) (fun _ => ?_)
  refine lv_lload_n hx hb dX5_checksum_14 rfl (lv_at hl 0 rfl) ?_
  refine W.widen (k := 0) (n := 0) (Nat.le_of_ble_eq_true rfl) (Nat.le_of_ble_eq_true rfl) ?_
  exact W.lret (v := 7) hx hb hr (fun t ht hW => ⟨⟨7, (), rfl, rfl, PB.at hP hK hD hW.alike ht [] rfl (by decide) [] rfl⟩, hS.F ht⟩) hS.2.2 dX5_checksum_15

def wm_c_X5_isSound : List Cond := .code yX5_isSound cX5_isSound 1 (some .boolean) :: ([.fieldLink RX5 19 "Sowingcourt" "game" "LSowingcourt$Game;", .fieldLink RX5 179 "Sowingcourt$Game" "begun" "Z"] ++ wsX50 ++ wsX10)
set_option maxHeartbeats 4000000 in
set_option maxRecDepth 100000 in
theorem c_X5_isSound (l : Launch) (κ : Nat → Nat) (D : va_G) (sz : Nat) (h0 : Nat) (o0 : Nat) (g0 : Nat) (o2 : Nat) (o3 : Nat) (o4 : Nat) (o5 : Nat) (o6 : Nat) (g1 : Nat) (g2 : Nat) (g3 : Nat) (g4 : Nat) (g5 : Nat) (g6 : Nat)  : Met l yX5_isSound wm_c_X5_isSound ({ frames := 8, cells := 0, slots := 0, locals := 200 }) (va_Pc [.ref h0] (PC κ D [] [(h0, .inr (12, [.ref o0, .int 0, .ref g0, .ref o2, .ref o3, .ref o4, .ref o5, .int 0, .ref o6])), (g0, .inr (8, [.ref g1, .ref g2, .ref g3, .ref g4, .ref g5, .ref g6, .int 0, .int 0, .int 0, .int 0]))] sz)) (va_Qi (fun (r : Int32) (_ : Unit) => r = 1) (fun _ t => PB D [] [] (va_A [(h0, .inr (12, [.ref o0, .int 0, .ref g0, .ref o2, .ref o3, .ref o4, .ref o5, .int 0, .ref o6])), (g0, .inr (8, [.ref g1, .ref g2, .ref g3, .ref g4, .ref g5, .ref g6, .int 0, .int 0, .int 0, .int 0]))] sz) t) (va_A [(h0, .inr (12, [.ref o0, .int 0, .ref g0, .ref o2, .ref o3, .ref o4, .ref o5, .int 0, .ref o6])), (g0, .inr (8, [.ref g1, .ref g2, .ref g3, .ref g4, .ref g5, .ref g6, .int 0, .int 0, .int 0, .int 0]))] sz)) 0 0 (va_A [(h0, .inr (12, [.ref o0, .int 0, .ref g0, .ref o2, .ref o3, .ref o4, .ref o5, .int 0, .ref o6])), (g0, .inr (8, [.ref g1, .ref g2, .ref g3, .ref g4, .ref g5, .ref g6, .int 0, .int 0, .int 0, .int 0]))] sz) := by
  refine Met.ofW (cc := cX5_isSound) (maxL := 1) (ret := (some .boolean)) (by decide +kernel) rfl ?_
  intro p e s m args below meth c s₁ B hml hv
  obtain ⟨rfl, hsz, hP, hK, hD0, hE⟩ := hv
  have hx := B.exec
  have hb := B.bytes
  have hr := B.returns
  have hts := atoms_spec (ws := wm_c_X5_isSound) B.pre
  have hown : s.vm.findClass RX5 = some m.cls := findClass_of_methodNamed B.named
  have hlocks := B.notSynchronized
  have iRX5 : ∀ w ∈ u_ws RX5 TX5 9, w ∈ wm_c_X5_isSound := by decide +kernel
  have iRX1 : ∀ w ∈ u_ws RX1 TX1 10, w ∈ wm_c_X5_isSound := by decide +kernel
  subst hsz
  have hD := hD0.self (sz := s.heap.size)
  generalize hAe : va_A [(h0, .inr (12, [.ref o0, .int 0, .ref g0, .ref o2, .ref o3, .ref o4, .ref o5, .int 0, .ref o6])), (g0, .inr (8, [.ref g1, .ref g2, .ref g3, .ref g4, .ref g5, .ref g6, .int 0, .int 0, .int 0, .int 0]))] s.heap.size = A at hD hE ⊢
  have hA : ∀ q : Nat, s.heap.size ≤ q → A q := fun q h => by rw [← hAe]; exact Or.inr h
  have hS : va_S A s.heap s.heap [] := va_S.rf
  have hl := lv_entry ([.ref h0]) (n := 1) (Nat.le_of_ble_eq_true rfl)
  rw [lg_entry_eq]
  generalize (lg_sl ([.ref h0]) ++ List.replicate (1 - (lg_sl ([.ref h0])).length) Slot.unset).toArray = ls at hl ⊢
  have hl : lv_has ls 1 [(0, .ref h0)] := hl
  refine lv_aload_n hx hb dX5_isSound_0 rfl (lv_at hl 0 rfl) ?_
  refine va_get (D := D) (ci := 12) (v := .ref g0) (C := RX5) (T := TX5) (N := 9) hx hb hts iRX5 hown hK hP 0 rfl rfl 2 (by decide) (hts (.fieldLink RX5 19 "Sowingcourt" "game" "LSowingcourt$Game;") (by decide +kernel)) (fun _ h9 => h9) rfl dX5_isSound_1 ?_
  refine va_get (D := D) (ci := 8) (v := .int 0) (C := RX1) (T := TX1) (N := 10) hx hb hts iRX1 hown hK hP 1 rfl rfl 7 (by decide) (hts (.fieldLink RX5 179 "Sowingcourt$Game" "begun" "Z") (by decide +kernel)) (fun _ h9 => h9) rfl dX5_isSound_4 ?_
  refine lv_if_eq (tgt := 41) hx hb dX5_isSound_7 (by decide) (fun _ => ?_) (fun c_7 => absurd c_7 (by decide))
  refine lv_iconst (v := 1) hx hb dX5_isSound_41 (by decide) ?_
  refine lv_goto (tgt := 46) hx hb dX5_isSound_42 (by decide) ?_
  refine W.widen (k := 0) (n := 0) (Nat.le_of_ble_eq_true rfl) (Nat.le_of_ble_eq_true rfl) ?_
  exact W.zret (v := 1) hx hb hr (by decide) (fun t ht hW => ⟨⟨1, (), rfl, rfl, PB.at hP hK hD hW.alike ht [] rfl (by decide) [] rfl⟩, hS.F ht⟩) hS.2.2 dX5_isSound_46
