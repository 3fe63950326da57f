theorem toI_1 : (1 : Int32).toInt = 1 := by decide
theorem toI_0 : (0 : Int32).toInt = 0 := by decide
theorem toI_2 : (2 : Int32).toInt = 2 := by decide
theorem toI_5 : (5 : Int32).toInt = 5 := by decide
theorem toI_9 : (9 : Int32).toInt = 9 := by decide
theorem toI_10 : (10 : Int32).toInt = 10 := by decide
theorem toI_50 : (50 : Int32).toInt = 50 := by decide
theorem nI0 {h : Nat} (hb : h < 2 ^ 31) (e : nI h = 0) : h = 0 := (nI_eq hb (by omega)).mp (e.trans nI_0.symm)

def wm_c_X2_isLap : List Cond := .code yX2_isLap cX2_isLap 1 (some .boolean) :: ([])
set_option maxHeartbeats 4000000 in
set_option maxRecDepth 100000 in
theorem c_X2_isLap (l : Launch) (κ : Nat → Nat) (D : va_G) (sz : Nat) (p0 : Int32)  : Met l yX2_isLap wm_c_X2_isLap ({ frames := 8, cells := 0, slots := 0, locals := 200 }) (va_Pc [.int p0] (PC κ D [] [] sz)) (va_Qi (fun (r : Int32) (_ : Unit) => r = if p0 = 115 ∨ p0 = 114 ∨ p0 = 112 then 1 else 0) (fun _ t => PB D [] [] (va_A [] sz) t) (va_A [] sz)) 0 0 (va_A [] sz) := by
  refine Met.ofW (cc := cX2_isLap) (maxL := 1) (ret := (some .boolean)) (by decide +kernel) rfl ?_
  intro p e s m args below meth c s₁ B hml hv
  obtain ⟨rfl, hsz, hP, hK, hD0, hE⟩ := hv
  have hx := B.exec
  have hb := B.bytes
  have hr := B.returns
  have hts := atoms_spec (ws := wm_c_X2_isLap) B.pre
  have hown : s.vm.findClass RX2 = some m.cls := findClass_of_methodNamed B.named
  have hlocks := B.notSynchronized
  subst hsz
  have hD := hD0.self (sz := s.heap.size)
  generalize hAe : va_A [] s.heap.size = A at hD hE ⊢
  have hA : ∀ q : Nat, s.heap.size ≤ q → A q := fun q h => by rw [← hAe]; exact Or.inr h
  have hS : va_S A s.heap s.heap [] := va_S.rf
  have hl := lv_entry ([.int p0]) (n := 1) (Nat.le_of_ble_eq_true rfl)
  rw [lg_entry_eq]
  generalize (lg_sl ([.int p0]) ++ List.replicate (1 - (lg_sl ([.int p0])).length) Slot.unset).toArray = ls at hl ⊢
  have hl : lv_has ls 1 [(0, .int p0)] := hl
  refine lv_iload_n hx hb dX2_isLap_0 rfl (lv_at hl 0 rfl) ?_
  refine lv_bipush (v := 115) hx hb dX2_isLap_1 (by decide) ?_
  refine lv_icmp_eq (tgt := 18) hx hb dX2_isLap_3 (by decide) (fun c_3 => ?_) (fun c_3 => ?_)
  · refine lv_iconst (v := 1) hx hb dX2_isLap_18 (by decide) ?_
    refine lv_goto (tgt := 23) hx hb dX2_isLap_19 (by decide) ?_
    refine W.widen (k := 0) (n := 0) (Nat.le_of_ble_eq_true rfl) (Nat.le_of_ble_eq_true rfl) ?_
    exact W.zret (v := 1) hx hb hr (by decide) (fun t ht hW => ⟨⟨1, (), rfl, (if_pos (Or.inl c_3)).symm, PB.at hP hK hD hW.alike ht [] rfl (by decide) [] rfl⟩, hS.F ht⟩) hS.2.2 dX2_isLap_23
  · refine lv_iload_n hx hb dX2_isLap_6 rfl (lv_at hl 0 rfl) ?_
    refine lv_bipush (v := 114) hx hb dX2_isLap_7 (by decide) ?_
    refine lv_icmp_eq (tgt := 18) hx hb dX2_isLap_9 (by decide) (fun c_9 => ?_) (fun c_9 => ?_)
    · refine lv_iconst (v := 1) hx hb dX2_isLap_18 (by decide) ?_
      refine lv_goto (tgt := 23) hx hb dX2_isLap_19 (by decide) ?_
      refine W.widen (k := 0) (n := 0) (Nat.le_of_ble_eq_true rfl) (Nat.le_of_ble_eq_true rfl) ?_
      exact W.zret (v := 1) hx hb hr (by decide) (fun t ht hW => ⟨⟨1, (), rfl, (if_pos (Or.inr (Or.inl c_9))).symm, PB.at hP hK hD hW.alike ht [] rfl (by decide) [] rfl⟩, hS.F ht⟩) hS.2.2 dX2_isLap_23
    · refine lv_iload_n hx hb dX2_isLap_12 rfl (lv_at hl 0 rfl) ?_
      refine lv_bipush (v := 112) hx hb dX2_isLap_13 (by decide) ?_
      refine lv_icmp_ne (tgt := 22) hx hb dX2_isLap_15 (by decide) (fun c_15 => ?_) (fun c_15 => ?_)
      · refine lv_iconst (v := 0) hx hb dX2_isLap_22 (by decide) ?_
        refine W.widen (k := 0) (n := 0) (Nat.le_of_ble_eq_true rfl) (Nat.le_of_ble_eq_true rfl) ?_
        exact W.zret (v := 0) hx hb hr (by decide) (fun t ht hW => ⟨⟨0, (), rfl, (if_neg (fun h => h.elim c_3 (fun h => h.elim c_9 c_15))).symm, PB.at hP hK hD hW.alike ht [] rfl (by decide) [] rfl⟩, hS.F ht⟩) hS.2.2 dX2_isLap_23
      · refine lv_iconst (v := 1) hx hb dX2_isLap_18 (by decide) ?_
        refine lv_goto (tgt := 23) hx hb dX2_isLap_19 (by decide) ?_
        refine W.widen (k := 0) (n := 0) (Nat.le_of_ble_eq_true rfl) (Nat.le_of_ble_eq_true rfl) ?_
        exact W.zret (v := 1) hx hb hr (by decide) (fun t ht hW => ⟨⟨1, (), rfl, (if_pos (Or.inr (Or.inr (c_15)))).symm, PB.at hP hK hD hW.alike ht [] rfl (by decide) [] rfl⟩, hS.F ht⟩) hS.2.2 dX2_isLap_23

def wm_c_X2_isCapture : List Cond := .code yX2_isCapture cX2_isCapture 1 (some .boolean) :: ([])
set_option maxHeartbeats 4000000 in
set_option maxRecDepth 100000 in
theorem c_X2_isCapture (l : Launch) (κ : Nat → Nat) (D : va_G) (sz : Nat) (p0 : Int32)  : Met l yX2_isCapture wm_c_X2_isCapture ({ frames := 8, cells := 0, slots := 0, locals := 200 }) (va_Pc [.int p0] (PC κ D [] [] sz)) (va_Qi (fun (r : Int32) (_ : Unit) => r = if p0 = 110 ∨ p0 = 111 ∨ p0 = 99 ∨ p0 = 101 then 1 else 0) (fun _ t => PB D [] [] (va_A [] sz) t) (va_A [] sz)) 0 0 (va_A [] sz) := by
  refine Met.ofW (cc := cX2_isCapture) (maxL := 1) (ret := (some .boolean)) (by decide +kernel) rfl ?_
  intro p e s m args below meth c s₁ B hml hv
  obtain ⟨rfl, hsz, hP, hK, hD0, hE⟩ := hv
  have hx := B.exec
  have hb := B.bytes
  have hr := B.returns
  have hts := atoms_spec (ws := wm_c_X2_isCapture) B.pre
  have hown : s.vm.findClass RX2 = some m.cls := findClass_of_methodNamed B.named
  have hlocks := B.notSynchronized
  subst hsz
  have hD := hD0.self (sz := s.heap.size)
  generalize hAe : va_A [] s.heap.size = A at hD hE ⊢
  have hA : ∀ q : Nat, s.heap.size ≤ q → A q := fun q h => by rw [← hAe]; exact Or.inr h
  have hS : va_S A s.heap s.heap [] := va_S.rf
  have hl := lv_entry ([.int p0]) (n := 1) (Nat.le_of_ble_eq_true rfl)
  rw [lg_entry_eq]
  generalize (lg_sl ([.int p0]) ++ List.replicate (1 - (lg_sl ([.int p0])).length) Slot.unset).toArray = ls at hl ⊢
  have hl : lv_has ls 1 [(0, .int p0)] := hl
  refine lv_iload_n hx hb dX2_isCapture_0 rfl (lv_at hl 0 rfl) ?_
  refine lv_bipush (v := 110) hx hb dX2_isCapture_1 (by decide) ?_
  refine lv_icmp_eq (tgt := 24) hx hb dX2_isCapture_3 (by decide) (fun c_3 => ?_) (fun c_3 => ?_)
  · refine lv_iconst (v := 1) hx hb dX2_isCapture_24 (by decide) ?_
    refine lv_goto (tgt := 29) hx hb dX2_isCapture_25 (by decide) ?_
    refine W.widen (k := 0) (n := 0) (Nat.le_of_ble_eq_true rfl) (Nat.le_of_ble_eq_true rfl) ?_
    exact W.zret (v := 1) hx hb hr (by decide) (fun t ht hW => ⟨⟨1, (), rfl, (if_pos (Or.inl c_3)).symm, PB.at hP hK hD hW.alike ht [] rfl (by decide) [] rfl⟩, hS.F ht⟩) hS.2.2 dX2_isCapture_29
  · refine lv_iload_n hx hb dX2_isCapture_6 rfl (lv_at hl 0 rfl) ?_
    refine lv_bipush (v := 111) hx hb dX2_isCapture_7 (by decide) ?_
    refine lv_icmp_eq (tgt := 24) hx hb dX2_isCapture_9 (by decide) (fun c_9 => ?_) (fun c_9 => ?_)
    · refine lv_iconst (v := 1) hx hb dX2_isCapture_24 (by decide) ?_
      refine lv_goto (tgt := 29) hx hb dX2_isCapture_25 (by decide) ?_
      refine W.widen (k := 0) (n := 0) (Nat.le_of_ble_eq_true rfl) (Nat.le_of_ble_eq_true rfl) ?_
      exact W.zret (v := 1) hx hb hr (by decide) (fun t ht hW => ⟨⟨1, (), rfl, (if_pos (Or.inr (Or.inl c_9))).symm, PB.at hP hK hD hW.alike ht [] rfl (by decide) [] rfl⟩, hS.F ht⟩) hS.2.2 dX2_isCapture_29
    · refine lv_iload_n hx hb dX2_isCapture_12 rfl (lv_at hl 0 rfl) ?_
      refine lv_bipush (v := 99) hx hb dX2_isCapture_13 (by decide) ?_
      refine lv_icmp_eq (tgt := 24) hx hb dX2_isCapture_15 (by decide) (fun c_15 => ?_) (fun c_15 => ?_)
      · refine lv_iconst (v := 1) hx hb dX2_isCapture_24 (by decide) ?_
        refine lv_goto (tgt := 29) hx hb dX2_isCapture_25 (by decide) ?_
        refine W.widen (k := 0) (n := 0) (Nat.le_of_ble_eq_true rfl) (Nat.le_of_ble_eq_true rfl) ?_
        exact W.zret (v := 1) hx hb hr (by decide) (fun t ht hW => ⟨⟨1, (), rfl, (if_pos (Or.inr (Or.inr (Or.inl c_15)))).symm, PB.at hP hK hD hW.alike ht [] rfl (by decide) [] rfl⟩, hS.F ht⟩) hS.2.2 dX2_isCapture_29
      · refine lv_iload_n hx hb dX2_isCapture_18 rfl (lv_at hl 0 rfl) ?_
        refine lv_bipush (v := 101) hx hb dX2_isCapture_19 (by decide) ?_
        refine lv_icmp_ne (tgt := 28) hx hb dX2_isCapture_21 (by decide) (fun c_21 => ?_) (fun c_21 => ?_)
        · refine lv_iconst (v := 0) hx hb dX2_isCapture_28 (by decide) ?_
          refine W.widen (k := 0) (n := 0) (Nat.le_of_ble_eq_true rfl) (Nat.le_of_ble_eq_true rfl) ?_
          exact W.zret (v := 0) hx hb hr (by decide) (fun t ht hW => ⟨⟨0, (), rfl, (if_neg (fun h => h.elim c_3 (fun h => h.elim c_9 (fun h => h.elim c_15 c_21)))).symm, PB.at hP hK hD hW.alike ht [] rfl (by decide) [] rfl⟩, hS.F ht⟩) hS.2.2 dX2_isCapture_29
        · refine lv_iconst (v := 1) hx hb dX2_isCapture_24 (by decide) ?_
          refine lv_goto (tgt := 29) hx hb dX2_isCapture_25 (by decide) ?_
          refine W.widen (k := 0) (n := 0) (Nat.le_of_ble_eq_true rfl) (Nat.le_of_ble_eq_true rfl) ?_
          exact W.zret (v := 1) hx hb hr (by decide) (fun t ht hW => ⟨⟨1, (), rfl, (if_pos (Or.inr (Or.inr (Or.inr (c_21))))).symm, PB.at hP hK hD hW.alike ht [] rfl (by decide) [] rfl⟩, hS.F ht⟩) hS.2.2 dX2_isCapture_29

def wm_c_X5_needRoomForKind : List Cond := .code yX5_needRoomForKind cX5_needRoomForKind 1 none :: ([.fieldLink RX5 80 "Sowingcourt" "kindCount" "I"] ++ wsX50)
set_option maxHeartbeats 4000000 in
set_option maxRecDepth 100000 in
theorem c_X5_needRoomForKind (l : Launch) (κ : Nat → Nat) (D : va_G) (sz : Nat) (h0 : Nat) (o0 : Nat) (g0 : Nat) (o2 : Nat) (o3 : Nat) (o4 : Nat) (o5 : Nat) (o6 : Nat)  : Met l yX5_needRoomForKind wm_c_X5_needRoomForKind ({ frames := 8, cells := 0, slots := 0, locals := 200 }) (va_Pc [.ref h0] (PC κ D [] [(h0, .inr (12, [.ref o0, .int 0, .ref g0, .ref o2, .ref o3, .ref o4, .ref o5, .int 0, .ref o6]))] sz)) (va_Qv (fun _ : Unit => True) (fun _ t => PB D [] [(h0, .inr (12, [.ref o0, .int 0, .ref g0, .ref o2, .ref o3, .ref o4, .ref o5, .int 0, .ref o6]))] (va_A [(h0, .inr (12, [.ref o0, .int 0, .ref g0, .ref o2, .ref o3, .ref o4, .ref o5, .int 0, .ref o6]))] sz) t) (va_A [(h0, .inr (12, [.ref o0, .int 0, .ref g0, .ref o2, .ref o3, .ref o4, .ref o5, .int 0, .ref o6]))] sz)) 0 0 (va_A [(h0, .inr (12, [.ref o0, .int 0, .ref g0, .ref o2, .ref o3, .ref o4, .ref o5, .int 0, .ref o6]))] sz) := by
  refine Met.ofW (cc := cX5_needRoomForKind) (maxL := 1) (ret := none) (by decide +kernel) rfl ?_
  intro p e s m args below meth c s₁ B hml hv
  obtain ⟨rfl, hsz, hP, hK, hD0, hE⟩ := hv
  have hx := B.exec
  have hb := B.bytes
  have hr := B.returns
  have hts := atoms_spec (ws := wm_c_X5_needRoomForKind) B.pre
  have hown : s.vm.findClass RX5 = some m.cls := findClass_of_methodNamed B.named
  have hlocks := B.notSynchronized
  have iRX5 : ∀ w ∈ u_ws RX5 TX5 9, w ∈ wm_c_X5_needRoomForKind := by decide +kernel
  subst hsz
  have hD := hD0.self (sz := s.heap.size)
  generalize hAe : va_A [(h0, .inr (12, [.ref o0, .int 0, .ref g0, .ref o2, .ref o3, .ref o4, .ref o5, .int 0, .ref o6]))] s.heap.size = A at hD hE ⊢
  have hA : ∀ q : Nat, s.heap.size ≤ q → A q := fun q h => by rw [← hAe]; exact Or.inr h
  have hS : va_S A s.heap s.heap [] := va_S.rf
  have hl := lv_entry ([.ref h0]) (n := 1) (Nat.le_of_ble_eq_true rfl)
  rw [lg_entry_eq]
  generalize (lg_sl ([.ref h0]) ++ List.replicate (1 - (lg_sl ([.ref h0])).length) Slot.unset).toArray = ls at hl ⊢
  have hl : lv_has ls 1 [(0, .ref h0)] := hl
  refine lv_aload_n hx hb dX5_needRoomForKind_0 rfl (lv_at hl 0 rfl) ?_
  refine va_get (D := D) (ci := 12) (v := .int 0) (C := RX5) (T := TX5) (N := 9) hx hb hts iRX5 hown hK hP 0 rfl rfl 1 (by decide) (hts (.fieldLink RX5 80 "Sowingcourt" "kindCount" "I") (by decide +kernel)) (fun _ h9 => h9) rfl dX5_needRoomForKind_1 ?_
  refine lv_bipush (v := 6) hx hb dX5_needRoomForKind_4 (by decide) ?_
  refine lv_icmp_lt (tgt := 20) hx hb dX5_needRoomForKind_6 (by decide) (fun _ => ?_) (fun c_6 => absurd c_6 (by decide))
  refine W.widen (k := 0) (n := 0) (Nat.le_of_ble_eq_true rfl) (Nat.le_of_ble_eq_true rfl) ?_
  exact W.vret hx hb hr (fun t ht hW => ⟨⟨(), rfl, trivial, PB.at hP hK hD hW.alike ht [0] rfl (by decide) [] rfl⟩, hS.F ht⟩) hS.2.2 dX5_needRoomForKind_20

def wm_c_X5_kind_ok : List Cond := .code yX5_kind cX5_kind 6 (some .int) :: ([.code yX5_isWithin cX5_isWithin 3 (some .boolean), .methodLink RX5 57 yX5_isWithin, .static yX5_isWithin, .initialized RX5, .code yX2_isLap cX2_isLap 1 (some .boolean), .methodLink RX5 68 yX2_isLap, .static yX2_isLap, .initialized RX2, .code yX2_isCapture cX2_isCapture 1 (some .boolean), .methodLink RX5 72 yX2_isCapture, .static yX2_isCapture, .code yX5_needRoomForKind cX5_needRoomForKind 1 none, .fieldLink RX5 80 "Sowingcourt" "kindCount" "I", .methodLink RX5 77 yX5_needRoomForKind, .instanceMethod yX5_needRoomForKind, .selects RX5 yX5_needRoomForKind yX5_needRoomForKind, .fieldLink RX5 11 "Sowingcourt" "kinds" "[LSowingcourt$Kind;", .fieldLink RX5 84 "Sowingcourt$Kind" "holesEach" "I", .fieldLink RX5 87 "Sowingcourt$Kind" "seedsEach" "I", .fieldLink RX5 90 "Sowingcourt$Kind" "lap" "C", .fieldLink RX5 94 "Sowingcourt$Kind" "capture" "C"] ++ wsX50 ++ wsX20)
set_option maxRecDepth 20000 in
theorem gd_c_X5_kind_ok_3 : GoodIn wm_c_X5_kind_ok (va_wsS RX5 57 yX5_isWithin wm_c_X5_isWithin) := goodIn_of _ (by decide +kernel)
set_option maxRecDepth 20000 in
theorem gd_c_X5_kind_ok_12 : GoodIn wm_c_X5_kind_ok (va_wsS RX5 57 yX5_isWithin wm_c_X5_isWithin) := goodIn_of _ (by decide +kernel)
set_option maxRecDepth 20000 in
theorem gd_c_X5_kind_ok_29 : GoodIn wm_c_X5_kind_ok (va_wsS RX5 68 yX2_isLap wm_c_X2_isLap) := goodIn_of _ (by decide +kernel)
set_option maxRecDepth 20000 in
theorem gd_c_X5_kind_ok_37 : GoodIn wm_c_X5_kind_ok (va_wsS RX5 72 yX2_isCapture wm_c_X2_isCapture) := goodIn_of _ (by decide +kernel)
set_option maxRecDepth 20000 in
theorem gd_c_X5_kind_ok_54 : GoodIn wm_c_X5_kind_ok (wsV RX5 77 RX5 yX5_needRoomForKind wm_c_X5_needRoomForKind) := goodIn_of _ (by decide +kernel)
set_option maxHeartbeats 4000000 in
set_option maxRecDepth 100000 in
theorem c_X5_kind_ok (l : Launch) (κ : Nat → Nat) (D : va_G) (sz : Nat) (h0 : Nat) (o0 : Nat) (g0 : Nat) (o2 : Nat) (o3 : Nat) (o4 : Nat) (o5 : Nat) (o6 : Nat) (p0 : Int32) (p1 : Int32) (p2 : Int32) (p3 : Int32) (k0 : Nat) (kr : Nat) (cK : ClassId) (kf : Nat → Option Nat) (hkf : kf 0 = some k0) (hA0 : (2 : Int32).toInt ≤ p0.toInt ∧ p0.toInt ≤ (5 : Int32).toInt) (hB0 : (1 : Int32).toInt ≤ p1.toInt ∧ p1.toInt ≤ (5 : Int32).toInt) (hL0 : p2 = 115 ∨ p2 = 114 ∨ p2 = 112) (hC0 : p3 = 110 ∨ p3 = 111 ∨ p3 = 99 ∨ p3 = 101) (n2 : narrow .char (.int p2) = .int p2) (f2 : fits .char (.int p2) = true) (n3 : narrow .char (.int p3) = .int p3) (f3 : fits .char (.int p3) = true) : Met l yX5_kind wm_c_X5_kind_ok ({ frames := 10, cells := 0, slots := 0, locals := 320 }) (va_Pc [.ref h0, .int p0, .int p1, .int p2, .int p3] (PC κ D [(cK, .object "Sowingcourt$Kind")] [(h0, .inr (12, [.ref o0, .int 0, .ref g0, .ref o2, .ref o3, .ref o4, .ref o5, .int 0, .ref o6])), (o0, .inl (cK, 6, .inr (.inr (.inr (.inr kf))))), (k0, .inr (9, [.int 2, .int 1, .int 115, .int 110, .ref kr]))] sz)) (va_Qi (fun (r : Int32) (_ : Unit) => r = 0) (fun _ t => PB D [] [] (va_A [(h0, .inr (12, [.ref o0, .int 0, .ref g0, .ref o2, .ref o3, .ref o4, .ref o5, .int 0, .ref o6])), (o0, .inl (cK, 6, .inr (.inr (.inr (.inr kf))))), (k0, .inr (9, [.int 2, .int 1, .int 115, .int 110, .ref kr]))] sz) t) (va_A [(h0, .inr (12, [.ref o0, .int 0, .ref g0, .ref o2, .ref o3, .ref o4, .ref o5, .int 0, .ref o6])), (o0, .inl (cK, 6, .inr (.inr (.inr (.inr kf))))), (k0, .inr (9, [.int 2, .int 1, .int 115, .int 110, .ref kr]))] sz)) 0 0 (va_A [(h0, .inr (12, [.ref o0, .int 0, .ref g0, .ref o2, .ref o3, .ref o4, .ref o5, .int 0, .ref o6])), (o0, .inl (cK, 6, .inr (.inr (.inr (.inr kf))))), (k0, .inr (9, [.int 2, .int 1, .int 115, .int 110, .ref kr]))] sz) := by
  refine Met.ofW (cc := cX5_kind) (maxL := 6) (ret := (some .int)) (by decide +kernel) rfl ?_
  intro p e s m args below meth c s₁ B hml hv
  obtain ⟨rfl, hsz, hP, hK, hD0, hE⟩ := hv
  have hx := B.exec
  have hb := B.bytes
  have hr := B.returns
  have hts := atoms_spec (ws := wm_c_X5_kind_ok) B.pre
  have hown : s.vm.findClass RX5 = some m.cls := findClass_of_methodNamed B.named
  have hlocks := B.notSynchronized
  have iRX5 : ∀ w ∈ u_ws RX5 TX5 9, w ∈ wm_c_X5_kind_ok := by decide +kernel
  have iRX2 : ∀ w ∈ u_ws RX2 TX2 5, w ∈ wm_c_X5_kind_ok := by decide +kernel
  subst hsz
  have hD := hD0.self (sz := s.heap.size)
  generalize hAe : va_A [(h0, .inr (12, [.ref o0, .int 0, .ref g0, .ref o2, .ref o3, .ref o4, .ref o5, .int 0, .ref o6])), (o0, .inl (cK, 6, .inr (.inr (.inr (.inr kf))))), (k0, .inr (9, [.int 2, .int 1, .int 115, .int 110, .ref kr]))] s.heap.size = A at hD hE ⊢
  have hA : ∀ q : Nat, s.heap.size ≤ q → A q := fun q h => by rw [← hAe]; exact Or.inr h
  have hS : va_S A s.heap s.heap [] := va_S.rf
  have hl := lv_entry ([.ref h0, .int p0, .int p1, .int p2, .int p3]) (n := 6) (Nat.le_of_ble_eq_true rfl)
  rw [lg_entry_eq]
  generalize (lg_sl ([.ref h0, .int p0, .int p1, .int p2, .int p3]) ++ List.replicate (6 - (lg_sl ([.ref h0, .int p0, .int p1, .int p2, .int p3])).length) Slot.unset).toArray = ls at hl ⊢
  have hl : lv_has ls 6 [(0, .ref h0), (1, .int p0), (2, .int p1), (3, .int p2), (4, .int p3)] := hl
  refine lv_iload_n hx hb dX5_kind_0 rfl (lv_at hl 1 rfl) ?_
  refine lv_iconst (v := 2) hx hb dX5_kind_1 (by decide) ?_
  refine lv_iconst (v := 5) hx hb dX5_kind_2 (by decide) ?_
  have hS0 := hS
  have hFc := va_free (wc := []) hD hS hA [] rfl
  refine va_calli (va_runS (As := [.int p0, .int 2, .int 5]) (rest := []) ⟨hx, hb, hml, hown, hts⟩ (c_X5_isWithin l κ D (s.heap).size (p0) (2) (5) ) (va_cwS 3 hts gd_c_X5_kind_ok_3 rfl rfl rfl (by decide +kernel) ⟨(Nat.le_of_ble_eq_true rfl), (Nat.le_of_ble_eq_true rfl)⟩) (preS hE hK hP hD hS hA [] rfl (by decide) [] rfl) rfl rfl hl.1 rfl (lv_room (Nat.le_of_ble_eq_true rfl)) dX5_kind_3 ⟨(Nat.le_of_ble_eq_true rfl), (Nat.le_of_ble_eq_true rfl)⟩) hS (fun q _ h => hFc q h) hFc (fun r_1 u t H1 locs ht hvm hw hB hz1 hk1 hS => ?_)
  try dsimp only at hw
  obtain ⟨hP, hD, hK⟩ := jn (wc := []) (wr := [(h0, .inr (12, [.ref o0, .int 0, .ref g0, .ref o2, .ref o3, .ref o4, .ref o5, .int 0, .ref o6])), (o0, .inl (cK, 6, .inr (.inr (.inr (.inr kf))))), (k0, .inr (9, [.int 2, .int 1, .int 115, .int 110, .ref kr]))]) (w1 := []) (t1 := []) hP hD hK hS0 hA [] [0, 1, 2] rfl rfl (by decide) (by decide) ht hvm hk1 hB
  generalize H1 = H at hP hS ⊢
  have hP : va_P D vwCl ([(h0, .inr (12, [.ref o0, .int 0, .ref g0, .ref o2, .ref o3, .ref o4, .ref o5, .int 0, .ref o6])), (o0, .inl (cK, 6, .inr (.inr (.inr (.inr kf))))), (k0, .inr (9, [.int 2, .int 1, .int 115, .int 110, .ref kr]))]) H := hP
  have hD : va_D A ([(h0, .inr (12, [.ref o0, .int 0, .ref g0, .ref o2, .ref o3, .ref o4, .ref o5, .int 0, .ref o6])), (o0, .inl (cK, 6, .inr (.inr (.inr (.inr kf))))), (k0, .inr (9, [.int 2, .int 1, .int 115, .int 110, .ref kr]))]) := hD
  have hK : va_K D vwCl [(cK, .object "Sowingcourt$Kind")] s := hK
  refine W.widen (k := 0) (n := 0) (Nat.le_of_ble_eq_true rfl) (Nat.le_of_ble_eq_true rfl) ?_
  have hw : r_1 = 1 := hw.trans (if_pos hA0)
  subst hw
  refine lv_if_eq (tgt := 18) hx hb dX5_kind_6 (by decide) (fun c_6 => absurd c_6 (by decide)) (fun _ => ?_)
  refine lv_iload_n hx hb dX5_kind_9 rfl (lv_at hl 2 rfl) ?_
  refine lv_iconst (v := 1) hx hb dX5_kind_10 (by decide) ?_
  refine lv_iconst (v := 5) hx hb dX5_kind_11 (by decide) ?_
  have hS0 := hS
  have hFc := va_free (wc := []) hD hS hA [] rfl
  refine va_calli (va_runS (As := [.int p1, .int 1, .int 5]) (rest := []) ⟨hx, hb, hml, hown, hts⟩ (c_X5_isWithin l κ D (H).size (p1) (1) (5) ) (va_cwS 3 hts gd_c_X5_kind_ok_12 rfl rfl rfl (by decide +kernel) ⟨(Nat.le_of_ble_eq_true rfl), (Nat.le_of_ble_eq_true rfl)⟩) (preS hE hK hP hD hS hA [] rfl (by decide) [] rfl) rfl rfl hl.1 rfl (lv_room (Nat.le_of_ble_eq_true rfl)) dX5_kind_12 ⟨(Nat.le_of_ble_eq_true rfl), (Nat.le_of_ble_eq_true rfl)⟩) hS (fun q _ h => hFc q h) hFc (fun r_2 u t H1 locs ht hvm hw hB hz1 hk1 hS => ?_)
  try dsimp only at hw
  obtain ⟨hP, hD, hK⟩ := jn (wc := []) (wr := [(h0, .inr (12, [.ref o0, .int 0, .ref g0, .ref o2, .ref o3, .ref o4, .ref o5, .int 0, .ref o6])), (o0, .inl (cK, 6, .inr (.inr (.inr (.inr kf))))), (k0, .inr (9, [.int 2, .int 1, .int 115, .int 110, .ref kr]))]) (w1 := []) (t1 := []) hP hD hK hS0 hA [] [0, 1, 2] rfl rfl (by decide) (by decide) ht hvm hk1 hB
  generalize H1 = H at hP hS ⊢
  have hP : va_P D vwCl ([(h0, .inr (12, [.ref o0, .int 0, .ref g0, .ref o2, .ref o3, .ref o4, .ref o5, .int 0, .ref o6])), (o0, .inl (cK, 6, .inr (.inr (.inr (.inr kf))))), (k0, .inr (9, [.int 2, .int 1, .int 115, .int 110, .ref kr]))]) H := hP
  have hD : va_D A ([(h0, .inr (12, [.ref o0, .int 0, .ref g0, .ref o2, .ref o3, .ref o4, .ref o5, .int 0, .ref o6])), (o0, .inl (cK, 6, .inr (.inr (.inr (.inr kf))))), (k0, .inr (9, [.int 2, .int 1, .int 115, .int 110, .ref kr]))]) := hD
  have hK : va_K D vwCl [(cK, .object "Sowingcourt$Kind")] s := hK
  refine W.widen (k := 0) (n := 0) (Nat.le_of_ble_eq_true rfl) (Nat.le_of_ble_eq_true rfl) ?_
  have hw : r_2 = 1 := hw.trans (if_pos hB0)
  subst hw
  refine lv_if_ne (tgt := 28) hx hb dX5_kind_15 (by decide) (fun _ => ?_) (fun c_15 => absurd c_15 (by decide))
  refine lv_iload_n hx hb dX5_kind_28 rfl (lv_at hl 3 rfl) ?_
  have hS0 := hS
  have hFc := va_free (wc := []) hD hS hA [] rfl
  refine va_calli (va_runS (As := [.int p2]) (rest := []) ⟨hx, hb, hml, hown, hts⟩ (c_X2_isLap l κ D (H).size (p2) ) (va_cwS 1 hts gd_c_X5_kind_ok_29 rfl rfl rfl (by decide +kernel) ⟨(Nat.le_of_ble_eq_true rfl), (Nat.le_of_ble_eq_true rfl)⟩) (preS hE hK hP hD hS hA [] rfl (by decide) [] rfl) rfl rfl hl.1 rfl (lv_room (Nat.le_of_ble_eq_true rfl)) dX5_kind_29 ⟨(Nat.le_of_ble_eq_true rfl), (Nat.le_of_ble_eq_true rfl)⟩) hS (fun q _ h => hFc q h) hFc (fun r_3 u t H1 locs ht hvm hw hB hz1 hk1 hS => ?_)
  try dsimp only at hw
  obtain ⟨hP, hD, hK⟩ := jn (wc := []) (wr := [(h0, .inr (12, [.ref o0, .int 0, .ref g0, .ref o2, .ref o3, .ref o4, .ref o5, .int 0, .ref o6])), (o0, .inl (cK, 6, .inr (.inr (.inr (.inr kf))))), (k0, .inr (9, [.int 2, .int 1, .int 115, .int 110, .ref kr]))]) (w1 := []) (t1 := []) hP hD hK hS0 hA [] [0, 1, 2] rfl rfl (by decide) (by decide) ht hvm hk1 hB
  generalize H1 = H at hP hS ⊢
  have hP : va_P D vwCl ([(h0, .inr (12, [.ref o0, .int 0, .ref g0, .ref o2, .ref o3, .ref o4, .ref o5, .int 0, .ref o6])), (o0, .inl (cK, 6, .inr (.inr (.inr (.inr kf))))), (k0, .inr (9, [.int 2, .int 1, .int 115, .int 110, .ref kr]))]) H := hP
  have hD : va_D A ([(h0, .inr (12, [.ref o0, .int 0, .ref g0, .ref o2, .ref o3, .ref o4, .ref o5, .int 0, .ref o6])), (o0, .inl (cK, 6, .inr (.inr (.inr (.inr kf))))), (k0, .inr (9, [.int 2, .int 1, .int 115, .int 110, .ref kr]))]) := hD
  have hK : va_K D vwCl [(cK, .object "Sowingcourt$Kind")] s := hK
  refine W.widen (k := 0) (n := 0) (Nat.le_of_ble_eq_true rfl) (Nat.le_of_ble_eq_true rfl) ?_
  have hw : r_3 = 1 := hw.trans (if_pos hL0)
  subst hw
  refine lv_if_eq (tgt := 43) hx hb dX5_kind_32 (by decide) (fun c_32 => absurd c_32 (by decide)) (fun _ => ?_)
  refine lv_iload hx hb dX5_kind_35 (lv_at hl 4 rfl) ?_
  have hS0 := hS
  have hFc := va_free (wc := []) hD hS hA [] rfl
  refine va_calli (va_runS (As := [.int p3]) (rest := []) ⟨hx, hb, hml, hown, hts⟩ (c_X2_isCapture l κ D (H).size (p3) ) (va_cwS 1 hts gd_c_X5_kind_ok_37 rfl rfl rfl (by decide +kernel) ⟨(Nat.le_of_ble_eq_true rfl), (Nat.le_of_ble_eq_true rfl)⟩) (preS hE hK hP hD hS hA [] rfl (by decide) [] rfl) rfl rfl hl.1 rfl (lv_room (Nat.le_of_ble_eq_true rfl)) dX5_kind_37 ⟨(Nat.le_of_ble_eq_true rfl), (Nat.le_of_ble_eq_true rfl)⟩) hS (fun q _ h => hFc q h) hFc (fun r_4 u t H1 locs ht hvm hw hB hz1 hk1 hS => ?_)
  try dsimp only at hw
  obtain ⟨hP, hD, hK⟩ := jn (wc := []) (wr := [(h0, .inr (12, [.ref o0, .int 0, .ref g0, .ref o2, .ref o3, .ref o4, .ref o5, .int 0, .ref o6])), (o0, .inl (cK, 6, .inr (.inr (.inr (.inr kf))))), (k0, .inr (9, [.int 2, .int 1, .int 115, .int 110, .ref kr]))]) (w1 := []) (t1 := []) hP hD hK hS0 hA [] [0, 1, 2] rfl rfl (by decide) (by decide) ht hvm hk1 hB
  generalize H1 = H at hP hS ⊢
  have hP : va_P D vwCl ([(h0, .inr (12, [.ref o0, .int 0, .ref g0, .ref o2, .ref o3, .ref o4, .ref o5, .int 0, .ref o6])), (o0, .inl (cK, 6, .inr (.inr (.inr (.inr kf))))), (k0, .inr (9, [.int 2, .int 1, .int 115, .int 110, .ref kr]))]) H := hP
  have hD : va_D A ([(h0, .inr (12, [.ref o0, .int 0, .ref g0, .ref o2, .ref o3, .ref o4, .ref o5, .int 0, .ref o6])), (o0, .inl (cK, 6, .inr (.inr (.inr (.inr kf))))), (k0, .inr (9, [.int 2, .int 1, .int 115, .int 110, .ref kr]))]) := hD
  have hK : va_K D vwCl [(cK, .object "Sowingcourt$Kind")] s := hK
  refine W.widen (k := 0) (n := 0) (Nat.le_of_ble_eq_true rfl) (Nat.le_of_ble_eq_true rfl) ?_
  have hw : r_4 = 1 := hw.trans (if_pos hC0)
  subst hw
  refine lv_if_ne (tgt := 53) hx hb dX5_kind_40 (by decide) (fun _ => ?_) (fun c_40 => absurd c_40 (by decide))
  refine lv_aload_n hx hb dX5_kind_53 rfl (lv_at hl 0 rfl) ?_
  have hS0 := hS
  have hFc := va_free (wc := [(h0, .inr (12, [.ref o0, .int 0, .ref g0, .ref o2, .ref o3, .ref o4, .ref o5, .int 0, .ref o6]))]) hD hS hA [0] rfl
  refine va_callv (va_runV (As := []) (rest := []) ⟨hx, hb, hml, hown, hts⟩ (c_X5_needRoomForKind l κ D (H).size (h0) (o0) (g0) (o2) (o3) (o4) (o5) (o6) ) (cwV 0 hts gd_c_X5_kind_ok_54 rfl rfl rfl (by decide +kernel) ⟨(Nat.le_of_ble_eq_true rfl), (Nat.le_of_ble_eq_true rfl)⟩) (preV hE hK hP hD hS hA [0] rfl (by decide) [] rfl (va_recv hK hP (ci := 12) (q0 := 0) rfl rfl)) rfl rfl hl.1 rfl (lv_room (Nat.le_of_ble_eq_true rfl)) dX5_kind_54 ⟨(Nat.le_of_ble_eq_true rfl), (Nat.le_of_ble_eq_true rfl)⟩) hS (fun q _ h => hFc q h) hFc (fun u t H1 locs ht hvm hw hB hz1 hk1 hS => ?_)
  try dsimp only at hw
  obtain ⟨hP, hD, hK⟩ := jn (wc := [(h0, .inr (12, [.ref o0, .int 0, .ref g0, .ref o2, .ref o3, .ref o4, .ref o5, .int 0, .ref o6]))]) (wr := [(o0, .inl (cK, 6, .inr (.inr (.inr (.inr kf))))), (k0, .inr (9, [.int 2, .int 1, .int 115, .int 110, .ref kr]))]) (w1 := [(h0, .inr (12, [.ref o0, .int 0, .ref g0, .ref o2, .ref o3, .ref o4, .ref o5, .int 0, .ref o6]))]) (t1 := []) hP hD hK hS0 hA [0] [1, 2] rfl rfl (by decide) (by decide) ht hvm hk1 hB
  generalize H1 = H at hP hS ⊢
  have hP : va_P D vwCl ([(o0, .inl (cK, 6, .inr (.inr (.inr (.inr kf))))), (k0, .inr (9, [.int 2, .int 1, .int 115, .int 110, .ref kr])), (h0, .inr (12, [.ref o0, .int 0, .ref g0, .ref o2, .ref o3, .ref o4, .ref o5, .int 0, .ref o6]))]) H := hP
  have hD : va_D A ([(o0, .inl (cK, 6, .inr (.inr (.inr (.inr kf))))), (k0, .inr (9, [.int 2, .int 1, .int 115, .int 110, .ref kr])), (h0, .inr (12, [.ref o0, .int 0, .ref g0, .ref o2, .ref o3, .ref o4, .ref o5, .int 0, .ref o6]))]) := hD
  have hK : va_K D vwCl [(cK, .object "Sowingcourt$Kind")] s := hK
  refine W.widen (k := 0) (n := 0) (Nat.le_of_ble_eq_true rfl) (Nat.le_of_ble_eq_true rfl) ?_
  refine lv_aload_n hx hb dX5_kind_57 rfl (lv_at hl 0 rfl) ?_
  refine va_get (D := D) (ci := 12) (v := .ref o0) (C := RX5) (T := TX5) (N := 9) hx hb hts iRX5 hown hK hP 2 rfl rfl 0 (by decide) (hts (.fieldLink RX5 11 "Sowingcourt" "kinds" "[LSowingcourt$Kind;") (by decide +kernel)) (fun _ h9 => h9) rfl dX5_kind_58 ?_
  refine lv_aload_n hx hb dX5_kind_61 rfl (lv_at hl 0 rfl) ?_
  refine va_get (D := D) (ci := 12) (v := .int 0) (C := RX5) (T := TX5) (N := 9) hx hb hts iRX5 hown hK hP 2 rfl rfl 1 (by decide) (hts (.fieldLink RX5 80 "Sowingcourt" "kindCount" "I") (by decide +kernel)) (fun _ h9 => h9) rfl dX5_kind_62 ?_
  refine va_aldq hx hb hK hP 0 0 rfl rfl (i := 0) (by unfold vp_in; decide) dX5_kind_65 ?_
  refine W.eq (g2 := F0 m 66 ls [.ref k0]) (congrArg (fun z9 => F0 m 66 ls (z9 :: [])) (by rw [show (0 : Int32).toNatClampNeg = 0 from by decide, hkf]; rfl)) ?_
  refine lv_astore (lv' := [(5, .ref k0), (0, .ref h0), (1, .int p0), (2, .int p1), (3, .int p2), (4, .int p3)]) hx hb dX5_kind_66 hl (by decide) rfl (fun ls hl => ?_)
  refine lv_aload hx hb dX5_kind_68 (lv_at hl 0 rfl) ?_
  refine lv_iload_n hx hb dX5_kind_70 rfl (lv_at hl 2 rfl) ?_
  refine va_put (D := D) (ci := 9) (v := .int p0) (ty := .int) (C := RX2) (T := TX2) (N := 5) hx hb hts iRX2 tyX2 tyX2_ok nmX2 hown hK hP hD hS 1 rfl rfl 0 (by decide) (hts (.fieldLink RX5 84 "Sowingcourt$Kind" "holesEach" "I") (by decide +kernel)) (fun _ h9 => h9) rfl (by decide +kernel) rfl rfl (Nat.le_of_ble_eq_true rfl) dX5_kind_71 (fun H locs hP hD hS => ?_)
  have hP : va_P D vwCl ([(o0, .inl (cK, 6, .inr (.inr (.inr (.inr kf))))), (k0, .inr (9, [.int p0, .int 1, .int 115, .int 110, .ref kr])), (h0, .inr (12, [.ref o0, .int 0, .ref g0, .ref o2, .ref o3, .ref o4, .ref o5, .int 0, .ref o6]))]) H := hP
  have hD : va_D A ([(o0, .inl (cK, 6, .inr (.inr (.inr (.inr kf))))), (k0, .inr (9, [.int p0, .int 1, .int 115, .int 110, .ref kr])), (h0, .inr (12, [.ref o0, .int 0, .ref g0, .ref o2, .ref o3, .ref o4, .ref o5, .int 0, .ref o6]))]) := hD
  refine lv_aload hx hb dX5_kind_74 (lv_at hl 0 rfl) ?_
  refine lv_iload_n hx hb dX5_kind_76 rfl (lv_at hl 3 rfl) ?_
  refine va_put (D := D) (ci := 9) (v := .int p1) (ty := .int) (C := RX2) (T := TX2) (N := 5) hx hb hts iRX2 tyX2 tyX2_ok nmX2 hown hK hP hD hS 1 rfl rfl 1 (by decide) (hts (.fieldLink RX5 87 "Sowingcourt$Kind" "seedsEach" "I") (by decide +kernel)) (fun _ h9 => h9) rfl (by decide +kernel) rfl rfl (Nat.le_of_ble_eq_true rfl) dX5_kind_77 (fun H locs hP hD hS => ?_)
  have hP : va_P D vwCl ([(o0, .inl (cK, 6, .inr (.inr (.inr (.inr kf))))), (k0, .inr (9, [.int p0, .int p1, .int 115, .int 110, .ref kr])), (h0, .inr (12, [.ref o0, .int 0, .ref g0, .ref o2, .ref o3, .ref o4, .ref o5, .int 0, .ref o6]))]) H := hP
  have hD : va_D A ([(o0, .inl (cK, 6, .inr (.inr (.inr (.inr kf))))), (k0, .inr (9, [.int p0, .int p1, .int 115, .int 110, .ref kr])), (h0, .inr (12, [.ref o0, .int 0, .ref g0, .ref o2, .ref o3, .ref o4, .ref o5, .int 0, .ref o6]))]) := hD
  refine lv_aload hx hb dX5_kind_80 (lv_at hl 0 rfl) ?_
  refine lv_iload_n hx hb dX5_kind_82 rfl (lv_at hl 4 rfl) ?_
  refine va_put (D := D) (ci := 9) (v := .int p2) (ty := .char) (C := RX2) (T := TX2) (N := 5) hx hb hts iRX2 tyX2 tyX2_ok nmX2 hown hK hP hD hS 1 rfl rfl 2 (by decide) (hts (.fieldLink RX5 90 "Sowingcourt$Kind" "lap" "C") (by decide +kernel)) (fun _ h9 => h9) rfl (by decide +kernel) n2 f2 (Nat.le_of_ble_eq_true rfl) dX5_kind_83 (fun H locs hP hD hS => ?_)
  have hP : va_P D vwCl ([(o0, .inl (cK, 6, .inr (.inr (.inr (.inr kf))))), (k0, .inr (9, [.int p0, .int p1, .int p2, .int 110, .ref kr])), (h0, .inr (12, [.ref o0, .int 0, .ref g0, .ref o2, .ref o3, .ref o4, .ref o5, .int 0, .ref o6]))]) H := hP
  have hD : va_D A ([(o0, .inl (cK, 6, .inr (.inr (.inr (.inr kf))))), (k0, .inr (9, [.int p0, .int p1, .int p2, .int 110, .ref kr])), (h0, .inr (12, [.ref o0, .int 0, .ref g0, .ref o2, .ref o3, .ref o4, .ref o5, .int 0, .ref o6]))]) := hD
  refine lv_aload hx hb dX5_kind_86 (lv_at hl 0 rfl) ?_
  refine lv_iload hx hb dX5_kind_88 (lv_at hl 5 rfl) ?_
  refine va_put (D := D) (ci := 9) (v := .int p3) (ty := .char) (C := RX2) (T := TX2) (N := 5) hx hb hts iRX2 tyX2 tyX2_ok nmX2 hown hK hP hD hS 1 rfl rfl 3 (by decide) (hts (.fieldLink RX5 94 "Sowingcourt$Kind" "capture" "C") (by decide +kernel)) (fun _ h9 => h9) rfl (by decide +kernel) n3 f3 (Nat.le_of_ble_eq_true rfl) dX5_kind_90 (fun H locs hP hD hS => ?_)
  have hP : va_P D vwCl ([(o0, .inl (cK, 6, .inr (.inr (.inr (.inr kf))))), (k0, .inr (9, [.int p0, .int p1, .int p2, .int p3, .ref kr])), (h0, .inr (12, [.ref o0, .int 0, .ref g0, .ref o2, .ref o3, .ref o4, .ref o5, .int 0, .ref o6]))]) H := hP
  have hD : va_D A ([(o0, .inl (cK, 6, .inr (.inr (.inr (.inr kf))))), (k0, .inr (9, [.int p0, .int p1, .int p2, .int p3, .ref kr])), (h0, .inr (12, [.ref o0, .int 0, .ref g0, .ref o2, .ref o3, .ref o4, .ref o5, .int 0, .ref o6]))]) := hD
  refine lv_aload_n hx hb dX5_kind_93 rfl (lv_at hl 1 rfl) ?_
  refine lv_dup hx hb dX5_kind_94 rfl ?_
  refine va_get (D := D) (ci := 12) (v := .int 0) (C := RX5) (T := TX5) (N := 9) hx hb hts iRX5 hown hK hP 2 rfl rfl 1 (by decide) (hts (.fieldLink RX5 80 "Sowingcourt" "kindCount" "I") (by decide +kernel)) (fun _ h9 => h9) rfl dX5_kind_95 ?_
  refine lv_iconst (v := 1) hx hb dX5_kind_98 (by decide) ?_
  refine lv_iadd hx hb dX5_kind_99 ?_
  refine lv_topi (fun v_6 ev_6 => ?_)
  have ev_6 : v_6 = 1 := ev_6.trans (by decide)
  subst ev_6
  refine va_put (D := D) (ci := 12) (v := .int 1) (ty := .int) (C := RX5) (T := TX5) (N := 9) hx hb hts iRX5 tyX5 tyX5_ok nmX5 hown hK hP hD hS 2 rfl rfl 1 (by decide) (hts (.fieldLink RX5 80 "Sowingcourt" "kindCount" "I") (by decide +kernel)) (fun _ h9 => h9) rfl (by decide +kernel) rfl rfl (Nat.le_of_ble_eq_true rfl) dX5_kind_100 (fun H locs hP hD hS => ?_)
  have hP : va_P D vwCl ([(o0, .inl (cK, 6, .inr (.inr (.inr (.inr kf))))), (k0, .inr (9, [.int p0, .int p1, .int p2, .int p3, .ref kr])), (h0, .inr (12, [.ref o0, .int 1, .ref g0, .ref o2, .ref o3, .ref o4, .ref o5, .int 0, .ref o6]))]) H := hP
  have hD : va_D A ([(o0, .inl (cK, 6, .inr (.inr (.inr (.inr kf))))), (k0, .inr (9, [.int p0, .int p1, .int p2, .int p3, .ref kr])), (h0, .inr (12, [.ref o0, .int 1, .ref g0, .ref o2, .ref o3, .ref o4, .ref o5, .int 0, .ref o6]))]) := hD
  refine lv_aload_n hx hb dX5_kind_103 rfl (lv_at hl 1 rfl) ?_
  refine va_get (D := D) (ci := 12) (v := .int 1) (C := RX5) (T := TX5) (N := 9) hx hb hts iRX5 hown hK hP 2 rfl rfl 1 (by decide) (hts (.fieldLink RX5 80 "Sowingcourt" "kindCount" "I") (by decide +kernel)) (fun _ h9 => h9) rfl dX5_kind_104 ?_
  refine lv_iconst (v := 1) hx hb dX5_kind_107 (by decide) ?_
  refine lv_isub hx hb dX5_kind_108 ?_
  refine lv_topi (fun v_7 ev_7 => ?_)
  have ev_7 : v_7 = 0 := ev_7.trans (by decide)
  subst ev_7
  refine W.widen (k := 0) (n := 0) (Nat.le_of_ble_eq_true rfl) (Nat.le_of_ble_eq_true rfl) ?_
  exact W.iret (v := 0) hx hb hr (fun t ht hW => ⟨⟨0, (), rfl, rfl, PB.at hP hK hD hW.alike ht [] rfl (by decide) [] rfl⟩, hS.F ht⟩) hS.2.2 dX5_kind_109

def wm_c_X5_kind_bad : List Cond := .code yX5_kind cX5_kind 6 (some .int) :: ([.code yX5_isWithin cX5_isWithin 3 (some .boolean), .methodLink RX5 57 yX5_isWithin, .static yX5_isWithin, .initialized RX5, .classLink RX5 61 "java/lang/IllegalArgumentException", .initialized "java/lang/IllegalArgumentException", .code yX2_isLap cX2_isLap 1 (some .boolean), .methodLink RX5 68 yX2_isLap, .static yX2_isLap, .initialized RX2, .code yX2_isCapture cX2_isCapture 1 (some .boolean), .methodLink RX5 72 yX2_isCapture, .static yX2_isCapture] ++ (vx_atS RX5 65 "java/lang/IllegalArgumentException" supX).filter goodWord)
set_option maxRecDepth 20000 in
theorem gd_c_X5_kind_bad_3 : GoodIn wm_c_X5_kind_bad (va_wsS RX5 57 yX5_isWithin wm_c_X5_isWithin) := goodIn_of _ (by decide +kernel)
set_option maxRecDepth 20000 in
theorem gd_c_X5_kind_bad_12 : GoodIn wm_c_X5_kind_bad (va_wsS RX5 57 yX5_isWithin wm_c_X5_isWithin) := goodIn_of _ (by decide +kernel)
set_option maxRecDepth 20000 in
theorem gd_c_X5_kind_bad_29 : GoodIn wm_c_X5_kind_bad (va_wsS RX5 68 yX2_isLap wm_c_X2_isLap) := goodIn_of _ (by decide +kernel)
set_option maxRecDepth 20000 in
theorem gd_c_X5_kind_bad_37 : GoodIn wm_c_X5_kind_bad (va_wsS RX5 72 yX2_isCapture wm_c_X2_isCapture) := goodIn_of _ (by decide +kernel)
set_option maxHeartbeats 4000000 in
set_option maxRecDepth 100000 in
theorem c_X5_kind_bad (l : Launch) (hl0 : l.stackTraces = false) (κ : Nat → Nat) (D : va_G) (sz : Nat) (h0 : Nat) (o0 : Nat) (g0 : Nat) (o2 : Nat) (o3 : Nat) (o4 : Nat) (o5 : Nat) (o6 : Nat) (p0 : Int32) (p1 : Int32) (p2 : Int32) (p3 : Int32) (hbad : ¬ (((2 : Int32).toInt ≤ p0.toInt ∧ p0.toInt ≤ (5 : Int32).toInt) ∧ ((1 : Int32).toInt ≤ p1.toInt ∧ p1.toInt ≤ (5 : Int32).toInt) ∧ (p2 = 115 ∨ p2 = 114 ∨ p2 = 112) ∧ (p3 = 110 ∨ p3 = 111 ∨ p3 = 99 ∨ p3 = 101))) : vx_Met l yX5_kind wm_c_X5_kind_bad ({ frames := 9, cells := 1, slots := 6, locals := 260 }) (va_Pc [.ref h0, .int p0, .int p1, .int p2, .int p3] (PC κ D [] [(h0, .inr (12, [.ref o0, .int 0, .ref g0, .ref o2, .ref o3, .ref o4, .ref o5, .int 0, .ref o6]))] sz)) (va_Qi (fun (_ : Int32) (_ : Unit) => False) (fun _ _ => True) (va_A [(h0, .inr (12, [.ref o0, .int 0, .ref g0, .ref o2, .ref o3, .ref o4, .ref o5, .int 0, .ref o6]))] sz)) (XQ "java/lang/IllegalArgumentException" D [] [(h0, .inr (12, [.ref o0, .int 0, .ref g0, .ref o2, .ref o3, .ref o4, .ref o5, .int 0, .ref o6]))] (va_A [(h0, .inr (12, [.ref o0, .int 0, .ref g0, .ref o2, .ref o3, .ref o4, .ref o5, .int 0, .ref o6]))] sz)) 1 6 (va_A [(h0, .inr (12, [.ref o0, .int 0, .ref g0, .ref o2, .ref o3, .ref o4, .ref o5, .int 0, .ref o6]))] sz) := by
  refine vx_ofW (cc := cX5_kind) (maxL := 6) (ret := (some .int)) (by decide +kernel) rfl ?_
  intro p e s m args below meth c s₁ B hml htab hv
  obtain ⟨rfl, hsz, hP, hK, hD0, hE⟩ := hv
  have hx := B.exec
  have hb := B.bytes
  have hr := B.returns
  have hts := atoms_spec (ws := wm_c_X5_kind_bad) B.pre
  have hown : s.vm.findClass RX5 = some m.cls := findClass_of_methodNamed B.named
  have hlocks := B.notSynchronized
  subst hsz
  have hD := hD0.self (sz := s.heap.size)
  generalize hAe : va_A [(h0, .inr (12, [.ref o0, .int 0, .ref g0, .ref o2, .ref o3, .ref o4, .ref o5, .int 0, .ref o6]))] s.heap.size = A at hD hE ⊢
  have hA : ∀ q : Nat, s.heap.size ≤ q → A q := fun q h => by rw [← hAe]; exact Or.inr h
  have hS : va_S A s.heap s.heap [] := va_S.rf
  have hl := lv_entry ([.ref h0, .int p0, .int p1, .int p2, .int p3]) (n := 6) (Nat.le_of_ble_eq_true rfl)
  rw [lg_entry_eq]
  generalize (lg_sl ([.ref h0, .int p0, .int p1, .int p2, .int p3]) ++ List.replicate (6 - (lg_sl ([.ref h0, .int p0, .int p1, .int p2, .int p3])).length) Slot.unset).toArray = ls at hl ⊢
  have hl : lv_has ls 6 [(0, .ref h0), (1, .int p0), (2, .int p1), (3, .int p2), (4, .int p3)] := hl
  refine lv_iload_n hx hb dX5_kind_0 rfl (lv_at hl 1 rfl) ?_
  refine lv_iconst (v := 2) hx hb dX5_kind_1 (by decide) ?_
  refine lv_iconst (v := 5) hx hb dX5_kind_2 (by decide) ?_
  have hS0 := hS
  have hFc := va_free (wc := []) hD hS hA [] rfl
  refine va_calli (va_runS (As := [.int p0, .int 2, .int 5]) (rest := []) ⟨hx, hb, hml, hown, hts⟩ (c_X5_isWithin l κ D (s.heap).size (p0) (2) (5) ) (va_cwS 3 hts gd_c_X5_kind_bad_3 rfl rfl rfl (by decide +kernel) ⟨(Nat.le_of_ble_eq_true rfl), (Nat.le_of_ble_eq_true rfl)⟩) (preS hE hK hP hD hS hA [] rfl (by decide) [] rfl) rfl rfl hl.1 rfl (lv_room (Nat.le_of_ble_eq_true rfl)) dX5_kind_3 ⟨(Nat.le_of_ble_eq_true rfl), (Nat.le_of_ble_eq_true rfl)⟩) hS (fun q _ h => hFc q h) hFc (fun r_1 u t H1 locs ht hvm hw hB hz1 hk1 hS => ?_)
  try dsimp only at hw
  obtain ⟨hP, hD, hK⟩ := jn (wc := []) (wr := [(h0, .inr (12, [.ref o0, .int 0, .ref g0, .ref o2, .ref o3, .ref o4, .ref o5, .int 0, .ref o6]))]) (w1 := []) (t1 := []) hP hD hK hS0 hA [] [0] rfl rfl (by decide) (by decide) ht hvm hk1 hB
  generalize H1 = H at hP hS ⊢
  have hP : va_P D vwCl ([(h0, .inr (12, [.ref o0, .int 0, .ref g0, .ref o2, .ref o3, .ref o4, .ref o5, .int 0, .ref o6]))]) H := hP
  have hD : va_D A ([(h0, .inr (12, [.ref o0, .int 0, .ref g0, .ref o2, .ref o3, .ref o4, .ref o5, .int 0, .ref o6]))]) := hD
  have hK : va_K D vwCl [] s := hK
  refine W.widen (k := 0) (n := 0) (Nat.le_of_ble_eq_true rfl) (Nat.le_of_ble_eq_true rfl) ?_
  have hw_3 := hw
  refine lv_if_eq (tgt := 18) hx hb dX5_kind_6 (by decide) (fun c_6 => ?_) (fun c_6 => ?_)
  · exact thS hx hb hl0 (own := RX5) (cls := "java/lang/IllegalArgumentException") (text := "a number is out of range") (ik := 61) (is := 63) (ic := 65) hown (by decide +kernel) (hts (.classLink RX5 61 "java/lang/IllegalArgumentException") (by decide +kernel)) (hts (.initialized "java/lang/IllegalArgumentException") (by decide +kernel)) hE.st63 (fun w h => hts w ((by decide +kernel : ∀ w ∈ (vx_atS RX5 65 "java/lang/IllegalArgumentException" supX).filter goodWord, w ∈ wm_c_X5_kind_bad) w h)) (by decide +kernel) hE.ca0 (by decide +kernel) hE hS (by rw [hml]; exact hl.1) dX5_kind_18 dX5_kind_21 dX5_kind_22 dX5_kind_24 dX5_kind_27 htab (Nat.le_of_ble_eq_true rfl) (Nat.le_of_ble_eq_true rfl) (Nat.le_of_ble_eq_true rfl) (Nat.le_of_ble_eq_true rfl) hlocks hP hK hD [0] rfl (by decide) [] rfl (Nat.le_of_ble_eq_true rfl) (Nat.le_of_ble_eq_true rfl)
  · refine lv_iload_n hx hb dX5_kind_9 rfl (lv_at hl 2 rfl) ?_
    refine lv_iconst (v := 1) hx hb dX5_kind_10 (by decide) ?_
    refine lv_iconst (v := 5) hx hb dX5_kind_11 (by decide) ?_
    have hS0 := hS
    have hFc := va_free (wc := []) hD hS hA [] rfl
    refine va_calli (va_runS (As := [.int p1, .int 1, .int 5]) (rest := []) ⟨hx, hb, hml, hown, hts⟩ (c_X5_isWithin l κ D (H).size (p1) (1) (5) ) (va_cwS 3 hts gd_c_X5_kind_bad_12 rfl rfl rfl (by decide +kernel) ⟨(Nat.le_of_ble_eq_true rfl), (Nat.le_of_ble_eq_true rfl)⟩) (preS hE hK hP hD hS hA [] rfl (by decide) [] rfl) rfl rfl hl.1 rfl (lv_room (Nat.le_of_ble_eq_true rfl)) dX5_kind_12 ⟨(Nat.le_of_ble_eq_true rfl), (Nat.le_of_ble_eq_true rfl)⟩) hS (fun q _ h => hFc q h) hFc (fun r_2 u t H1 locs ht hvm hw hB hz1 hk1 hS => ?_)
    try dsimp only at hw
    obtain ⟨hP, hD, hK⟩ := jn (wc := []) (wr := [(h0, .inr (12, [.ref o0, .int 0, .ref g0, .ref o2, .ref o3, .ref o4, .ref o5, .int 0, .ref o6]))]) (w1 := []) (t1 := []) hP hD hK hS0 hA [] [0] rfl rfl (by decide) (by decide) ht hvm hk1 hB
    generalize H1 = H at hP hS ⊢
    have hP : va_P D vwCl ([(h0, .inr (12, [.ref o0, .int 0, .ref g0, .ref o2, .ref o3, .ref o4, .ref o5, .int 0, .ref o6]))]) H := hP
    have hD : va_D A ([(h0, .inr (12, [.ref o0, .int 0, .ref g0, .ref o2, .ref o3, .ref o4, .ref o5, .int 0, .ref o6]))]) := hD
    have hK : va_K D vwCl [] s := hK
    refine W.widen (k := 0) (n := 0) (Nat.le_of_ble_eq_true rfl) (Nat.le_of_ble_eq_true rfl) ?_
    have hw_12 := hw
    refine lv_if_ne (tgt := 28) hx hb dX5_kind_15 (by decide) (fun c_15 => ?_) (fun c_15 => ?_)
    · refine lv_iload_n hx hb dX5_kind_28 rfl (lv_at hl 3 rfl) ?_
      have hS0 := hS
      have hFc := va_free (wc := []) hD hS hA [] rfl
      refine va_calli (va_runS (As := [.int p2]) (rest := []) ⟨hx, hb, hml, hown, hts⟩ (c_X2_isLap l κ D (H).size (p2) ) (va_cwS 1 hts gd_c_X5_kind_bad_29 rfl rfl rfl (by decide +kernel) ⟨(Nat.le_of_ble_eq_true rfl), (Nat.le_of_ble_eq_true rfl)⟩) (preS hE hK hP hD hS hA [] rfl (by decide) [] rfl) rfl rfl hl.1 rfl (lv_room (Nat.le_of_ble_eq_true rfl)) dX5_kind_29 ⟨(Nat.le_of_ble_eq_true rfl), (Nat.le_of_ble_eq_true rfl)⟩) hS (fun q _ h => hFc q h) hFc (fun r_3 u t H1 locs ht hvm hw hB hz1 hk1 hS => ?_)
      try dsimp only at hw
      obtain ⟨hP, hD, hK⟩ := jn (wc := []) (wr := [(h0, .inr (12, [.ref o0, .int 0, .ref g0, .ref o2, .ref o3, .ref o4, .ref o5, .int 0, .ref o6]))]) (w1 := []) (t1 := []) hP hD hK hS0 hA [] [0] rfl rfl (by decide) (by decide) ht hvm hk1 hB
      generalize H1 = H at hP hS ⊢
      have hP : va_P D vwCl ([(h0, .inr (12, [.ref o0, .int 0, .ref g0, .ref o2, .ref o3, .ref o4, .ref o5, .int 0, .ref o6]))]) H := hP
      have hD : va_D A ([(h0, .inr (12, [.ref o0, .int 0, .ref g0, .ref o2, .ref o3, .ref o4, .ref o5, .int 0, .ref o6]))]) := hD
      have hK : va_K D vwCl [] s := hK
      refine W.widen (k := 0) (n := 0) (Nat.le_of_ble_eq_true rfl) (Nat.le_of_ble_eq_true rfl) ?_
      have hw_29 := hw
      refine lv_if_eq (tgt := 43) hx hb dX5_kind_32 (by decide) (fun c_32 => ?_) (fun c_32 => ?_)
      · exact thS hx hb hl0 (own := RX5) (cls := "java/lang/IllegalArgumentException") (text := "there is no such letter") (ik := 61) (is := 75) (ic := 65) hown (by decide +kernel) (hts (.classLink RX5 61 "java/lang/IllegalArgumentException") (by decide +kernel)) (hts (.initialized "java/lang/IllegalArgumentException") (by decide +kernel)) hE.st75 (fun w h => hts w ((by decide +kernel : ∀ w ∈ (vx_atS RX5 65 "java/lang/IllegalArgumentException" supX).filter goodWord, w ∈ wm_c_X5_kind_bad) w h)) (by decide +kernel) hE.ca0 (by decide +kernel) hE hS (by rw [hml]; exact hl.1) dX5_kind_43 dX5_kind_46 dX5_kind_47 dX5_kind_49 dX5_kind_52 htab (Nat.le_of_ble_eq_true rfl) (Nat.le_of_ble_eq_true rfl) (Nat.le_of_ble_eq_true rfl) (Nat.le_of_ble_eq_true rfl) hlocks hP hK hD [0] rfl (by decide) [] rfl (Nat.le_of_ble_eq_true rfl) (Nat.le_of_ble_eq_true rfl)
      · refine lv_iload hx hb dX5_kind_35 (lv_at hl 4 rfl) ?_
        have hS0 := hS
        have hFc := va_free (wc := []) hD hS hA [] rfl
        refine va_calli (va_runS (As := [.int p3]) (rest := []) ⟨hx, hb, hml, hown, hts⟩ (c_X2_isCapture l κ D (H).size (p3) ) (va_cwS 1 hts gd_c_X5_kind_bad_37 rfl rfl rfl (by decide +kernel) ⟨(Nat.le_of_ble_eq_true rfl), (Nat.le_of_ble_eq_true rfl)⟩) (preS hE hK hP hD hS hA [] rfl (by decide) [] rfl) rfl rfl hl.1 rfl (lv_room (Nat.le_of_ble_eq_true rfl)) dX5_kind_37 ⟨(Nat.le_of_ble_eq_true rfl), (Nat.le_of_ble_eq_true rfl)⟩) hS (fun q _ h => hFc q h) hFc (fun r_4 u t H1 locs ht hvm hw hB hz1 hk1 hS => ?_)
        try dsimp only at hw
        obtain ⟨hP, hD, hK⟩ := jn (wc := []) (wr := [(h0, .inr (12, [.ref o0, .int 0, .ref g0, .ref o2, .ref o3, .ref o4, .ref o5, .int 0, .ref o6]))]) (w1 := []) (t1 := []) hP hD hK hS0 hA [] [0] rfl rfl (by decide) (by decide) ht hvm hk1 hB
        generalize H1 = H at hP hS ⊢
        have hP : va_P D vwCl ([(h0, .inr (12, [.ref o0, .int 0, .ref g0, .ref o2, .ref o3, .ref o4, .ref o5, .int 0, .ref o6]))]) H := hP
        have hD : va_D A ([(h0, .inr (12, [.ref o0, .int 0, .ref g0, .ref o2, .ref o3, .ref o4, .ref o5, .int 0, .ref o6]))]) := hD
        have hK : va_K D vwCl [] s := hK
        refine W.widen (k := 0) (n := 0) (Nat.le_of_ble_eq_true rfl) (Nat.le_of_ble_eq_true rfl) ?_
        have hw_37 := hw
        refine lv_if_ne (tgt := 53) hx hb dX5_kind_40 (by decide) (fun c_40 => absurd ⟨ifn hw_3 c_6, ifn hw_12 c_15, ifn hw_29 c_32, ifn hw_37 c_40⟩ hbad) (fun c_40 => ?_)
        exact thS hx hb hl0 (own := RX5) (cls := "java/lang/IllegalArgumentException") (text := "there is no such letter") (ik := 61) (is := 75) (ic := 65) hown (by decide +kernel) (hts (.classLink RX5 61 "java/lang/IllegalArgumentException") (by decide +kernel)) (hts (.initialized "java/lang/IllegalArgumentException") (by decide +kernel)) hE.st75 (fun w h => hts w ((by decide +kernel : ∀ w ∈ (vx_atS RX5 65 "java/lang/IllegalArgumentException" supX).filter goodWord, w ∈ wm_c_X5_kind_bad) w h)) (by decide +kernel) hE.ca0 (by decide +kernel) hE hS (by rw [hml]; exact hl.1) dX5_kind_43 dX5_kind_46 dX5_kind_47 dX5_kind_49 dX5_kind_52 htab (Nat.le_of_ble_eq_true rfl) (Nat.le_of_ble_eq_true rfl) (Nat.le_of_ble_eq_true rfl) (Nat.le_of_ble_eq_true rfl) hlocks hP hK hD [0] rfl (by decide) [] rfl (Nat.le_of_ble_eq_true rfl) (Nat.le_of_ble_eq_true rfl)
    · exact thS hx hb hl0 (own := RX5) (cls := "java/lang/IllegalArgumentException") (text := "a number is out of range") (ik := 61) (is := 63) (ic := 65) hown (by decide +kernel) (hts (.classLink RX5 61 "java/lang/IllegalArgumentException") (by decide +kernel)) (hts (.initialized "java/lang/IllegalArgumentException") (by decide +kernel)) hE.st63 (fun w h => hts w ((by decide +kernel : ∀ w ∈ (vx_atS RX5 65 "java/lang/IllegalArgumentException" supX).filter goodWord, w ∈ wm_c_X5_kind_bad) w h)) (by decide +kernel) hE.ca0 (by decide +kernel) hE hS (by rw [hml]; exact hl.1) dX5_kind_18 dX5_kind_21 dX5_kind_22 dX5_kind_24 dX5_kind_27 htab (Nat.le_of_ble_eq_true rfl) (Nat.le_of_ble_eq_true rfl) (Nat.le_of_ble_eq_true rfl) (Nat.le_of_ble_eq_true rfl) hlocks hP hK hD [0] rfl (by decide) [] rfl (Nat.le_of_ble_eq_true rfl) (Nat.le_of_ble_eq_true rfl)

def wm_c_X5_needRows_ok : List Cond := .code yX5_needRows cX5_needRows 2 none :: ([.code yX5_isWithin cX5_isWithin 3 (some .boolean), .methodLink RX5 57 yX5_isWithin, .static yX5_isWithin, .initialized RX5])
set_option maxRecDepth 20000 in
theorem gd_c_X5_needRows_ok_4 : GoodIn wm_c_X5_needRows_ok (va_wsS RX5 57 yX5_isWithin wm_c_X5_isWithin) := goodIn_of _ (by decide +kernel)
set_option maxRecDepth 20000 in
theorem gd_c_X5_needRows_ok_14 : GoodIn wm_c_X5_needRows_ok (va_wsS RX5 57 yX5_isWithin wm_c_X5_isWithin) := goodIn_of _ (by decide +kernel)
set_option maxHeartbeats 4000000 in
set_option maxRecDepth 100000 in
theorem c_X5_needRows_ok (l : Launch) (κ : Nat → Nat) (D : va_G) (sz : Nat) (p0 : Int32) (p1 : Int32) (hA0 : (1 : Int32).toInt ≤ p0.toInt ∧ p0.toInt ≤ (10 : Int32).toInt) (hB0 : (0 : Int32).toInt ≤ p1.toInt ∧ p1.toInt ≤ (50 : Int32).toInt) : Met l yX5_needRows wm_c_X5_needRows_ok ({ frames := 9, cells := 0, slots := 0, locals := 260 }) (va_Pc [.int p0, .int p1] (PC κ D [] [] sz)) (va_Qv (fun _ : Unit => True) (fun _ t => PB D [] [] (va_A [] sz) t) (va_A [] sz)) 0 0 (va_A [] sz) := by
  refine Met.ofW (cc := cX5_needRows) (maxL := 2) (ret := none) (by decide +kernel) rfl ?_
  intro p e s m args below meth c s₁ B hml hv
  obtain ⟨rfl, hsz, hP, hK, hD0, hE⟩ := hv
  have hx := B.exec
  have hb := B.bytes
  have hr := B.returns
  have hts := atoms_spec (ws := wm_c_X5_needRows_ok) B.pre
  have hown : s.vm.findClass RX5 = some m.cls := findClass_of_methodNamed B.named
  have hlocks := B.notSynchronized
  subst hsz
  have hD := hD0.self (sz := s.heap.size)
  generalize hAe : va_A [] s.heap.size = A at hD hE ⊢
  have hA : ∀ q : Nat, s.heap.size ≤ q → A q := fun q h => by rw [← hAe]; exact Or.inr h
  have hS : va_S A s.heap s.heap [] := va_S.rf
  have hl := lv_entry ([.int p0, .int p1]) (n := 2) (Nat.le_of_ble_eq_true rfl)
  rw [lg_entry_eq]
  generalize (lg_sl ([.int p0, .int p1]) ++ List.replicate (2 - (lg_sl ([.int p0, .int p1])).length) Slot.unset).toArray = ls at hl ⊢
  have hl : lv_has ls 2 [(0, .int p0), (1, .int p1)] := hl
  refine lv_iload_n hx hb dX5_needRows_0 rfl (lv_at hl 0 rfl) ?_
  refine lv_iconst (v := 1) hx hb dX5_needRows_1 (by decide) ?_
  refine lv_bipush (v := 10) hx hb dX5_needRows_2 (by decide) ?_
  have hS0 := hS
  have hFc := va_free (wc := []) hD hS hA [] rfl
  refine va_calli (va_runS (As := [.int p0, .int 1, .int 10]) (rest := []) ⟨hx, hb, hml, hown, hts⟩ (c_X5_isWithin l κ D (s.heap).size (p0) (1) (10) ) (va_cwS 3 hts gd_c_X5_needRows_ok_4 rfl rfl rfl (by decide +kernel) ⟨(Nat.le_of_ble_eq_true rfl), (Nat.le_of_ble_eq_true rfl)⟩) (preS hE hK hP hD hS hA [] rfl (by decide) [] rfl) rfl rfl hl.1 rfl (lv_room (Nat.le_of_ble_eq_true rfl)) dX5_needRows_4 ⟨(Nat.le_of_ble_eq_true rfl), (Nat.le_of_ble_eq_true rfl)⟩) hS (fun q _ h => hFc q h) hFc (fun r_1 u t H1 locs ht hvm hw hB hz1 hk1 hS => ?_)
  try dsimp only at hw
  obtain ⟨hP, hD, hK⟩ := jn (wc := []) (wr := []) (w1 := []) (t1 := []) hP hD hK hS0 hA [] [] rfl rfl (by decide) (by decide) ht hvm hk1 hB
  generalize H1 = H at hP hS ⊢
  have hP : va_P D vwCl ([]) H := hP
  have hD : va_D A ([]) := hD
  have hK : va_K D vwCl [] s := hK
  refine W.widen (k := 0) (n := 0) (Nat.le_of_ble_eq_true rfl) (Nat.le_of_ble_eq_true rfl) ?_
  have hw : r_1 = 1 := hw.trans (if_pos hA0)
  subst hw
  refine lv_if_eq (tgt := 20) hx hb dX5_needRows_7 (by decide) (fun c_7 => absurd c_7 (by decide)) (fun _ => ?_)
  refine lv_iload_n hx hb dX5_needRows_10 rfl (lv_at hl 1 rfl) ?_
  refine lv_iconst (v := 0) hx hb dX5_needRows_11 (by decide) ?_
  refine lv_bipush (v := 50) hx hb dX5_needRows_12 (by decide) ?_
  have hS0 := hS
  have hFc := va_free (wc := []) hD hS hA [] rfl
  refine va_calli (va_runS (As := [.int p1, .int 0, .int 50]) (rest := []) ⟨hx, hb, hml, hown, hts⟩ (c_X5_isWithin l κ D (H).size (p1) (0) (50) ) (va_cwS 3 hts gd_c_X5_needRows_ok_14 rfl rfl rfl (by decide +kernel) ⟨(Nat.le_of_ble_eq_true rfl), (Nat.le_of_ble_eq_true rfl)⟩) (preS hE hK hP hD hS hA [] rfl (by decide) [] rfl) rfl rfl hl.1 rfl (lv_room (Nat.le_of_ble_eq_true rfl)) dX5_needRows_14 ⟨(Nat.le_of_ble_eq_true rfl), (Nat.le_of_ble_eq_true rfl)⟩) hS (fun q _ h => hFc q h) hFc (fun r_2 u t H1 locs ht hvm hw hB hz1 hk1 hS => ?_)
  try dsimp only at hw
  obtain ⟨hP, hD, hK⟩ := jn (wc := []) (wr := []) (w1 := []) (t1 := []) hP hD hK hS0 hA [] [] rfl rfl (by decide) (by decide) ht hvm hk1 hB
  generalize H1 = H at hP hS ⊢
  have hP : va_P D vwCl ([]) H := hP
  have hD : va_D A ([]) := hD
  have hK : va_K D vwCl [] s := hK
  refine W.widen (k := 0) (n := 0) (Nat.le_of_ble_eq_true rfl) (Nat.le_of_ble_eq_true rfl) ?_
  have hw : r_2 = 1 := hw.trans (if_pos hB0)
  subst hw
  refine lv_if_ne (tgt := 30) hx hb dX5_needRows_17 (by decide) (fun _ => ?_) (fun c_17 => absurd c_17 (by decide))
  refine W.widen (k := 0) (n := 0) (Nat.le_of_ble_eq_true rfl) (Nat.le_of_ble_eq_true rfl) ?_
  exact W.vret hx hb hr (fun t ht hW => ⟨⟨(), rfl, trivial, PB.at hP hK hD hW.alike ht [] rfl (by decide) [] rfl⟩, hS.F ht⟩) hS.2.2 dX5_needRows_30

def wm_c_X5_needRows_bad : List Cond := .code yX5_needRows cX5_needRows 2 none :: ([.code yX5_isWithin cX5_isWithin 3 (some .boolean), .methodLink RX5 57 yX5_isWithin, .static yX5_isWithin, .initialized RX5, .classLink RX5 61 "java/lang/IllegalArgumentException", .initialized "java/lang/IllegalArgumentException"] ++ (vx_atS RX5 65 "java/lang/IllegalArgumentException" supX).filter goodWord)
set_option maxRecDepth 20000 in
theorem gd_c_X5_needRows_bad_4 : GoodIn wm_c_X5_needRows_bad (va_wsS RX5 57 yX5_isWithin wm_c_X5_isWithin) := goodIn_of _ (by decide +kernel)
set_option maxRecDepth 20000 in
theorem gd_c_X5_needRows_bad_14 : GoodIn wm_c_X5_needRows_bad (va_wsS RX5 57 yX5_isWithin wm_c_X5_isWithin) := goodIn_of _ (by decide +kernel)
set_option maxHeartbeats 4000000 in
set_option maxRecDepth 100000 in
theorem c_X5_needRows_bad (l : Launch) (hl0 : l.stackTraces = false) (κ : Nat → Nat) (D : va_G) (sz : Nat) (p0 : Int32) (p1 : Int32) (hbad : ¬ (((1 : Int32).toInt ≤ p0.toInt ∧ p0.toInt ≤ (10 : Int32).toInt) ∧ ((0 : Int32).toInt ≤ p1.toInt ∧ p1.toInt ≤ (50 : Int32).toInt))) : vx_Met l yX5_needRows wm_c_X5_needRows_bad ({ frames := 9, cells := 1, slots := 6, locals := 260 }) (va_Pc [.int p0, .int p1] (PC κ D [] [] sz)) (va_Qv (fun _ : Unit => False) (fun _ _ => True) (va_A [] sz)) (XQ "java/lang/IllegalArgumentException" D [] [] (va_A [] sz)) 1 6 (va_A [] sz) := by
  refine vx_ofW (cc := cX5_needRows) (maxL := 2) (ret := none) (by decide +kernel) rfl ?_
  intro p e s m args below meth c s₁ B hml htab hv
  obtain ⟨rfl, hsz, hP, hK, hD0, hE⟩ := hv
  have hx := B.exec
  have hb := B.bytes
  have hr := B.returns
  have hts := atoms_spec (ws := wm_c_X5_needRows_bad) B.pre
  have hown : s.vm.findClass RX5 = some m.cls := findClass_of_methodNamed B.named
  have hlocks := B.notSynchronized
  subst hsz
  have hD := hD0.self (sz := s.heap.size)
  generalize hAe : va_A [] s.heap.size = A at hD hE ⊢
  have hA : ∀ q : Nat, s.heap.size ≤ q → A q := fun q h => by rw [← hAe]; exact Or.inr h
  have hS : va_S A s.heap s.heap [] := va_S.rf
  have hl := lv_entry ([.int p0, .int p1]) (n := 2) (Nat.le_of_ble_eq_true rfl)
  rw [lg_entry_eq]
  generalize (lg_sl ([.int p0, .int p1]) ++ List.replicate (2 - (lg_sl ([.int p0, .int p1])).length) Slot.unset).toArray = ls at hl ⊢
  have hl : lv_has ls 2 [(0, .int p0), (1, .int p1)] := hl
  refine lv_iload_n hx hb dX5_needRows_0 rfl (lv_at hl 0 rfl) ?_
  refine lv_iconst (v := 1) hx hb dX5_needRows_1 (by decide) ?_
  refine lv_bipush (v := 10) hx hb dX5_needRows_2 (by decide) ?_
  have hS0 := hS
  have hFc := va_free (wc := []) hD hS hA [] rfl
  refine va_calli (va_runS (As := [.int p0, .int 1, .int 10]) (rest := []) ⟨hx, hb, hml, hown, hts⟩ (c_X5_isWithin l κ D (s.heap).size (p0) (1) (10) ) (va_cwS 3 hts gd_c_X5_needRows_bad_4 rfl rfl rfl (by decide +kernel) ⟨(Nat.le_of_ble_eq_true rfl), (Nat.le_of_ble_eq_true rfl)⟩) (preS hE hK hP hD hS hA [] rfl (by decide) [] rfl) rfl rfl hl.1 rfl (lv_room (Nat.le_of_ble_eq_true rfl)) dX5_needRows_4 ⟨(Nat.le_of_ble_eq_true rfl), (Nat.le_of_ble_eq_true rfl)⟩) hS (fun q _ h => hFc q h) hFc (fun r_1 u t H1 locs ht hvm hw hB hz1 hk1 hS => ?_)
  try dsimp only at hw
  obtain ⟨hP, hD, hK⟩ := jn (wc := []) (wr := []) (w1 := []) (t1 := []) hP hD hK hS0 hA [] [] rfl rfl (by decide) (by decide) ht hvm hk1 hB
  generalize H1 = H at hP hS ⊢
  have hP : va_P D vwCl ([]) H := hP
  have hD : va_D A ([]) := hD
  have hK : va_K D vwCl [] s := hK
  refine W.widen (k := 0) (n := 0) (Nat.le_of_ble_eq_true rfl) (Nat.le_of_ble_eq_true rfl) ?_
  have hw_4 := hw
  refine lv_if_eq (tgt := 20) hx hb dX5_needRows_7 (by decide) (fun c_7 => ?_) (fun c_7 => ?_)
  · exact thS hx hb hl0 (own := RX5) (cls := "java/lang/IllegalArgumentException") (text := "a number is out of range") (ik := 61) (is := 63) (ic := 65) hown (by decide +kernel) (hts (.classLink RX5 61 "java/lang/IllegalArgumentException") (by decide +kernel)) (hts (.initialized "java/lang/IllegalArgumentException") (by decide +kernel)) hE.st63 (fun w h => hts w ((by decide +kernel : ∀ w ∈ (vx_atS RX5 65 "java/lang/IllegalArgumentException" supX).filter goodWord, w ∈ wm_c_X5_needRows_bad) w h)) (by decide +kernel) hE.ca0 (by decide +kernel) hE hS (by rw [hml]; exact hl.1) dX5_needRows_20 dX5_needRows_23 dX5_needRows_24 dX5_needRows_26 dX5_needRows_29 htab (Nat.le_of_ble_eq_true rfl) (Nat.le_of_ble_eq_true rfl) (Nat.le_of_ble_eq_true rfl) (Nat.le_of_ble_eq_true rfl) hlocks hP hK hD [] rfl (by decide) [] rfl (Nat.le_of_ble_eq_true rfl) (Nat.le_of_ble_eq_true rfl)
  · refine lv_iload_n hx hb dX5_needRows_10 rfl (lv_at hl 1 rfl) ?_
    refine lv_iconst (v := 0) hx hb dX5_needRows_11 (by decide) ?_
    refine lv_bipush (v := 50) hx hb dX5_needRows_12 (by decide) ?_
    have hS0 := hS
    have hFc := va_free (wc := []) hD hS hA [] rfl
    refine va_calli (va_runS (As := [.int p1, .int 0, .int 50]) (rest := []) ⟨hx, hb, hml, hown, hts⟩ (c_X5_isWithin l κ D (H).size (p1) (0) (50) ) (va_cwS 3 hts gd_c_X5_needRows_bad_14 rfl rfl rfl (by decide +kernel) ⟨(Nat.le_of_ble_eq_true rfl), (Nat.le_of_ble_eq_true rfl)⟩) (preS hE hK hP hD hS hA [] rfl (by decide) [] rfl) rfl rfl hl.1 rfl (lv_room (Nat.le_of_ble_eq_true rfl)) dX5_needRows_14 ⟨(Nat.le_of_ble_eq_true rfl), (Nat.le_of_ble_eq_true rfl)⟩) hS (fun q _ h => hFc q h) hFc (fun r_2 u t H1 locs ht hvm hw hB hz1 hk1 hS => ?_)
    try dsimp only at hw
    obtain ⟨hP, hD, hK⟩ := jn (wc := []) (wr := []) (w1 := []) (t1 := []) hP hD hK hS0 hA [] [] rfl rfl (by decide) (by decide) ht hvm hk1 hB
    generalize H1 = H at hP hS ⊢
    have hP : va_P D vwCl ([]) H := hP
    have hD : va_D A ([]) := hD
    have hK : va_K D vwCl [] s := hK
    refine W.widen (k := 0) (n := 0) (Nat.le_of_ble_eq_true rfl) (Nat.le_of_ble_eq_true rfl) ?_
    have hw_14 := hw
    refine lv_if_ne (tgt := 30) hx hb dX5_needRows_17 (by decide) (fun c_17 => absurd ⟨ifn hw_4 c_7, ifn hw_14 c_17⟩ hbad) (fun c_17 => ?_)
    exact thS hx hb hl0 (own := RX5) (cls := "java/lang/IllegalArgumentException") (text := "a number is out of range") (ik := 61) (is := 63) (ic := 65) hown (by decide +kernel) (hts (.classLink RX5 61 "java/lang/IllegalArgumentException") (by decide +kernel)) (hts (.initialized "java/lang/IllegalArgumentException") (by decide +kernel)) hE.st63 (fun w h => hts w ((by decide +kernel : ∀ w ∈ (vx_atS RX5 65 "java/lang/IllegalArgumentException" supX).filter goodWord, w ∈ wm_c_X5_needRows_bad) w h)) (by decide +kernel) hE.ca0 (by decide +kernel) hE hS (by rw [hml]; exact hl.1) dX5_needRows_20 dX5_needRows_23 dX5_needRows_24 dX5_needRows_26 dX5_needRows_29 htab (Nat.le_of_ble_eq_true rfl) (Nat.le_of_ble_eq_true rfl) (Nat.le_of_ble_eq_true rfl) (Nat.le_of_ble_eq_true rfl) hlocks hP hK hD [] rfl (by decide) [] rfl (Nat.le_of_ble_eq_true rfl) (Nat.le_of_ble_eq_true rfl)
