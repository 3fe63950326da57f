def wm_c_grow1 : List Cond := .code yJx4a65c_grow_92f84 cJx4a65c_grow_92f84 4 (some (.array (.object "java/lang/Object"))) :: ([.fieldLink RJx4a65c 9 "java/util/ArrayList" "elementData" "[Ljava/lang/Object;", .fieldLink RJx4a65c 39 "java/util/ArrayList" "DEFAULTCAPACITY_EMPTY_ELEMENTDATA" "[Ljava/lang/Object;", .methodLink RJx4a65c 79 Lib.Math.max.name, .static Lib.Math.max.name, .initialized "java/lang/Math", .code Lib.Math.max.name Lib.Math.max.code 2 (some .int), .classLink RJx4a65c 7 "java/lang/Object"] ++ wsJx4a65c0)
set_option maxHeartbeats 4000000 in
set_option maxRecDepth 100000 in
theorem c_grow1 (l : Launch) (κ : Nat → Nat) (D : va_G) (sz : Nat) (h0 : Nat) (mk : Int32)  : Met l yJx4a65c_grow_92f84 wm_c_grow1 ({ frames := 8, cells := 1, slots := 10, locals := 200 }) (va_Pc [.ref h0, .int 1] (PC κ D [] [(h0, .inr (6, [.int mk, .ref (κ 0), .int 0]))] sz)) (va_Qr (fun _ : Unit => True) (fun _ ra t => ∃ (cA9 : ClassId), PB D [(cA9, .object "java/lang/Object")] [(h0, .inr (6, [.int mk, .ref ra, .int 0])), (ra, .inl (cA9, 10, .inr (.inr (.inr (.inr (fun _ => none))))))] (va_A [(h0, .inr (6, [.int mk, .ref (κ 0), .int 0]))] sz) t) (va_A [(h0, .inr (6, [.int mk, .ref (κ 0), .int 0]))] sz)) 1 10 (va_A [(h0, .inr (6, [.int mk, .ref (κ 0), .int 0]))] sz) := by
  refine Met.ofW (cc := cJx4a65c_grow_92f84) (maxL := 4) (ret := (some (.array (.object "java/lang/Object")))) (by decide +kernel) rfl ?_
  intro p e s m args below meth c s₁ B hml hv
  obtain ⟨rfl, hsz, hP, hK, hD0, hE⟩ := hv
  have hx := B.exec
  have hb := B.bytes
  have hr := B.returns
  have hts := atoms_spec (ws := wm_c_grow1) B.pre
  have hown : s.vm.findClass RJx4a65c = some m.cls := findClass_of_methodNamed B.named
  have hlocks := B.notSynchronized
  have iRJx4a65c : ∀ w ∈ u_ws RJx4a65c TJx4a65c 3, w ∈ wm_c_grow1 := by decide +kernel
  subst hsz
  have hD := hD0.self (sz := s.heap.size)
  generalize hAe : va_A [(h0, .inr (6, [.int mk, .ref (κ 0), .int 0]))] s.heap.size = A at hD hE ⊢
  have hA : ∀ q : Nat, s.heap.size ≤ q → A q := fun q h => by rw [← hAe]; exact Or.inr h
  have hS : va_S A s.heap s.heap [] := va_S.rf
  have hl := lv_entry ([.ref h0, .int 1]) (n := 4) (Nat.le_of_ble_eq_true rfl)
  rw [lg_entry_eq]
  generalize (lg_sl ([.ref h0, .int 1]) ++ List.replicate (4 - (lg_sl ([.ref h0, .int 1])).length) Slot.unset).toArray = ls at hl ⊢
  have hl : lv_has ls 4 [(0, .ref h0), (1, .int 1)] := hl
  refine lv_aload_n hx hb dJx4a65c_grow_92f84_0 rfl (lv_at hl 0 rfl) ?_
  refine va_get (D := D) (ci := 6) (v := .ref (κ 0)) (C := RJx4a65c) (T := TJx4a65c) (N := 3) hx hb hts iRJx4a65c hown hK hP 0 rfl rfl 1 (by decide) (hts (.fieldLink RJx4a65c 9 "java/util/ArrayList" "elementData" "[Ljava/lang/Object;") (by decide +kernel)) (fun _ h9 => h9) rfl dJx4a65c_grow_92f84_1 ?_
  refine va_tlen (v := 0) hx hb hE.dt hS (by decide) dJx4a65c_grow_92f84_4 ?_
  refine lv_istore_n (lv' := [(2, .int 0), (0, .ref h0), (1, .int 1)]) hx hb dJx4a65c_grow_92f84_5 rfl hl (by decide) rfl (fun ls hl => ?_)
  refine lv_iload_n hx hb dJx4a65c_grow_92f84_6 rfl (lv_at hl 0 rfl) ?_
  refine lv_if_gt (tgt := 20) hx hb dJx4a65c_grow_92f84_7 (by decide) (fun c_7 => absurd c_7 (by decide)) (fun _ => ?_)
  refine lv_aload_n hx hb dJx4a65c_grow_92f84_10 rfl (lv_at hl 1 rfl) ?_
  refine va_get (D := D) (ci := 6) (v := .ref (κ 0)) (C := RJx4a65c) (T := TJx4a65c) (N := 3) hx hb hts iRJx4a65c hown hK hP 0 rfl rfl 1 (by decide) (hts (.fieldLink RJx4a65c 9 "java/util/ArrayList" "elementData" "[Ljava/lang/Object;") (by decide +kernel)) (fun _ h9 => h9) rfl dJx4a65c_grow_92f84_11 ?_
  refine va_gets hx hb hE.de hS hown (hts (.fieldLink RJx4a65c 39 "java/util/ArrayList" "DEFAULTCAPACITY_EMPTY_ELEMENTDATA" "[Ljava/lang/Object;") (by decide +kernel)) (fun _ h9 => h9) dJx4a65c_grow_92f84_14 ?_
  refine lv_acmp_eq (rx := some (κ 0)) (ry := some (κ 0)) (tgt := 45) hx hb dJx4a65c_grow_92f84_17 (by decide) (fun _ => ?_) (fun c9 => absurd rfl c9)
  refine lv_aload_n hx hb dJx4a65c_grow_92f84_45 rfl (lv_at hl 1 rfl) ?_
  refine lv_bipush (v := 10) hx hb dJx4a65c_grow_92f84_46 (by decide) ?_
  refine lv_iload_n hx hb dJx4a65c_grow_92f84_48 rfl (lv_at hl 2 rfl) ?_
  refine va_mmax hx hb (by rw [hml]; exact hl.1.symm) hown (hts (.methodLink RJx4a65c 79 Lib.Math.max.name) (by decide +kernel)) (hts (.static Lib.Math.max.name) (by decide +kernel)) (hts (.initialized "java/lang/Math") (by decide +kernel)) (hts (.code Lib.Math.max.name Lib.Math.max.code 2 (some .int)) (by decide +kernel)) (Nat.le_of_ble_eq_true rfl) (Nat.le_of_ble_eq_true rfl) (Nat.le_of_ble_eq_true rfl) (Nat.le_of_ble_eq_true rfl) dJx4a65c_grow_92f84_49 ?_
  refine lv_topi (fun v_1 ev_1 => ?_)
  have ev_1 : v_1 = 10 := ev_1.trans (by decide)
  subst ev_1
  refine va_newq (C := "java/lang/Object") hx hb hown (hts (.classLink RJx4a65c 7 "java/lang/Object") (by decide +kernel)) hE.ao2 hK hP hD hS hA (N' := 10) (by decide) (by decide +kernel) (Nat.le_of_ble_eq_true rfl) (Nat.le_of_ble_eq_true rfl) (Nat.le_of_ble_eq_true rfl) dJx4a65c_grow_92f84_52 (fun q_2 cA_3 H hK hP hD hS => ?_)
  have hP : va_P D vwCl ([(h0, .inr (6, [.int mk, .ref (κ 0), .int 0])), (q_2, .inl (cA_3, 10, .inr (.inr (.inr (.inr (fun _ => none))))))]) H := hP
  have hD : va_D A ([(h0, .inr (6, [.int mk, .ref (κ 0), .int 0])), (q_2, .inl (cA_3, 10, .inr (.inr (.inr (.inr (fun _ => none))))))]) := hD
  have hK : va_K D vwCl [(cA_3, .object "java/lang/Object")] s := hK
  refine W.widen (k := 1) (n := 10) (Nat.le_of_ble_eq_true rfl) (Nat.le_of_ble_eq_true rfl) ?_
  refine lv_dup_x1 hx hb dJx4a65c_grow_92f84_55 rfl rfl ?_
  refine va_put (D := D) (ci := 6) (v := .ref q_2) (ty := .array (.object "java/lang/Object")) (C := RJx4a65c) (T := TJx4a65c) (N := 3) hx hb hts iRJx4a65c tyJx4a65c tyJx4a65c_ok nmJx4a65c hown hK hP hD hS 0 rfl rfl 1 (by decide) (hts (.fieldLink RJx4a65c 9 "java/util/ArrayList" "elementData" "[Ljava/lang/Object;") (by decide +kernel)) (fun _ h9 => h9) rfl (by decide +kernel) rfl rfl (Nat.le_of_ble_eq_true rfl) dJx4a65c_grow_92f84_56 (fun H locs hP hD hS => ?_)
  have hP : va_P D vwCl ([(h0, .inr (6, [.int mk, .ref q_2, .int 0])), (q_2, .inl (cA_3, 10, .inr (.inr (.inr (.inr (fun _ => none))))))]) H := hP
  have hD : va_D A ([(h0, .inr (6, [.int mk, .ref q_2, .int 0])), (q_2, .inl (cA_3, 10, .inr (.inr (.inr (.inr (fun _ => none))))))]) := hD
  refine W.widen (k := 1) (n := 10) (Nat.le_of_ble_eq_true rfl) (Nat.le_of_ble_eq_true rfl) ?_
  exact W.aret hx hb hr (Or.inr ⟨_, rfl⟩) (Or.inr ⟨_, rfl⟩) (fun t ht hW => ⟨⟨(), q_2, rfl, trivial, cA_3, PB.at hP hK hD hW.alike ht [0, 1] rfl (by decide) [0] rfl⟩, hS.F ht⟩) hS.2.2 dJx4a65c_grow_92f84_59

def wm_c_grow0 : List Cond := .code yJx4a65c_grow_d5877 cJx4a65c_grow_d5877 1 (some (.array (.object "java/lang/Object"))) :: ([.fieldLink RJx4a65c 48 "java/util/ArrayList" "size" "I", .code yJx4a65c_grow_92f84 cJx4a65c_grow_92f84 4 (some (.array (.object "java/lang/Object"))), .fieldLink RJx4a65c 9 "java/util/ArrayList" "elementData" "[Ljava/lang/Object;", .fieldLink RJx4a65c 39 "java/util/ArrayList" "DEFAULTCAPACITY_EMPTY_ELEMENTDATA" "[Ljava/lang/Object;", .methodLink RJx4a65c 79 Lib.Math.max.name, .static Lib.Math.max.name, .initialized "java/lang/Math", .code Lib.Math.max.name Lib.Math.max.code 2 (some .int), .classLink RJx4a65c 7 "java/lang/Object", .methodLink RJx4a65c 69 yJx4a65c_grow_92f84, .instanceMethod yJx4a65c_grow_92f84, .selects RJx4a65c yJx4a65c_grow_92f84 yJx4a65c_grow_92f84, .initialized RJx4a65c] ++ wsJx4a65c0)
set_option maxRecDepth 20000 in
theorem gd_c_grow0_7 : GoodIn wm_c_grow0 (wsV RJx4a65c 69 RJx4a65c yJx4a65c_grow_92f84 wm_c_grow1) := goodIn_of _ (by decide +kernel)
set_option maxHeartbeats 4000000 in
set_option maxRecDepth 100000 in
theorem c_grow0 (l : Launch) (κ : Nat → Nat) (D : va_G) (sz : Nat) (h0 : Nat) (mk : Int32)  : Met l yJx4a65c_grow_d5877 wm_c_grow0 ({ frames := 9, cells := 1, slots := 10, locals := 260 }) (va_Pc [.ref h0] (PC κ D [] [(h0, .inr (6, [.int mk, .ref (κ 0), .int 0]))] sz)) (va_Qr (fun _ : Unit => True) (fun _ ra t => ∃ (cA9 : ClassId), PB D [(cA9, .object "java/lang/Object")] [(h0, .inr (6, [.int mk, .ref ra, .int 0])), (ra, .inl (cA9, 10, .inr (.inr (.inr (.inr (fun _ => none))))))] (va_A [(h0, .inr (6, [.int mk, .ref (κ 0), .int 0]))] sz) t) (va_A [(h0, .inr (6, [.int mk, .ref (κ 0), .int 0]))] sz)) 1 10 (va_A [(h0, .inr (6, [.int mk, .ref (κ 0), .int 0]))] sz) := by
  refine Met.ofW (cc := cJx4a65c_grow_d5877) (maxL := 1) (ret := (some (.array (.object "java/lang/Object")))) (by decide +kernel) rfl ?_
  intro p e s m args below meth c s₁ B hml hv
  obtain ⟨rfl, hsz, hP, hK, hD0, hE⟩ := hv
  have hx := B.exec
  have hb := B.bytes
  have hr := B.returns
  have hts := atoms_spec (ws := wm_c_grow0) B.pre
  have hown : s.vm.findClass RJx4a65c = some m.cls := findClass_of_methodNamed B.named
  have hlocks := B.notSynchronized
  have iRJx4a65c : ∀ w ∈ u_ws RJx4a65c TJx4a65c 3, w ∈ wm_c_grow0 := by decide +kernel
  subst hsz
  have hD := hD0.self (sz := s.heap.size)
  generalize hAe : va_A [(h0, .inr (6, [.int mk, .ref (κ 0), .int 0]))] s.heap.size = A at hD hE ⊢
  have hA : ∀ q : Nat, s.heap.size ≤ q → A q := fun q h => by rw [← hAe]; exact Or.inr h
  have hS : va_S A s.heap s.heap [] := va_S.rf
  have hl := lv_entry ([.ref h0]) (n := 1) (Nat.le_of_ble_eq_true rfl)
  rw [lg_entry_eq]
  generalize (lg_sl ([.ref h0]) ++ List.replicate (1 - (lg_sl ([.ref h0])).length) Slot.unset).toArray = ls at hl ⊢
  have hl : lv_has ls 1 [(0, .ref h0)] := hl
  refine lv_aload_n hx hb dJx4a65c_grow_d5877_0 rfl (lv_at hl 0 rfl) ?_
  refine lv_aload_n hx hb dJx4a65c_grow_d5877_1 rfl (lv_at hl 0 rfl) ?_
  refine va_get (D := D) (ci := 6) (v := .int 0) (C := RJx4a65c) (T := TJx4a65c) (N := 3) hx hb hts iRJx4a65c hown hK hP 0 rfl rfl 2 (by decide) (hts (.fieldLink RJx4a65c 48 "java/util/ArrayList" "size" "I") (by decide +kernel)) (fun _ h9 => h9) rfl dJx4a65c_grow_d5877_2 ?_
  refine lv_iconst (v := 1) hx hb dJx4a65c_grow_d5877_5 (by decide) ?_
  refine lv_iadd hx hb dJx4a65c_grow_d5877_6 ?_
  refine lv_topi (fun v_1 ev_1 => ?_)
  have ev_1 : v_1 = 1 := ev_1.trans (by decide)
  subst ev_1
  have hS0 := hS
  have hFc := va_free (wc := [(h0, .inr (6, [.int mk, .ref (κ 0), .int 0]))]) hD hS hA [0] rfl
  refine va_callr (va_runV (As := [.int 1]) (rest := []) ⟨hx, hb, hml, hown, hts⟩ (c_grow1 l κ D (s.heap).size (h0) (mk) ) (cwV 1 hts gd_c_grow0_7 rfl rfl rfl (by decide +kernel) ⟨(Nat.le_of_ble_eq_true rfl), (Nat.le_of_ble_eq_true rfl)⟩) (preV hE hK hP hD hS hA [0] rfl (by decide) [] rfl (va_recv hK hP (ci := 6) (q0 := 0) rfl rfl)) rfl rfl hl.1 rfl (lv_room (Nat.le_of_ble_eq_true rfl)) dJx4a65c_grow_d5877_7 ⟨(Nat.le_of_ble_eq_true rfl), (Nat.le_of_ble_eq_true rfl)⟩) hS (fun q _ h => hFc q h) hFc (fun u r_2 t H1 locs ht hvm hw hB hz1 hk1 hS => ?_)
  obtain ⟨cA9_3, hB⟩ := hB
  try dsimp only at hw
  obtain ⟨hP, hD, hK⟩ := jn (wc := [(h0, .inr (6, [.int mk, .ref (κ 0), .int 0]))]) (wr := []) (w1 := [(h0, .inr (6, [.int mk, .ref r_2, .int 0])), (r_2, .inl (cA9_3, 10, .inr (.inr (.inr (.inr (fun _ => none))))))]) (t1 := [(cA9_3, .object "java/lang/Object")]) hP hD hK hS0 hA [0] [] rfl rfl (by decide) (by decide) ht hvm hk1 hB
  generalize H1 = H at hP hS ⊢
  have hP : va_P D vwCl ([(h0, .inr (6, [.int mk, .ref r_2, .int 0])), (r_2, .inl (cA9_3, 10, .inr (.inr (.inr (.inr (fun _ => none))))))]) H := hP
  have hD : va_D A ([(h0, .inr (6, [.int mk, .ref r_2, .int 0])), (r_2, .inl (cA9_3, 10, .inr (.inr (.inr (.inr (fun _ => none))))))]) := hD
  have hK : va_K D vwCl [(cA9_3, .object "java/lang/Object")] s := hK
  refine W.widen (k := 1) (n := 10) (Nat.le_of_ble_eq_true rfl) (Nat.le_of_ble_eq_true rfl) ?_
  refine W.widen (k := 1) (n := 10) (Nat.le_of_ble_eq_true rfl) (Nat.le_of_ble_eq_true rfl) ?_
  exact W.aret hx hb hr (Or.inr ⟨_, rfl⟩) (Or.inr ⟨_, rfl⟩) (fun t ht hW => ⟨⟨(), r_2, rfl, trivial, cA9_3, PB.at hP hK hD hW.alike ht [0, 1] rfl (by decide) [0] rfl⟩, hS.F ht⟩) hS.2.2 dJx4a65c_grow_d5877_10

def wm_c_add3_K : List Cond := .code yJx4a65c_add_72be8 cJx4a65c_add_72be8 4 none :: ([.code yJx4a65c_grow_d5877 cJx4a65c_grow_d5877 1 (some (.array (.object "java/lang/Object"))), .fieldLink RJx4a65c 48 "java/util/ArrayList" "size" "I", .code yJx4a65c_grow_92f84 cJx4a65c_grow_92f84 4 (some (.array (.object "java/lang/Object"))), .fieldLink RJx4a65c 9 "java/util/ArrayList" "elementData" "[Ljava/lang/Object;", .fieldLink RJx4a65c 39 "java/util/ArrayList" "DEFAULTCAPACITY_EMPTY_ELEMENTDATA" "[Ljava/lang/Object;", .methodLink RJx4a65c 79 Lib.Math.max.name, .static Lib.Math.max.name, .initialized "java/lang/Math", .code Lib.Math.max.name Lib.Math.max.code 2 (some .int), .classLink RJx4a65c 7 "java/lang/Object", .methodLink RJx4a65c 69 yJx4a65c_grow_92f84, .instanceMethod yJx4a65c_grow_92f84, .selects RJx4a65c yJx4a65c_grow_92f84 yJx4a65c_grow_92f84, .initialized RJx4a65c, .methodLink RJx4a65c 129 yJx4a65c_grow_d5877, .instanceMethod yJx4a65c_grow_d5877, .selects RJx4a65c yJx4a65c_grow_d5877 yJx4a65c_grow_d5877] ++ wsJx4a65c0)
set_option maxRecDepth 20000 in
theorem gd_c_add3_K_7 : GoodIn wm_c_add3_K (wsV RJx4a65c 129 RJx4a65c yJx4a65c_grow_d5877 wm_c_grow0) := goodIn_of _ (by decide +kernel)
set_option maxHeartbeats 4000000 in
set_option maxRecDepth 100000 in
theorem c_add3_K (l : Launch) (κ : Nat → Nat) (D : va_G) (sz : Nat) (h0 : Nat) (mk : Int32) (e0 : Nat) (v0 : Int32) (v1 : Int32) (v2 : Int32) (v3 : Int32) (v4 : Int32)  : Met l yJx4a65c_add_72be8 wm_c_add3_K ({ frames := 10, cells := 1, slots := 10, locals := 320 }) (va_Pc [.ref h0, .ref e0, .ref (κ 0), .int 0] (PC κ D [] [(h0, .inr (6, [.int mk, .ref (κ 0), .int 0])), (e0, .inr (14, [.int v0, .int v1, .int v2, .int v3, .int v4]))] sz)) (va_Qv (fun _ : Unit => True) (fun _ t => ∃ (ra : Nat), PB D [] [(h0, .inr (6, [.int mk, .ref ra, .int 1]))] (va_A [(h0, .inr (6, [.int mk, .ref (κ 0), .int 0])), (e0, .inr (14, [.int v0, .int v1, .int v2, .int v3, .int v4]))] sz) t) (va_A [(h0, .inr (6, [.int mk, .ref (κ 0), .int 0])), (e0, .inr (14, [.int v0, .int v1, .int v2, .int v3, .int v4]))] sz)) 1 10 (va_A [(h0, .inr (6, [.int mk, .ref (κ 0), .int 0])), (e0, .inr (14, [.int v0, .int v1, .int v2, .int v3, .int v4]))] sz) := by
  refine Met.ofW (cc := cJx4a65c_add_72be8) (maxL := 4) (ret := none) (by decide +kernel) rfl ?_
  intro p e s m args below meth c s₁ B hml hv
  obtain ⟨rfl, hsz, hP, hK, hD0, hE⟩ := hv
  have hx := B.exec
  have hb := B.bytes
  have hr := B.returns
  have hts := atoms_spec (ws := wm_c_add3_K) B.pre
  have hown : s.vm.findClass RJx4a65c = some m.cls := findClass_of_methodNamed B.named
  have hlocks := B.notSynchronized
  have iRJx4a65c : ∀ w ∈ u_ws RJx4a65c TJx4a65c 3, w ∈ wm_c_add3_K := by decide +kernel
  subst hsz
  have hD := hD0.self (sz := s.heap.size)
  generalize hAe : va_A [(h0, .inr (6, [.int mk, .ref (κ 0), .int 0])), (e0, .inr (14, [.int v0, .int v1, .int v2, .int v3, .int v4]))] s.heap.size = A at hD hE ⊢
  have hA : ∀ q : Nat, s.heap.size ≤ q → A q := fun q h => by rw [← hAe]; exact Or.inr h
  have hS : va_S A s.heap s.heap [] := va_S.rf
  have hl := lv_entry ([.ref h0, .ref e0, .ref (κ 0), .int 0]) (n := 4) (Nat.le_of_ble_eq_true rfl)
  rw [lg_entry_eq]
  generalize (lg_sl ([.ref h0, .ref e0, .ref (κ 0), .int 0]) ++ List.replicate (4 - (lg_sl ([.ref h0, .ref e0, .ref (κ 0), .int 0])).length) Slot.unset).toArray = ls at hl ⊢
  have hl : lv_has ls 4 [(0, .ref h0), (1, .ref e0), (2, .ref (κ 0)), (3, .int 0)] := hl
  refine lv_iload_n hx hb dJx4a65c_add_72be8_0 rfl (lv_at hl 3 rfl) ?_
  refine lv_aload_n hx hb dJx4a65c_add_72be8_1 rfl (lv_at hl 2 rfl) ?_
  refine va_tlen (v := 0) hx hb hE.dt hS (by decide) dJx4a65c_add_72be8_2 ?_
  refine lv_icmp_ne (tgt := 11) hx hb dJx4a65c_add_72be8_3 (by decide) (fun c_3 => absurd c_3 (by decide)) (fun _ => ?_)
  refine lv_aload_n hx hb dJx4a65c_add_72be8_6 rfl (lv_at hl 0 rfl) ?_
  have hS0 := hS
  have hFc := va_free (wc := [(h0, .inr (6, [.int mk, .ref (κ 0), .int 0]))]) hD hS hA [0] rfl
  refine va_callr (va_runV (As := []) (rest := []) ⟨hx, hb, hml, hown, hts⟩ (c_grow0 l κ D (s.heap).size (h0) (mk) ) (cwV 0 hts gd_c_add3_K_7 rfl rfl rfl (by decide +kernel) ⟨(Nat.le_of_ble_eq_true rfl), (Nat.le_of_ble_eq_true rfl)⟩) (preV hE hK hP hD hS hA [0] rfl (by decide) [] rfl (va_recv hK hP (ci := 6) (q0 := 0) rfl rfl)) rfl rfl hl.1 rfl (lv_room (Nat.le_of_ble_eq_true rfl)) dJx4a65c_add_72be8_7 ⟨(Nat.le_of_ble_eq_true rfl), (Nat.le_of_ble_eq_true rfl)⟩) hS (fun q _ h => hFc q h) hFc (fun u r_1 t H1 locs ht hvm hw hB hz1 hk1 hS => ?_)
  obtain ⟨cA9_2, hB⟩ := hB
  try dsimp only at hw
  obtain ⟨hP, hD, hK⟩ := jn (wc := [(h0, .inr (6, [.int mk, .ref (κ 0), .int 0]))]) (wr := [(e0, .inr (14, [.int v0, .int v1, .int v2, .int v3, .int v4]))]) (w1 := [(h0, .inr (6, [.int mk, .ref r_1, .int 0])), (r_1, .inl (cA9_2, 10, .inr (.inr (.inr (.inr (fun _ => none))))))]) (t1 := [(cA9_2, .object "java/lang/Object")]) hP hD hK hS0 hA [0] [1] rfl rfl (by decide) (by decide) ht hvm hk1 hB
  generalize H1 = H at hP hS ⊢
  have hP : va_P D vwCl ([(e0, .inr (14, [.int v0, .int v1, .int v2, .int v3, .int v4])), (h0, .inr (6, [.int mk, .ref r_1, .int 0])), (r_1, .inl (cA9_2, 10, .inr (.inr (.inr (.inr (fun _ => none))))))]) H := hP
  have hD : va_D A ([(e0, .inr (14, [.int v0, .int v1, .int v2, .int v3, .int v4])), (h0, .inr (6, [.int mk, .ref r_1, .int 0])), (r_1, .inl (cA9_2, 10, .inr (.inr (.inr (.inr (fun _ => none))))))]) := hD
  have hK : va_K D vwCl [(cA9_2, .object "java/lang/Object")] s := hK
  refine W.widen (k := 1) (n := 10) (Nat.le_of_ble_eq_true rfl) (Nat.le_of_ble_eq_true rfl) ?_
  refine lv_astore_n (lv' := [(2, .ref r_1), (0, .ref h0), (1, .ref e0), (3, .int 0)]) hx hb dJx4a65c_add_72be8_10 rfl hl (by decide) rfl (fun ls hl => ?_)
  refine lv_aload_n hx hb dJx4a65c_add_72be8_11 rfl (lv_at hl 0 rfl) ?_
  refine lv_iload_n hx hb dJx4a65c_add_72be8_12 rfl (lv_at hl 3 rfl) ?_
  refine lv_aload_n hx hb dJx4a65c_add_72be8_13 rfl (lv_at hl 2 rfl) ?_
  refine va_astqO (E := "java/lang/Object") hx hb hK hP hD hS 2 0 0 14 rfl rfl hE.ca6 rfl rfl (by unfold vp_in; decide) dJx4a65c_add_72be8_14 (fun H locs hP hD hS => ?_)
  have hP : va_P D vwCl ([(e0, .inr (14, [.int v0, .int v1, .int v2, .int v3, .int v4])), (h0, .inr (6, [.int mk, .ref r_1, .int 0])), (r_1, .inl (cA9_2, 10, .inr (.inr (.inr (.inr (va_up (fun _ => none) 0 (some e0)))))))]) H := hP
  have hD : va_D A ([(e0, .inr (14, [.int v0, .int v1, .int v2, .int v3, .int v4])), (h0, .inr (6, [.int mk, .ref r_1, .int 0])), (r_1, .inl (cA9_2, 10, .inr (.inr (.inr (.inr (va_up (fun _ => none) 0 (some e0)))))))]) := hD
  refine lv_aload_n hx hb dJx4a65c_add_72be8_15 rfl (lv_at hl 1 rfl) ?_
  refine lv_iload_n hx hb dJx4a65c_add_72be8_16 rfl (lv_at hl 3 rfl) ?_
  refine lv_iconst (v := 1) hx hb dJx4a65c_add_72be8_17 (by decide) ?_
  refine lv_iadd hx hb dJx4a65c_add_72be8_18 ?_
  refine lv_topi (fun v_3 ev_3 => ?_)
  have ev_3 : v_3 = 1 := ev_3.trans (by decide)
  subst ev_3
  refine va_put (D := D) (ci := 6) (v := .int 1) (ty := .int) (C := RJx4a65c) (T := TJx4a65c) (N := 3) hx hb hts iRJx4a65c tyJx4a65c tyJx4a65c_ok nmJx4a65c hown hK hP hD hS 1 rfl rfl 2 (by decide) (hts (.fieldLink RJx4a65c 48 "java/util/ArrayList" "size" "I") (by decide +kernel)) (fun _ h9 => h9) rfl (by decide +kernel) rfl rfl (Nat.le_of_ble_eq_true rfl) dJx4a65c_add_72be8_19 (fun H locs hP hD hS => ?_)
  have hP : va_P D vwCl ([(e0, .inr (14, [.int v0, .int v1, .int v2, .int v3, .int v4])), (h0, .inr (6, [.int mk, .ref r_1, .int 1])), (r_1, .inl (cA9_2, 10, .inr (.inr (.inr (.inr (va_up (fun _ => none) 0 (some e0)))))))]) H := hP
  have hD : va_D A ([(e0, .inr (14, [.int v0, .int v1, .int v2, .int v3, .int v4])), (h0, .inr (6, [.int mk, .ref r_1, .int 1])), (r_1, .inl (cA9_2, 10, .inr (.inr (.inr (.inr (va_up (fun _ => none) 0 (some e0)))))))]) := hD
  refine W.widen (k := 1) (n := 10) (Nat.le_of_ble_eq_true rfl) (Nat.le_of_ble_eq_true rfl) ?_
  exact W.vret hx hb hr (fun t ht hW => ⟨⟨(), rfl, trivial, r_1, PB.at hP hK hD hW.alike ht [1] rfl (by decide) [] rfl⟩, hS.F ht⟩) hS.2.2 dJx4a65c_add_72be8_22

def wm_c_add1_K : List Cond := .code yJx4a65c_add_9ea2d cJx4a65c_add_9ea2d 2 (some .boolean) :: ([.sameField "java/util/ArrayList" "java/util/AbstractList" "modCount" "I", .fieldLink RJx4a65c 63 "java/util/ArrayList" "modCount" "I", .fieldLink RJx4a65c 9 "java/util/ArrayList" "elementData" "[Ljava/lang/Object;", .fieldLink RJx4a65c 48 "java/util/ArrayList" "size" "I", .code yJx4a65c_add_72be8 cJx4a65c_add_72be8 4 none, .code yJx4a65c_grow_d5877 cJx4a65c_grow_d5877 1 (some (.array (.object "java/lang/Object"))), .code yJx4a65c_grow_92f84 cJx4a65c_grow_92f84 4 (some (.array (.object "java/lang/Object"))), .fieldLink RJx4a65c 39 "java/util/ArrayList" "DEFAULTCAPACITY_EMPTY_ELEMENTDATA" "[Ljava/lang/Object;", .methodLink RJx4a65c 79 Lib.Math.max.name, .static Lib.Math.max.name, .initialized "java/lang/Math", .code Lib.Math.max.name Lib.Math.max.code 2 (some .int), .classLink RJx4a65c 7 "java/lang/Object", .methodLink RJx4a65c 69 yJx4a65c_grow_92f84, .instanceMethod yJx4a65c_grow_92f84, .selects RJx4a65c yJx4a65c_grow_92f84 yJx4a65c_grow_92f84, .initialized RJx4a65c, .methodLink RJx4a65c 129 yJx4a65c_grow_d5877, .instanceMethod yJx4a65c_grow_d5877, .selects RJx4a65c yJx4a65c_grow_d5877 yJx4a65c_grow_d5877, .methodLink RJx4a65c 131 yJx4a65c_add_72be8, .instanceMethod yJx4a65c_add_72be8, .selects RJx4a65c yJx4a65c_add_72be8 yJx4a65c_add_72be8] ++ wsJx4a65c0)
set_option maxRecDepth 20000 in
theorem gd_c_add1_K_20 : GoodIn wm_c_add1_K (wsV RJx4a65c 131 RJx4a65c yJx4a65c_add_72be8 wm_c_add3_K) := goodIn_of _ (by decide +kernel)
set_option maxHeartbeats 4000000 in
set_option maxRecDepth 100000 in
theorem c_add1_K (l : Launch) (κ : Nat → Nat) (D : va_G) (sz : Nat) (h0 : Nat) (e0 : Nat) (v0 : Int32) (v1 : Int32) (v2 : Int32) (v3 : Int32) (v4 : Int32)  : Met l yJx4a65c_add_9ea2d wm_c_add1_K ({ frames := 11, cells := 1, slots := 10, locals := 380 }) (va_Pc [.ref h0, .ref e0] (PC κ D [] [(h0, .inr (6, [.int 0, .ref (κ 0), .int 0])), (e0, .inr (14, [.int v0, .int v1, .int v2, .int v3, .int v4]))] sz)) (va_Qi (fun (r : Int32) (_ : Unit) => r = 1) (fun _ t => ∃ (ra : Nat), PB D [] [(h0, .inr (6, [.int 1, .ref ra, .int 1]))] (va_A [(h0, .inr (6, [.int 0, .ref (κ 0), .int 0])), (e0, .inr (14, [.int v0, .int v1, .int v2, .int v3, .int v4]))] sz) t) (va_A [(h0, .inr (6, [.int 0, .ref (κ 0), .int 0])), (e0, .inr (14, [.int v0, .int v1, .int v2, .int v3, .int v4]))] sz)) 1 10 (va_A [(h0, .inr (6, [.int 0, .ref (κ 0), .int 0])), (e0, .inr (14, [.int v0, .int v1, .int v2, .int v3, .int v4]))] sz) := by
  refine Met.ofW (cc := cJx4a65c_add_9ea2d) (maxL := 2) (ret := (some .boolean)) (by decide +kernel) rfl ?_
  intro p e s m args below meth c s₁ B hml hv
  obtain ⟨rfl, hsz, hP, hK, hD0, hE⟩ := hv
  have hx := B.exec
  have hb := B.bytes
  have hr := B.returns
  have hts := atoms_spec (ws := wm_c_add1_K) B.pre
  have hown : s.vm.findClass RJx4a65c = some m.cls := findClass_of_methodNamed B.named
  have hlocks := B.notSynchronized
  have iRJx4a65c : ∀ w ∈ u_ws RJx4a65c TJx4a65c 3, w ∈ wm_c_add1_K := by decide +kernel
  subst hsz
  have hD := hD0.self (sz := s.heap.size)
  generalize hAe : va_A [(h0, .inr (6, [.int 0, .ref (κ 0), .int 0])), (e0, .inr (14, [.int v0, .int v1, .int v2, .int v3, .int v4]))] s.heap.size = A at hD hE ⊢
  have hA : ∀ q : Nat, s.heap.size ≤ q → A q := fun q h => by rw [← hAe]; exact Or.inr h
  have hS : va_S A s.heap s.heap [] := va_S.rf
  have hl := lv_entry ([.ref h0, .ref e0]) (n := 2) (Nat.le_of_ble_eq_true rfl)
  rw [lg_entry_eq]
  generalize (lg_sl ([.ref h0, .ref e0]) ++ List.replicate (2 - (lg_sl ([.ref h0, .ref e0])).length) Slot.unset).toArray = ls at hl ⊢
  have hl : lv_has ls 2 [(0, .ref h0), (1, .ref e0)] := hl
  refine lv_aload_n hx hb dJx4a65c_add_9ea2d_0 rfl (lv_at hl 0 rfl) ?_
  refine lv_dup hx hb dJx4a65c_add_9ea2d_1 rfl ?_
  refine va_get (D := D) (ci := 6) (v := .int 0) (C := RJx4a65c) (T := TJx4a65c) (N := 3) hx hb hts iRJx4a65c hown hK hP 0 rfl rfl 0 (by decide) (hts (.fieldLink RJx4a65c 63 "java/util/ArrayList" "modCount" "I") (by decide +kernel)) (fun x9 h9 => u_same (hts (.sameField "java/util/ArrayList" "java/util/AbstractList" "modCount" "I") (by decide +kernel)) x9 h9) rfl dJx4a65c_add_9ea2d_2 ?_
  refine lv_iconst (v := 1) hx hb dJx4a65c_add_9ea2d_5 (by decide) ?_
  refine lv_iadd hx hb dJx4a65c_add_9ea2d_6 ?_
  refine lv_topi (fun v_1 ev_1 => ?_)
  have ev_1 : v_1 = 1 := ev_1.trans (by decide)
  subst ev_1
  refine va_put (D := D) (ci := 6) (v := .int 1) (ty := .int) (C := RJx4a65c) (T := TJx4a65c) (N := 3) hx hb hts iRJx4a65c tyJx4a65c tyJx4a65c_ok nmJx4a65c hown hK hP hD hS 0 rfl rfl 0 (by decide) (hts (.fieldLink RJx4a65c 63 "java/util/ArrayList" "modCount" "I") (by decide +kernel)) (fun x9 h9 => u_same (hts (.sameField "java/util/ArrayList" "java/util/AbstractList" "modCount" "I") (by decide +kernel)) x9 h9) rfl (by decide +kernel) rfl rfl (Nat.le_of_ble_eq_true rfl) dJx4a65c_add_9ea2d_7 (fun H locs hP hD hS => ?_)
  have hP : va_P D vwCl ([(h0, .inr (6, [.int 1, .ref (κ 0), .int 0])), (e0, .inr (14, [.int v0, .int v1, .int v2, .int v3, .int v4]))]) H := hP
  have hD : va_D A ([(h0, .inr (6, [.int 1, .ref (κ 0), .int 0])), (e0, .inr (14, [.int v0, .int v1, .int v2, .int v3, .int v4]))]) := hD
  refine lv_aload_n hx hb dJx4a65c_add_9ea2d_10 rfl (lv_at hl 0 rfl) ?_
  refine lv_aload_n hx hb dJx4a65c_add_9ea2d_11 rfl (lv_at hl 1 rfl) ?_
  refine lv_aload_n hx hb dJx4a65c_add_9ea2d_12 rfl (lv_at hl 0 rfl) ?_
  refine va_get (D := D) (ci := 6) (v := .ref (κ 0)) (C := RJx4a65c) (T := TJx4a65c) (N := 3) hx hb hts iRJx4a65c hown hK hP 0 rfl rfl 1 (by decide) (hts (.fieldLink RJx4a65c 9 "java/util/ArrayList" "elementData" "[Ljava/lang/Object;") (by decide +kernel)) (fun _ h9 => h9) rfl dJx4a65c_add_9ea2d_13 ?_
  refine lv_aload_n hx hb dJx4a65c_add_9ea2d_16 rfl (lv_at hl 0 rfl) ?_
  refine va_get (D := D) (ci := 6) (v := .int 0) (C := RJx4a65c) (T := TJx4a65c) (N := 3) hx hb hts iRJx4a65c hown hK hP 0 rfl rfl 2 (by decide) (hts (.fieldLink RJx4a65c 48 "java/util/ArrayList" "size" "I") (by decide +kernel)) (fun _ h9 => h9) rfl dJx4a65c_add_9ea2d_17 ?_
  have hS0 := hS
  have hFc := va_free (wc := [(h0, .inr (6, [.int 1, .ref (κ 0), .int 0])), (e0, .inr (14, [.int v0, .int v1, .int v2, .int v3, .int v4]))]) hD hS hA [0, 1] rfl
  refine va_callv (va_runV (As := [.ref e0, .ref (κ 0), .int 0]) (rest := []) ⟨hx, hb, hml, hown, hts⟩ (c_add3_K l κ D (H).size (h0) (1) (e0) (v0) (v1) (v2) (v3) (v4) ) (cwV 3 hts gd_c_add1_K_20 rfl rfl rfl (by decide +kernel) ⟨(Nat.le_of_ble_eq_true rfl), (Nat.le_of_ble_eq_true rfl)⟩) (preV hE hK hP hD hS hA [0, 1] rfl (by decide) [] rfl (va_recv hK hP (ci := 6) (q0 := 0) rfl rfl)) rfl rfl hl.1 rfl (lv_room (Nat.le_of_ble_eq_true rfl)) dJx4a65c_add_9ea2d_20 ⟨(Nat.le_of_ble_eq_true rfl), (Nat.le_of_ble_eq_true rfl)⟩) hS (fun q _ h => hFc q h) hFc (fun u t H1 locs ht hvm hw hB hz1 hk1 hS => ?_)
  obtain ⟨ra_3, hB⟩ := hB
  try dsimp only at hw
  obtain ⟨hP, hD, hK⟩ := jn (wc := [(h0, .inr (6, [.int 1, .ref (κ 0), .int 0])), (e0, .inr (14, [.int v0, .int v1, .int v2, .int v3, .int v4]))]) (wr := []) (w1 := [(h0, .inr (6, [.int 1, .ref ra_3, .int 1]))]) (t1 := []) hP hD hK hS0 hA [0, 1] [] rfl rfl (by decide) (by decide) ht hvm hk1 hB
  generalize H1 = H at hP hS ⊢
  have hP : va_P D vwCl ([(h0, .inr (6, [.int 1, .ref ra_3, .int 1]))]) H := hP
  have hD : va_D A ([(h0, .inr (6, [.int 1, .ref ra_3, .int 1]))]) := hD
  have hK : va_K D vwCl [] s := hK
  refine W.widen (k := 1) (n := 10) (Nat.le_of_ble_eq_true rfl) (Nat.le_of_ble_eq_true rfl) ?_
  refine lv_iconst (v := 1) hx hb dJx4a65c_add_9ea2d_23 (by decide) ?_
  refine W.widen (k := 1) (n := 10) (Nat.le_of_ble_eq_true rfl) (Nat.le_of_ble_eq_true rfl) ?_
  exact W.zret (v := 1) hx hb hr (by decide) (fun t ht hW => ⟨⟨1, (), rfl, rfl, ra_3, PB.at hP hK hD hW.alike ht [0] rfl (by decide) [] rfl⟩, hS.F ht⟩) hS.2.2 dJx4a65c_add_9ea2d_24

def wm_c_add3_I : List Cond := .code yJx4a65c_add_72be8 cJx4a65c_add_72be8 4 none :: ([.code yJx4a65c_grow_d5877 cJx4a65c_grow_d5877 1 (some (.array (.object "java/lang/Object"))), .fieldLink RJx4a65c 48 "java/util/ArrayList" "size" "I", .code yJx4a65c_grow_92f84 cJx4a65c_grow_92f84 4 (some (.array (.object "java/lang/Object"))), .fieldLink RJx4a65c 9 "java/util/ArrayList" "elementData" "[Ljava/lang/Object;", .fieldLink RJx4a65c 39 "java/util/ArrayList" "DEFAULTCAPACITY_EMPTY_ELEMENTDATA" "[Ljava/lang/Object;", .methodLink RJx4a65c 79 Lib.Math.max.name, .static Lib.Math.max.name, .initialized "java/lang/Math", .code Lib.Math.max.name Lib.Math.max.code 2 (some .int), .classLink RJx4a65c 7 "java/lang/Object", .methodLink RJx4a65c 69 yJx4a65c_grow_92f84, .instanceMethod yJx4a65c_grow_92f84, .selects RJx4a65c yJx4a65c_grow_92f84 yJx4a65c_grow_92f84, .initialized RJx4a65c, .methodLink RJx4a65c 129 yJx4a65c_grow_d5877, .instanceMethod yJx4a65c_grow_d5877, .selects RJx4a65c yJx4a65c_grow_d5877 yJx4a65c_grow_d5877] ++ wsJx4a65c0)
set_option maxRecDepth 20000 in
theorem gd_c_add3_I_7 : GoodIn wm_c_add3_I (wsV RJx4a65c 129 RJx4a65c yJx4a65c_grow_d5877 wm_c_grow0) := goodIn_of _ (by decide +kernel)
set_option maxHeartbeats 4000000 in
set_option maxRecDepth 100000 in
theorem c_add3_I (l : Launch) (κ : Nat → Nat) (D : va_G) (sz : Nat) (h0 : Nat) (mk : Int32) (jj : Nat) (hj : jj < 256) : Met l yJx4a65c_add_72be8 wm_c_add3_I ({ frames := 10, cells := 1, slots := 10, locals := 320 }) (va_Pc [.ref h0, .ref (κ (10 + jj)), .ref (κ 0), .int 0] (PC κ D [] [(h0, .inr (6, [.int mk, .ref (κ 0), .int 0]))] sz)) (va_Qv (fun _ : Unit => True) (fun _ t => ∃ (ra : Nat), PB D [] [(h0, .inr (6, [.int mk, .ref ra, .int 1]))] (va_A [(h0, .inr (6, [.int mk, .ref (κ 0), .int 0]))] sz) t) (va_A [(h0, .inr (6, [.int mk, .ref (κ 0), .int 0]))] sz)) 1 10 (va_A [(h0, .inr (6, [.int mk, .ref (κ 0), .int 0]))] sz) := by
  refine Met.ofW (cc := cJx4a65c_add_72be8) (maxL := 4) (ret := none) (by decide +kernel) rfl ?_
  intro p e s m args below meth c s₁ B hml hv
  obtain ⟨rfl, hsz, hP, hK, hD0, hE⟩ := hv
  have hx := B.exec
  have hb := B.bytes
  have hr := B.returns
  have hts := atoms_spec (ws := wm_c_add3_I) B.pre
  have hown : s.vm.findClass RJx4a65c = some m.cls := findClass_of_methodNamed B.named
  have hlocks := B.notSynchronized
  have iRJx4a65c : ∀ w ∈ u_ws RJx4a65c TJx4a65c 3, w ∈ wm_c_add3_I := by decide +kernel
  subst hsz
  have hD := hD0.self (sz := s.heap.size)
  generalize hAe : va_A [(h0, .inr (6, [.int mk, .ref (κ 0), .int 0]))] s.heap.size = A at hD hE ⊢
  have hA : ∀ q : Nat, s.heap.size ≤ q → A q := fun q h => by rw [← hAe]; exact Or.inr h
  have hS : va_S A s.heap s.heap [] := va_S.rf
  have hl := lv_entry ([.ref h0, .ref (κ (10 + jj)), .ref (κ 0), .int 0]) (n := 4) (Nat.le_of_ble_eq_true rfl)
  rw [lg_entry_eq]
  generalize (lg_sl ([.ref h0, .ref (κ (10 + jj)), .ref (κ 0), .int 0]) ++ List.replicate (4 - (lg_sl ([.ref h0, .ref (κ (10 + jj)), .ref (κ 0), .int 0])).length) Slot.unset).toArray = ls at hl ⊢
  have hl : lv_has ls 4 [(0, .ref h0), (1, .ref (κ (10 + jj))), (2, .ref (κ 0)), (3, .int 0)] := hl
  refine lv_iload_n hx hb dJx4a65c_add_72be8_0 rfl (lv_at hl 3 rfl) ?_
  refine lv_aload_n hx hb dJx4a65c_add_72be8_1 rfl (lv_at hl 2 rfl) ?_
  refine va_tlen (v := 0) hx hb hE.dt hS (by decide) dJx4a65c_add_72be8_2 ?_
  refine lv_icmp_ne (tgt := 11) hx hb dJx4a65c_add_72be8_3 (by decide) (fun c_3 => absurd c_3 (by decide)) (fun _ => ?_)
  refine lv_aload_n hx hb dJx4a65c_add_72be8_6 rfl (lv_at hl 0 rfl) ?_
  have hS0 := hS
  have hFc := va_free (wc := [(h0, .inr (6, [.int mk, .ref (κ 0), .int 0]))]) hD hS hA [0] rfl
  refine va_callr (va_runV (As := []) (rest := []) ⟨hx, hb, hml, hown, hts⟩ (c_grow0 l κ D (s.heap).size (h0) (mk) ) (cwV 0 hts gd_c_add3_I_7 rfl rfl rfl (by decide +kernel) ⟨(Nat.le_of_ble_eq_true rfl), (Nat.le_of_ble_eq_true rfl)⟩) (preV hE hK hP hD hS hA [0] rfl (by decide) [] rfl (va_recv hK hP (ci := 6) (q0 := 0) rfl rfl)) rfl rfl hl.1 rfl (lv_room (Nat.le_of_ble_eq_true rfl)) dJx4a65c_add_72be8_7 ⟨(Nat.le_of_ble_eq_true rfl), (Nat.le_of_ble_eq_true rfl)⟩) hS (fun q _ h => hFc q h) hFc (fun u r_1 t H1 locs ht hvm hw hB hz1 hk1 hS => ?_)
  obtain ⟨cA9_2, hB⟩ := hB
  try dsimp only at hw
  obtain ⟨hP, hD, hK⟩ := jn (wc := [(h0, .inr (6, [.int mk, .ref (κ 0), .int 0]))]) (wr := []) (w1 := [(h0, .inr (6, [.int mk, .ref r_1, .int 0])), (r_1, .inl (cA9_2, 10, .inr (.inr (.inr (.inr (fun _ => none))))))]) (t1 := [(cA9_2, .object "java/lang/Object")]) hP hD hK hS0 hA [0] [] rfl rfl (by decide) (by decide) ht hvm hk1 hB
  generalize H1 = H at hP hS ⊢
  have hP : va_P D vwCl ([(h0, .inr (6, [.int mk, .ref r_1, .int 0])), (r_1, .inl (cA9_2, 10, .inr (.inr (.inr (.inr (fun _ => none))))))]) H := hP
  have hD : va_D A ([(h0, .inr (6, [.int mk, .ref r_1, .int 0])), (r_1, .inl (cA9_2, 10, .inr (.inr (.inr (.inr (fun _ => none))))))]) := hD
  have hK : va_K D vwCl [(cA9_2, .object "java/lang/Object")] s := hK
  refine W.widen (k := 1) (n := 10) (Nat.le_of_ble_eq_true rfl) (Nat.le_of_ble_eq_true rfl) ?_
  refine lv_astore_n (lv' := [(2, .ref r_1), (0, .ref h0), (1, .ref (κ (10 + jj))), (3, .int 0)]) hx hb dJx4a65c_add_72be8_10 rfl hl (by decide) rfl (fun ls hl => ?_)
  refine lv_aload_n hx hb dJx4a65c_add_72be8_11 rfl (lv_at hl 0 rfl) ?_
  refine lv_iload_n hx hb dJx4a65c_add_72be8_12 rfl (lv_at hl 3 rfl) ?_
  refine lv_aload_n hx hb dJx4a65c_add_72be8_13 rfl (lv_at hl 2 rfl) ?_
  refine vb_astq (E := "java/lang/Object") (C := "java/lang/Integer") hx hb hK hP hD hS 1 0 rfl rfl (va_Orecv (hE.io.1 jj hj) hS) (vb_asgC hE.ca7) (by unfold vp_in; decide) dJx4a65c_add_72be8_14 (fun H locs hP hD hS => ?_)
  have hP : va_P D vwCl ([(h0, .inr (6, [.int mk, .ref r_1, .int 0])), (r_1, .inl (cA9_2, 10, .inr (.inr (.inr (.inr (va_up (fun _ => none) 0 (some (κ (10 + jj)))))))))]) H := hP
  have hD : va_D A ([(h0, .inr (6, [.int mk, .ref r_1, .int 0])), (r_1, .inl (cA9_2, 10, .inr (.inr (.inr (.inr (va_up (fun _ => none) 0 (some (κ (10 + jj)))))))))]) := hD
  refine lv_aload_n hx hb dJx4a65c_add_72be8_15 rfl (lv_at hl 1 rfl) ?_
  refine lv_iload_n hx hb dJx4a65c_add_72be8_16 rfl (lv_at hl 3 rfl) ?_
  refine lv_iconst (v := 1) hx hb dJx4a65c_add_72be8_17 (by decide) ?_
  refine lv_iadd hx hb dJx4a65c_add_72be8_18 ?_
  refine lv_topi (fun v_3 ev_3 => ?_)
  have ev_3 : v_3 = 1 := ev_3.trans (by decide)
  subst ev_3
  refine va_put (D := D) (ci := 6) (v := .int 1) (ty := .int) (C := RJx4a65c) (T := TJx4a65c) (N := 3) hx hb hts iRJx4a65c tyJx4a65c tyJx4a65c_ok nmJx4a65c hown hK hP hD hS 0 rfl rfl 2 (by decide) (hts (.fieldLink RJx4a65c 48 "java/util/ArrayList" "size" "I") (by decide +kernel)) (fun _ h9 => h9) rfl (by decide +kernel) rfl rfl (Nat.le_of_ble_eq_true rfl) dJx4a65c_add_72be8_19 (fun H locs hP hD hS => ?_)
  have hP : va_P D vwCl ([(h0, .inr (6, [.int mk, .ref r_1, .int 1])), (r_1, .inl (cA9_2, 10, .inr (.inr (.inr (.inr (va_up (fun _ => none) 0 (some (κ (10 + jj)))))))))]) H := hP
  have hD : va_D A ([(h0, .inr (6, [.int mk, .ref r_1, .int 1])), (r_1, .inl (cA9_2, 10, .inr (.inr (.inr (.inr (va_up (fun _ => none) 0 (some (κ (10 + jj)))))))))]) := hD
  refine W.widen (k := 1) (n := 10) (Nat.le_of_ble_eq_true rfl) (Nat.le_of_ble_eq_true rfl) ?_
  exact W.vret hx hb hr (fun t ht hW => ⟨⟨(), rfl, trivial, r_1, PB.at hP hK hD hW.alike ht [0] rfl (by decide) [] rfl⟩, hS.F ht⟩) hS.2.2 dJx4a65c_add_72be8_22

def wm_c_add1_I : List Cond := .code yJx4a65c_add_9ea2d cJx4a65c_add_9ea2d 2 (some .boolean) :: ([.sameField "java/util/ArrayList" "java/util/AbstractList" "modCount" "I", .fieldLink RJx4a65c 63 "java/util/ArrayList" "modCount" "I", .fieldLink RJx4a65c 9 "java/util/ArrayList" "elementData" "[Ljava/lang/Object;", .fieldLink RJx4a65c 48 "java/util/ArrayList" "size" "I", .code yJx4a65c_add_72be8 cJx4a65c_add_72be8 4 none, .code yJx4a65c_grow_d5877 cJx4a65c_grow_d5877 1 (some (.array (.object "java/lang/Object"))), .code yJx4a65c_grow_92f84 cJx4a65c_grow_92f84 4 (some (.array (.object "java/lang/Object"))), .fieldLink RJx4a65c 39 "java/util/ArrayList" "DEFAULTCAPACITY_EMPTY_ELEMENTDATA" "[Ljava/lang/Object;", .methodLink RJx4a65c 79 Lib.Math.max.name, .static Lib.Math.max.name, .initialized "java/lang/Math", .code Lib.Math.max.name Lib.Math.max.code 2 (some .int), .classLink RJx4a65c 7 "java/lang/Object", .methodLink RJx4a65c 69 yJx4a65c_grow_92f84, .instanceMethod yJx4a65c_grow_92f84, .selects RJx4a65c yJx4a65c_grow_92f84 yJx4a65c_grow_92f84, .initialized RJx4a65c, .methodLink RJx4a65c 129 yJx4a65c_grow_d5877, .instanceMethod yJx4a65c_grow_d5877, .selects RJx4a65c yJx4a65c_grow_d5877 yJx4a65c_grow_d5877, .methodLink RJx4a65c 131 yJx4a65c_add_72be8, .instanceMethod yJx4a65c_add_72be8, .selects RJx4a65c yJx4a65c_add_72be8 yJx4a65c_add_72be8] ++ wsJx4a65c0)
set_option maxRecDepth 20000 in
theorem gd_c_add1_I_20 : GoodIn wm_c_add1_I (wsV RJx4a65c 131 RJx4a65c yJx4a65c_add_72be8 wm_c_add3_I) := goodIn_of _ (by decide +kernel)
set_option maxHeartbeats 4000000 in
set_option maxRecDepth 100000 in
theorem c_add1_I (l : Launch) (κ : Nat → Nat) (D : va_G) (sz : Nat) (h0 : Nat) (jj : Nat) (hj : jj < 256) : Met l yJx4a65c_add_9ea2d wm_c_add1_I ({ frames := 11, cells := 1, slots := 10, locals := 380 }) (va_Pc [.ref h0, .ref (κ (10 + jj))] (PC κ D [] [(h0, .inr (6, [.int 0, .ref (κ 0), .int 0]))] sz)) (va_Qi (fun (r : Int32) (_ : Unit) => r = 1) (fun _ t => ∃ (ra : Nat), PB D [] [(h0, .inr (6, [.int 1, .ref ra, .int 1]))] (va_A [(h0, .inr (6, [.int 0, .ref (κ 0), .int 0]))] sz) t) (va_A [(h0, .inr (6, [.int 0, .ref (κ 0), .int 0]))] sz)) 1 10 (va_A [(h0, .inr (6, [.int 0, .ref (κ 0), .int 0]))] sz) := by
  refine Met.ofW (cc := cJx4a65c_add_9ea2d) (maxL := 2) (ret := (some .boolean)) (by decide +kernel) rfl ?_
  intro p e s m args below meth c s₁ B hml hv
  obtain ⟨rfl, hsz, hP, hK, hD0, hE⟩ := hv
  have hx := B.exec
  have hb := B.bytes
  have hr := B.returns
  have hts := atoms_spec (ws := wm_c_add1_I) B.pre
  have hown : s.vm.findClass RJx4a65c = some m.cls := findClass_of_methodNamed B.named
  have hlocks := B.notSynchronized
  have iRJx4a65c : ∀ w ∈ u_ws RJx4a65c TJx4a65c 3, w ∈ wm_c_add1_I := by decide +kernel
  subst hsz
  have hD := hD0.self (sz := s.heap.size)
  generalize hAe : va_A [(h0, .inr (6, [.int 0, .ref (κ 0), .int 0]))] s.heap.size = A at hD hE ⊢
  have hA : ∀ q : Nat, s.heap.size ≤ q → A q := fun q h => by rw [← hAe]; exact Or.inr h
  have hS : va_S A s.heap s.heap [] := va_S.rf
  have hl := lv_entry ([.ref h0, .ref (κ (10 + jj))]) (n := 2) (Nat.le_of_ble_eq_true rfl)
  rw [lg_entry_eq]
  generalize (lg_sl ([.ref h0, .ref (κ (10 + jj))]) ++ List.replicate (2 - (lg_sl ([.ref h0, .ref (κ (10 + jj))])).length) Slot.unset).toArray = ls at hl ⊢
  have hl : lv_has ls 2 [(0, .ref h0), (1, .ref (κ (10 + jj)))] := hl
  refine lv_aload_n hx hb dJx4a65c_add_9ea2d_0 rfl (lv_at hl 0 rfl) ?_
  refine lv_dup hx hb dJx4a65c_add_9ea2d_1 rfl ?_
  refine va_get (D := D) (ci := 6) (v := .int 0) (C := RJx4a65c) (T := TJx4a65c) (N := 3) hx hb hts iRJx4a65c hown hK hP 0 rfl rfl 0 (by decide) (hts (.fieldLink RJx4a65c 63 "java/util/ArrayList" "modCount" "I") (by decide +kernel)) (fun x9 h9 => u_same (hts (.sameField "java/util/ArrayList" "java/util/AbstractList" "modCount" "I") (by decide +kernel)) x9 h9) rfl dJx4a65c_add_9ea2d_2 ?_
  refine lv_iconst (v := 1) hx hb dJx4a65c_add_9ea2d_5 (by decide) ?_
  refine lv_iadd hx hb dJx4a65c_add_9ea2d_6 ?_
  refine lv_topi (fun v_1 ev_1 => ?_)
  have ev_1 : v_1 = 1 := ev_1.trans (by decide)
  subst ev_1
  refine va_put (D := D) (ci := 6) (v := .int 1) (ty := .int) (C := RJx4a65c) (T := TJx4a65c) (N := 3) hx hb hts iRJx4a65c tyJx4a65c tyJx4a65c_ok nmJx4a65c hown hK hP hD hS 0 rfl rfl 0 (by decide) (hts (.fieldLink RJx4a65c 63 "java/util/ArrayList" "modCount" "I") (by decide +kernel)) (fun x9 h9 => u_same (hts (.sameField "java/util/ArrayList" "java/util/AbstractList" "modCount" "I") (by decide +kernel)) x9 h9) rfl (by decide +kernel) rfl rfl (Nat.le_of_ble_eq_true rfl) dJx4a65c_add_9ea2d_7 (fun H locs hP hD hS => ?_)
  have hP : va_P D vwCl ([(h0, .inr (6, [.int 1, .ref (κ 0), .int 0]))]) H := hP
  have hD : va_D A ([(h0, .inr (6, [.int 1, .ref (κ 0), .int 0]))]) := hD
  refine lv_aload_n hx hb dJx4a65c_add_9ea2d_10 rfl (lv_at hl 0 rfl) ?_
  refine lv_aload_n hx hb dJx4a65c_add_9ea2d_11 rfl (lv_at hl 1 rfl) ?_
  refine lv_aload_n hx hb dJx4a65c_add_9ea2d_12 rfl (lv_at hl 0 rfl) ?_
  refine va_get (D := D) (ci := 6) (v := .ref (κ 0)) (C := RJx4a65c) (T := TJx4a65c) (N := 3) hx hb hts iRJx4a65c hown hK hP 0 rfl rfl 1 (by decide) (hts (.fieldLink RJx4a65c 9 "java/util/ArrayList" "elementData" "[Ljava/lang/Object;") (by decide +kernel)) (fun _ h9 => h9) rfl dJx4a65c_add_9ea2d_13 ?_
  refine lv_aload_n hx hb dJx4a65c_add_9ea2d_16 rfl (lv_at hl 0 rfl) ?_
  refine va_get (D := D) (ci := 6) (v := .int 0) (C := RJx4a65c) (T := TJx4a65c) (N := 3) hx hb hts iRJx4a65c hown hK hP 0 rfl rfl 2 (by decide) (hts (.fieldLink RJx4a65c 48 "java/util/ArrayList" "size" "I") (by decide +kernel)) (fun _ h9 => h9) rfl dJx4a65c_add_9ea2d_17 ?_
  have hS0 := hS
  have hFc := va_free (wc := [(h0, .inr (6, [.int 1, .ref (κ 0), .int 0]))]) hD hS hA [0] rfl
  refine va_callv (va_runV (As := [.ref (κ (10 + jj)), .ref (κ 0), .int 0]) (rest := []) ⟨hx, hb, hml, hown, hts⟩ (c_add3_I l κ D (H).size (h0) (1) (jj) (hj)) (cwV 3 hts gd_c_add1_I_20 rfl rfl rfl (by decide +kernel) ⟨(Nat.le_of_ble_eq_true rfl), (Nat.le_of_ble_eq_true rfl)⟩) (preV hE hK hP hD hS hA [0] rfl (by decide) [] rfl (va_recv hK hP (ci := 6) (q0 := 0) rfl rfl)) rfl rfl hl.1 rfl (lv_room (Nat.le_of_ble_eq_true rfl)) dJx4a65c_add_9ea2d_20 ⟨(Nat.le_of_ble_eq_true rfl), (Nat.le_of_ble_eq_true rfl)⟩) hS (fun q _ h => hFc q h) hFc (fun u t H1 locs ht hvm hw hB hz1 hk1 hS => ?_)
  obtain ⟨ra_3, hB⟩ := hB
  try dsimp only at hw
  obtain ⟨hP, hD, hK⟩ := jn (wc := [(h0, .inr (6, [.int 1, .ref (κ 0), .int 0]))]) (wr := []) (w1 := [(h0, .inr (6, [.int 1, .ref ra_3, .int 1]))]) (t1 := []) hP hD hK hS0 hA [0] [] rfl rfl (by decide) (by decide) ht hvm hk1 hB
  generalize H1 = H at hP hS ⊢
  have hP : va_P D vwCl ([(h0, .inr (6, [.int 1, .ref ra_3, .int 1]))]) H := hP
  have hD : va_D A ([(h0, .inr (6, [.int 1, .ref ra_3, .int 1]))]) := hD
  have hK : va_K D vwCl [] s := hK
  refine W.widen (k := 1) (n := 10) (Nat.le_of_ble_eq_true rfl) (Nat.le_of_ble_eq_true rfl) ?_
  refine lv_iconst (v := 1) hx hb dJx4a65c_add_9ea2d_23 (by decide) ?_
  refine W.widen (k := 1) (n := 10) (Nat.le_of_ble_eq_true rfl) (Nat.le_of_ble_eq_true rfl) ?_
  exact W.zret (v := 1) hx hb hr (by decide) (fun t ht hW => ⟨⟨1, (), rfl, rfl, ra_3, PB.at hP hK hD hW.alike ht [0] rfl (by decide) [] rfl⟩, hS.F ht⟩) hS.2.2 dJx4a65c_add_9ea2d_24

def wm_c_X7_init : List Cond := .code yX7_init cX7_init 1 none :: ([.methodLink RX7 1 objectInit, .instanceMethod objectInit, .code objectInit ⟨#[0xb1]⟩ 1 none])
set_option maxHeartbeats 4000000 in
set_option maxRecDepth 100000 in
theorem c_X7_init (l : Launch) (κ : Nat → Nat) (D : va_G) (sz : Nat) (h0 : Nat)  : Met l yX7_init wm_c_X7_init ({ frames := 8, cells := 0, slots := 0, locals := 200 }) (va_Pc [.ref h0] (PC κ D [] [(h0, .inr (14, [.int 0, .int 0, .int 0, .int 0, .int 0]))] sz)) (va_Qv (fun _ : Unit => True) (fun _ t => PB D [] [(h0, .inr (14, [.int 0, .int 0, .int 0, .int 0, .int 0]))] (va_A [(h0, .inr (14, [.int 0, .int 0, .int 0, .int 0, .int 0]))] sz) t) (va_A [(h0, .inr (14, [.int 0, .int 0, .int 0, .int 0, .int 0]))] sz)) 0 0 (va_A [(h0, .inr (14, [.int 0, .int 0, .int 0, .int 0, .int 0]))] sz) := by
  refine Met.ofW (cc := cX7_init) (maxL := 1) (ret := none) (by decide +kernel) rfl ?_
  intro p e s m args below meth c s₁ B hml hv
  obtain ⟨rfl, hsz, hP, hK, hD0, hE⟩ := hv
  have hx := B.exec
  have hb := B.bytes
  have hr := B.returns
  have hts := atoms_spec (ws := wm_c_X7_init) B.pre
  have hown : s.vm.findClass RX7 = some m.cls := findClass_of_methodNamed B.named
  have hlocks := B.notSynchronized
  have hin : meth.name = "<init>" := (name_of_methodNamed B.named B.method).1
  subst hsz
  have hD := hD0.self (sz := s.heap.size)
  generalize hAe : va_A [(h0, .inr (14, [.int 0, .int 0, .int 0, .int 0, .int 0]))] s.heap.size = A at hD hE ⊢
  have hA : ∀ q : Nat, s.heap.size ≤ q → A q := fun q h => by rw [← hAe]; exact Or.inr h
  have hS : va_S A s.heap s.heap [] := va_S.rf
  have hl := lv_entry ([.ref h0]) (n := 1) (Nat.le_of_ble_eq_true rfl)
  rw [lg_entry_eq]
  generalize (lg_sl ([.ref h0]) ++ List.replicate (1 - (lg_sl ([.ref h0])).length) Slot.unset).toArray = ls at hl ⊢
  have hl : lv_has ls 1 [(0, .ref h0)] := hl
  refine lv_aload_n hx hb dX7_init_0 rfl (lv_at hl 0 rfl) ?_
  refine W.objInit hx hb hown (hts (.methodLink RX7 1 objectInit) (by decide +kernel)) (hts (.instanceMethod objectInit) (by decide +kernel)) (hts (.code objectInit ⟨#[0xb1]⟩ 1 none) (by decide +kernel)) rfl (by rw [hml]; exact hl.1) rfl dX7_init_1 (Nat.le_of_ble_eq_true rfl) (Nat.le_of_ble_eq_true rfl) ?_
  refine W.eq (g2 := F0 m 4 ls []) rfl ?_
  refine W.widen (k := 0) (n := 0) (Nat.le_of_ble_eq_true rfl) (Nat.le_of_ble_eq_true rfl) ?_
  exact W.vret hx hb hr (fun t ht hW => ⟨⟨(), rfl, trivial, PB.at hP hK hD hW.alike ht [0] rfl (by decide) [] rfl⟩, hS.F ht⟩) hS.2.2 dX7_init_4

def wm_c_X9_kind_ok : List Cond := .code yX9_kind cX9_kind 7 (some .int) :: ([.code yX9_begins cX9_begins 1 none, .fieldLink RX9 19 "SowingcourtModel" "thrown" "I", .methodLink RX9 33 yX9_begins, .instanceMethod yX9_begins, .selects RX9 yX9_begins yX9_begins, .initialized RX9, .constantLong RX9 36 (2), .constantLong RX9 38 (5), .code yX9_in cX9_in 6 (some .boolean), .methodLink RX9 29 yX9_in, .static yX9_in, .code yJ0_indexOf_0f7a4 cJ0_indexOf_0f7a4 2 (some .int), .code yJ0_indexOf_7cf53 cJ0_indexOf_7cf53 3 (some .int), .code yJ0_isLatin1_aae02 cJ0_isLatin1_aae02 1 (some .boolean), .fieldLink RJ0 38 "java/lang/String" "COMPACT_STRINGS" "Z", .fieldLink RJ0 15 "java/lang/String" "coder" "B", .methodLink RJ0 492 yJ0_isLatin1_aae02, .instanceMethod yJ0_isLatin1_aae02, .selects RJ0 yJ0_isLatin1_aae02 yJ0_isLatin1_aae02, .initialized RJ0, .fieldLink RJ0 9 "java/lang/String" "value" "[B", .code yJ0_length_8abf5 cJ0_length_8abf5 1 (some .int), .code yJ0_coder_7d493 cJ0_coder_7d493 1 (some .byte), .methodLink RJ0 335 yJ0_coder_7d493, .instanceMethod yJ0_coder_7d493, .selects RJ0 yJ0_coder_7d493 yJ0_coder_7d493, .methodLink RJ0 505 yJ0_length_8abf5, .instanceMethod yJ0_length_8abf5, .selects RJ0 yJ0_length_8abf5 yJ0_length_8abf5, .code yJ1_indexOf_4cfef cJ1_indexOf_4cfef 4 (some .int), .code yJ1_canEncode_9a6ad cJ1_canEncode_9a6ad 1 (some .boolean), .methodLink RJ1 88 yJ1_canEncode_9a6ad, .static yJ1_canEncode_9a6ad, .initialized RJ1, .methodLink RJ1 92 Lib.Math.max.name, .static Lib.Math.max.name, .initialized "java/lang/Math", .code Lib.Math.max.name Lib.Math.max.code 2 (some .int), .methodLink RJ1 38 Lib.Math.min.name, .static Lib.Math.min.name, .code Lib.Math.min.name Lib.Math.min.code 2 (some .int), .code yJ1_indexOfChar_4cfef cJ1_indexOfChar_4cfef 6 (some .int), .methodLink RJ1 95 yJ1_indexOfChar_4cfef, .static yJ1_indexOfChar_4cfef, .methodLink RJ0 637 yJ1_indexOf_4cfef, .static yJ1_indexOf_4cfef, .methodLink RJ0 633 yJ0_indexOf_7cf53, .instanceMethod yJ0_indexOf_7cf53, .selects RJ0 yJ0_indexOf_7cf53 yJ0_indexOf_7cf53, .methodLink RX9 42 yJ0_indexOf_0f7a4, .instanceMethod yJ0_indexOf_0f7a4, .selects RJ0 yJ0_indexOf_0f7a4 yJ0_indexOf_0f7a4, .code yX9_fails cX9_fails 3 (some .boolean), .methodLink RX9 50 yX9_fails, .instanceMethod yX9_fails, .selects RX9 yX9_fails yX9_fails, .fieldLink RX9 10 "SowingcourtModel" "kinds" "Ljava/util/List;", .code yJx4a65c_size_8abf5 cJx4a65c_size_8abf5 1 (some .int), .fieldLink RJx4a65c 48 "java/util/ArrayList" "size" "I", .methodLink RX9 23 ⟨"java/util/List", "size", "()I"⟩, .selects RJx4a65c ⟨"java/util/List", "size", "()I"⟩ yJx4a65c_size_8abf5, .instanceMethod yJx4a65c_size_8abf5, .initialized RJx4a65c, .classLink RX9 54 RX7, .instantiable RX7 5, .initialized RX7, .code yX7_init cX7_init 1 none, .methodLink RX7 1 objectInit, .instanceMethod objectInit, .code objectInit ⟨#[0xb1]⟩ 1 none, .instanceMethod yX7_init, .code yJx4a65c_add_9ea2d cJx4a65c_add_9ea2d 2 (some .boolean), .sameField "java/util/ArrayList" "java/util/AbstractList" "modCount" "I", .fieldLink RJx4a65c 63 "java/util/ArrayList" "modCount" "I", .fieldLink RJx4a65c 9 "java/util/ArrayList" "elementData" "[Ljava/lang/Object;", .code yJx4a65c_add_72be8 cJx4a65c_add_72be8 4 none, .code yJx4a65c_grow_d5877 cJx4a65c_grow_d5877 1 (some (.array (.object "java/lang/Object"))), .code yJx4a65c_grow_92f84 cJx4a65c_grow_92f84 4 (some (.array (.object "java/lang/Object"))), .fieldLink RJx4a65c 39 "java/util/ArrayList" "DEFAULTCAPACITY_EMPTY_ELEMENTDATA" "[Ljava/lang/Object;", .methodLink RJx4a65c 79 Lib.Math.max.name, .classLink RJx4a65c 7 "java/lang/Object", .methodLink RJx4a65c 69 yJx4a65c_grow_92f84, .instanceMethod yJx4a65c_grow_92f84, .selects RJx4a65c yJx4a65c_grow_92f84 yJx4a65c_grow_92f84, .methodLink RJx4a65c 129 yJx4a65c_grow_d5877, .instanceMethod yJx4a65c_grow_d5877, .selects RJx4a65c yJx4a65c_grow_d5877 yJx4a65c_grow_d5877, .methodLink RJx4a65c 131 yJx4a65c_add_72be8, .instanceMethod yJx4a65c_add_72be8, .selects RJx4a65c yJx4a65c_add_72be8 yJx4a65c_add_72be8, .methodLink RX9 70 ⟨"java/util/List", "add", "(Ljava/lang/Object;)Z"⟩, .selects RJx4a65c ⟨"java/util/List", "add", "(Ljava/lang/Object;)Z"⟩ yJx4a65c_add_9ea2d, .instanceMethod yJx4a65c_add_9ea2d] ++ wsX90 ++ wsJx4a65c0 ++ wsX70)
set_option maxRecDepth 20000 in
theorem gd_c_X9_kind_ok_1 : GoodIn wm_c_X9_kind_ok (wsV RX9 33 RX9 yX9_begins wm_c_X9_begins) := goodIn_of _ (by decide +kernel)
set_option maxRecDepth 20000 in
theorem gd_c_X9_kind_ok_12 : GoodIn wm_c_X9_kind_ok (va_wsS RX9 29 yX9_in wm_c_X9_in) := goodIn_of _ (by decide +kernel)
set_option maxRecDepth 20000 in
theorem gd_c_X9_kind_ok_24 : GoodIn wm_c_X9_kind_ok (va_wsS RX9 29 yX9_in wm_c_X9_in) := goodIn_of _ (by decide +kernel)
set_option maxRecDepth 20000 in
theorem gd_c_X9_kind_ok_33 : GoodIn wm_c_X9_kind_ok (wsV RX9 42 RJ0 yJ0_indexOf_0f7a4 wm_c_ix_0) := goodIn_of _ (by decide +kernel)
set_option maxRecDepth 20000 in
theorem gd_c_X9_kind_ok_43 : GoodIn wm_c_X9_kind_ok (wsV RX9 42 RJ0 yJ0_indexOf_0f7a4 wm_c_ix_1) := goodIn_of _ (by decide +kernel)
set_option maxRecDepth 20000 in
theorem gd_c_X9_kind_ok_60 : GoodIn wm_c_X9_kind_ok (wsV RX9 50 RX9 yX9_fails wm_c_X9_fails_n) := goodIn_of _ (by decide +kernel)
set_option maxRecDepth 20000 in
theorem gd_c_X9_kind_ok_71 : GoodIn wm_c_X9_kind_ok (va_wsF RX9 23 RJx4a65c ⟨"java/util/List", "size", "()I"⟩ yJx4a65c_size_8abf5 wm_c_JAL_size) := goodIn_of _ (by decide +kernel)
set_option maxRecDepth 20000 in
theorem gd_c_X9_kind_ok_87 : GoodIn wm_c_X9_kind_ok (wsV RX9 50 RX9 yX9_fails wm_c_X9_fails_n) := goodIn_of _ (by decide +kernel)
set_option maxRecDepth 20000 in
theorem gd_c_X9_kind_ok_99 : GoodIn wm_c_X9_kind_ok wm_c_X7_init := goodIn_of _ (by decide +kernel)
set_option maxRecDepth 20000 in
theorem gd_c_X9_kind_ok_135 : GoodIn wm_c_X9_kind_ok (va_wsF RX9 70 RJx4a65c ⟨"java/util/List", "add", "(Ljava/lang/Object;)Z"⟩ yJx4a65c_add_9ea2d wm_c_add1_K) := goodIn_of _ (by decide +kernel)
set_option maxRecDepth 20000 in
theorem gd_c_X9_kind_ok_145 : GoodIn wm_c_X9_kind_ok (va_wsF RX9 23 RJx4a65c ⟨"java/util/List", "size", "()I"⟩ yJx4a65c_size_8abf5 wm_c_JAL_size) := goodIn_of _ (by decide +kernel)
set_option maxHeartbeats 4000000 in
set_option maxRecDepth 100000 in
theorem c_X9_kind_ok (l : Launch) (κ : Nat → Nat) (D : va_G) (sz : Nat) (m0 : Nat) (kl : Nat) (tl : Nat) (p0 : Int32) (p1 : Int32) (p2 : Int32) (p3 : Int32) (hA0 : (2 : Int64).toInt ≤ (p0.toInt64).toInt ∧ (p0.toInt64).toInt ≤ (5 : Int64).toInt) (hB0 : (1 : Int64).toInt ≤ (p1.toInt64).toInt ∧ (p1.toInt64).toInt ≤ (5 : Int64).toInt) (hL0 : p2 = 115 ∨ p2 = 114 ∨ p2 = 112) (hC0 : p3 = 110 ∨ p3 = 111 ∨ p3 = 99 ∨ p3 = 101) (n2 : narrow .char (.int p2) = .int p2) (f2 : fits .char (.int p2) = true) (n3 : narrow .char (.int p3) = .int p3) (f3 : fits .char (.int p3) = true) : Met l yX9_kind wm_c_X9_kind_ok ({ frames := 12, cells := 2, slots := 15, locals := 440 }) (va_Pc [.ref m0, .int p0, .int p1, .int p2, .int p3] (PC κ D [] [(m0, .inr (16, [.int 0, .ref kl, .null, .ref tl])), (kl, .inr (6, [.int 0, .ref (κ 0), .int 0]))] sz)) (va_Qi (fun (r : Int32) (_ : Unit) => r = 0) (fun _ t => PB D [] [(m0, .inr (16, [.int 0, .ref kl, .null, .ref tl]))] (va_A [(m0, .inr (16, [.int 0, .ref kl, .null, .ref tl])), (kl, .inr (6, [.int 0, .ref (κ 0), .int 0]))] sz) t) (va_A [(m0, .inr (16, [.int 0, .ref kl, .null, .ref tl])), (kl, .inr (6, [.int 0, .ref (κ 0), .int 0]))] sz)) 2 15 (va_A [(m0, .inr (16, [.int 0, .ref kl, .null, .ref tl])), (kl, .inr (6, [.int 0, .ref (κ 0), .int 0]))] sz) := by
  refine Met.ofW (cc := cX9_kind) (maxL := 7) (ret := (some .int)) (by decide +kernel) rfl ?_
  intro p e s m args below meth c s₁ B hml hv
  obtain ⟨rfl, hsz, hP, hK, hD0, hE⟩ := hv
  have hx := B.exec
  have hb := B.bytes
  have hr := B.returns
  have hts := atoms_spec (ws := wm_c_X9_kind_ok) B.pre
  have hown : s.vm.findClass RX9 = some m.cls := findClass_of_methodNamed B.named
  have hlocks := B.notSynchronized
  have iRX9 : ∀ w ∈ u_ws RX9 TX9 4, w ∈ wm_c_X9_kind_ok := by decide +kernel
  have iRJx4a65c : ∀ w ∈ u_ws RJx4a65c TJx4a65c 3, w ∈ wm_c_X9_kind_ok := by decide +kernel
  have iRX7 : ∀ w ∈ u_ws RX7 TX7 5, w ∈ wm_c_X9_kind_ok := by decide +kernel
  subst hsz
  have hD := hD0.self (sz := s.heap.size)
  generalize hAe : va_A [(m0, .inr (16, [.int 0, .ref kl, .null, .ref tl])), (kl, .inr (6, [.int 0, .ref (κ 0), .int 0]))] s.heap.size = A at hD hE ⊢
  have hA : ∀ q : Nat, s.heap.size ≤ q → A q := fun q h => by rw [← hAe]; exact Or.inr h
  have hS : va_S A s.heap s.heap [] := va_S.rf
  have hl := lv_entry ([.ref m0, .int p0, .int p1, .int p2, .int p3]) (n := 7) (Nat.le_of_ble_eq_true rfl)
  rw [lg_entry_eq]
  generalize (lg_sl ([.ref m0, .int p0, .int p1, .int p2, .int p3]) ++ List.replicate (7 - (lg_sl ([.ref m0, .int p0, .int p1, .int p2, .int p3])).length) Slot.unset).toArray = ls at hl ⊢
  have hl : lv_has ls 7 [(0, .ref m0), (1, .int p0), (2, .int p1), (3, .int p2), (4, .int p3)] := hl
  refine lv_aload_n hx hb dX9_kind_0 rfl (lv_at hl 0 rfl) ?_
  have hS0 := hS
  have hFc := va_free (wc := [(m0, .inr (16, [.int 0, .ref kl, .null, .ref tl]))]) hD hS hA [0] rfl
  refine va_callv (va_runV (As := []) (rest := []) ⟨hx, hb, hml, hown, hts⟩ (c_X9_begins l κ D (s.heap).size (m0) (kl) (tl) (0) ) (cwV 0 hts gd_c_X9_kind_ok_1 rfl rfl rfl (by decide +kernel) ⟨(Nat.le_of_ble_eq_true rfl), (Nat.le_of_ble_eq_true rfl)⟩) (preV hE hK hP hD hS hA [0] rfl (by decide) [] rfl (va_recv hK hP (ci := 16) (q0 := 0) rfl rfl)) rfl rfl hl.1 rfl (lv_room (Nat.le_of_ble_eq_true rfl)) dX9_kind_1 ⟨(Nat.le_of_ble_eq_true rfl), (Nat.le_of_ble_eq_true rfl)⟩) hS (fun q _ h => hFc q h) hFc (fun u t H1 locs ht hvm hw hB hz1 hk1 hS => ?_)
  try dsimp only at hw
  obtain ⟨hP, hD, hK⟩ := jn (wc := [(m0, .inr (16, [.int 0, .ref kl, .null, .ref tl]))]) (wr := [(kl, .inr (6, [.int 0, .ref (κ 0), .int 0]))]) (w1 := [(m0, .inr (16, [.int 0, .ref kl, .null, .ref tl]))]) (t1 := []) hP hD hK hS0 hA [0] [1] rfl rfl (by decide) (by decide) ht hvm hk1 hB
  generalize H1 = H at hP hS ⊢
  have hP : va_P D vwCl ([(kl, .inr (6, [.int 0, .ref (κ 0), .int 0])), (m0, .inr (16, [.int 0, .ref kl, .null, .ref tl]))]) H := hP
  have hD : va_D A ([(kl, .inr (6, [.int 0, .ref (κ 0), .int 0])), (m0, .inr (16, [.int 0, .ref kl, .null, .ref tl]))]) := hD
  have hK : va_K D vwCl [] s := hK
  refine W.widen (k := 0) (n := 0) (Nat.le_of_ble_eq_true rfl) (Nat.le_of_ble_eq_true rfl) ?_
  refine lv_iload_n hx hb dX9_kind_4 rfl (lv_at hl 1 rfl) ?_
  refine lv_i2l (v := (p0).toInt64) hx hb dX9_kind_5 rfl ?_
  refine lv_ldc2 (v := 2) hx hb hown (hts (.constantLong RX9 36 (2)) (by decide +kernel)) dX9_kind_6 ?_
  refine lv_ldc2 (v := 5) hx hb hown (hts (.constantLong RX9 38 (5)) (by decide +kernel)) dX9_kind_9 ?_
  have hS0 := hS
  have hFc := va_free (wc := []) hD hS hA [] rfl
  refine va_calli (va_runS (As := [.long ((p0).toInt64), .long 2, .long 5]) (rest := []) ⟨hx, hb, hml, hown, hts⟩ (c_X9_in l κ D (H).size (((p0).toInt64)) (2) (5) ) (va_cwS 3 hts gd_c_X9_kind_ok_12 rfl rfl rfl (by decide +kernel) ⟨(Nat.le_of_ble_eq_true rfl), (Nat.le_of_ble_eq_true rfl)⟩) (preS hE hK hP hD hS hA [] rfl (by decide) [] rfl) rfl rfl hl.1 rfl (lv_room (Nat.le_of_ble_eq_true rfl)) dX9_kind_12 ⟨(Nat.le_of_ble_eq_true rfl), (Nat.le_of_ble_eq_true rfl)⟩) hS (fun q _ h => hFc q h) hFc (fun r_2 u t H1 locs ht hvm hw hB hz1 hk1 hS => ?_)
  try dsimp only at hw
  obtain ⟨hP, hD, hK⟩ := jn (wc := []) (wr := [(kl, .inr (6, [.int 0, .ref (κ 0), .int 0])), (m0, .inr (16, [.int 0, .ref kl, .null, .ref tl]))]) (w1 := []) (t1 := []) hP hD hK hS0 hA [] [0, 1] rfl rfl (by decide) (by decide) ht hvm hk1 hB
  generalize H1 = H at hP hS ⊢
  have hP : va_P D vwCl ([(kl, .inr (6, [.int 0, .ref (κ 0), .int 0])), (m0, .inr (16, [.int 0, .ref kl, .null, .ref tl]))]) H := hP
  have hD : va_D A ([(kl, .inr (6, [.int 0, .ref (κ 0), .int 0])), (m0, .inr (16, [.int 0, .ref kl, .null, .ref tl]))]) := hD
  have hK : va_K D vwCl [] s := hK
  refine W.widen (k := 0) (n := 0) (Nat.le_of_ble_eq_true rfl) (Nat.le_of_ble_eq_true rfl) ?_
  have hw : r_2 = 1 := hw.trans (if_pos hA0)
  subst hw
  refine lv_if_eq (tgt := 49) hx hb dX9_kind_15 (by decide) (fun c_15 => absurd c_15 (by decide)) (fun _ => ?_)
  refine lv_iload_n hx hb dX9_kind_18 rfl (lv_at hl 2 rfl) ?_
  refine lv_i2l (v := (p1).toInt64) hx hb dX9_kind_19 rfl ?_
  refine lv_lconst (v := 1) hx hb dX9_kind_20 (by decide) ?_
  refine lv_ldc2 (v := 5) hx hb hown (hts (.constantLong RX9 38 (5)) (by decide +kernel)) dX9_kind_21 ?_
  have hS0 := hS
  have hFc := va_free (wc := []) hD hS hA [] rfl
  refine va_calli (va_runS (As := [.long ((p1).toInt64), .long 1, .long 5]) (rest := []) ⟨hx, hb, hml, hown, hts⟩ (c_X9_in l κ D (H).size (((p1).toInt64)) (1) (5) ) (va_cwS 3 hts gd_c_X9_kind_ok_24 rfl rfl rfl (by decide +kernel) ⟨(Nat.le_of_ble_eq_true rfl), (Nat.le_of_ble_eq_true rfl)⟩) (preS hE hK hP hD hS hA [] rfl (by decide) [] rfl) rfl rfl hl.1 rfl (lv_room (Nat.le_of_ble_eq_true rfl)) dX9_kind_24 ⟨(Nat.le_of_ble_eq_true rfl), (Nat.le_of_ble_eq_true rfl)⟩) hS (fun q _ h => hFc q h) hFc (fun r_3 u t H1 locs ht hvm hw hB hz1 hk1 hS => ?_)
  try dsimp only at hw
  obtain ⟨hP, hD, hK⟩ := jn (wc := []) (wr := [(kl, .inr (6, [.int 0, .ref (κ 0), .int 0])), (m0, .inr (16, [.int 0, .ref kl, .null, .ref tl]))]) (w1 := []) (t1 := []) hP hD hK hS0 hA [] [0, 1] rfl rfl (by decide) (by decide) ht hvm hk1 hB
  generalize H1 = H at hP hS ⊢
  have hP : va_P D vwCl ([(kl, .inr (6, [.int 0, .ref (κ 0), .int 0])), (m0, .inr (16, [.int 0, .ref kl, .null, .ref tl]))]) H := hP
  have hD : va_D A ([(kl, .inr (6, [.int 0, .ref (κ 0), .int 0])), (m0, .inr (16, [.int 0, .ref kl, .null, .ref tl]))]) := hD
  have hK : va_K D vwCl [] s := hK
  refine W.widen (k := 0) (n := 0) (Nat.le_of_ble_eq_true rfl) (Nat.le_of_ble_eq_true rfl) ?_
  have hw : r_3 = 1 := hw.trans (if_pos hB0)
  subst hw
  refine lv_if_eq (tgt := 49) hx hb dX9_kind_27 (by decide) (fun c_27 => absurd c_27 (by decide)) (fun _ => ?_)
  refine va_ldcS hx hb hown hE.srp dX9_kind_30 ?_
  refine lv_iload_n hx hb dX9_kind_32 rfl (lv_at hl 3 rfl) ?_
  have hS0 := hS
  have hFc := va_free (wc := []) hD hS hA [] rfl
  refine va_calli (va_runV (As := [.int p2]) (rest := []) ⟨hx, hb, hml, hown, hts⟩ (c_ix_0 l κ D (H).size (p2) ) (cwV 1 hts gd_c_X9_kind_ok_33 rfl rfl rfl (by decide +kernel) ⟨(Nat.le_of_ble_eq_true rfl), (Nat.le_of_ble_eq_true rfl)⟩) (preV hE hK hP hD hS hA [] rfl (by decide) [] rfl (vk_recv hE.ss (i := 0) (by decide) hS)) rfl rfl hl.1 rfl (lv_room (Nat.le_of_ble_eq_true rfl)) dX9_kind_33 ⟨(Nat.le_of_ble_eq_true rfl), (Nat.le_of_ble_eq_true rfl)⟩) hS (fun q _ h => hFc q h) hFc (fun r_4 u t H1 locs ht hvm hw hB hz1 hk1 hS => ?_)
  try dsimp only at hw
  obtain ⟨hP, hD, hK⟩ := jn (wc := []) (wr := [(kl, .inr (6, [.int 0, .ref (κ 0), .int 0])), (m0, .inr (16, [.int 0, .ref kl, .null, .ref tl]))]) (w1 := []) (t1 := []) hP hD hK hS0 hA [] [0, 1] rfl rfl (by decide) (by decide) ht hvm hk1 hB
  generalize H1 = H at hP hS ⊢
  have hP : va_P D vwCl ([(kl, .inr (6, [.int 0, .ref (κ 0), .int 0])), (m0, .inr (16, [.int 0, .ref kl, .null, .ref tl]))]) H := hP
  have hD : va_D A ([(kl, .inr (6, [.int 0, .ref (κ 0), .int 0])), (m0, .inr (16, [.int 0, .ref kl, .null, .ref tl]))]) := hD
  have hK : va_K D vwCl [] s := hK
  refine W.widen (k := 0) (n := 0) (Nat.le_of_ble_eq_true rfl) (Nat.le_of_ble_eq_true rfl) ?_
  have hw_33 := hw
  refine lv_if_lt (tgt := 49) hx hb dX9_kind_36 (by decide) (fun c_36 => absurd hL0 (hw_33.mp c_36)) (fun c_36 => ?_)
  refine va_ldcS hx hb hown hE.noce dX9_kind_39 ?_
  refine lv_iload hx hb dX9_kind_41 (lv_at hl 4 rfl) ?_
  have hS0 := hS
  have hFc := va_free (wc := []) hD hS hA [] rfl
  refine va_calli (va_runV (As := [.int p3]) (rest := []) ⟨hx, hb, hml, hown, hts⟩ (c_ix_1 l κ D (H).size (p3) ) (cwV 1 hts gd_c_X9_kind_ok_43 rfl rfl rfl (by decide +kernel) ⟨(Nat.le_of_ble_eq_true rfl), (Nat.le_of_ble_eq_true rfl)⟩) (preV hE hK hP hD hS hA [] rfl (by decide) [] rfl (vk_recv hE.ss (i := 1) (by decide) hS)) rfl rfl hl.1 rfl (lv_room (Nat.le_of_ble_eq_true rfl)) dX9_kind_43 ⟨(Nat.le_of_ble_eq_true rfl), (Nat.le_of_ble_eq_true rfl)⟩) hS (fun q _ h => hFc q h) hFc (fun r_5 u t H1 locs ht hvm hw hB hz1 hk1 hS => ?_)
  try dsimp only at hw
  obtain ⟨hP, hD, hK⟩ := jn (wc := []) (wr := [(kl, .inr (6, [.int 0, .ref (κ 0), .int 0])), (m0, .inr (16, [.int 0, .ref kl, .null, .ref tl]))]) (w1 := []) (t1 := []) hP hD hK hS0 hA [] [0, 1] rfl rfl (by decide) (by decide) ht hvm hk1 hB
  generalize H1 = H at hP hS ⊢
  have hP : va_P D vwCl ([(kl, .inr (6, [.int 0, .ref (κ 0), .int 0])), (m0, .inr (16, [.int 0, .ref kl, .null, .ref tl]))]) H := hP
  have hD : va_D A ([(kl, .inr (6, [.int 0, .ref (κ 0), .int 0])), (m0, .inr (16, [.int 0, .ref kl, .null, .ref tl]))]) := hD
  have hK : va_K D vwCl [] s := hK
  refine W.widen (k := 0) (n := 0) (Nat.le_of_ble_eq_true rfl) (Nat.le_of_ble_eq_true rfl) ?_
  have hw_43 := hw
  refine lv_if_ge (tgt := 53) hx hb dX9_kind_46 (by decide) (fun c_46 => ?_) (fun c_46 => absurd hC0 (hw_43.mp (Int32.not_le.mp c_46)))
  refine lv_iconst (v := 0) hx hb dX9_kind_53 (by decide) ?_
  refine lv_istore (lv' := [(5, .int 0), (0, .ref m0), (1, .int p0), (2, .int p1), (3, .int p2), (4, .int p3)]) hx hb dX9_kind_54 hl (by decide) rfl (fun ls hl => ?_)
  refine lv_aload_n hx hb dX9_kind_56 rfl (lv_at hl 1 rfl) ?_
  refine lv_iload hx hb dX9_kind_57 (lv_at hl 0 rfl) ?_
  refine lv_iconst (v := 1) hx hb dX9_kind_59 (by decide) ?_
  have hS0 := hS
  have hFc := va_free (wc := [(m0, .inr (16, [.int 0, .ref kl, .null, .ref tl]))]) hD hS hA [1] rfl
  refine va_calli (va_runV (As := [.int 0, .int 1]) (rest := []) ⟨hx, hb, hml, hown, hts⟩ (c_X9_fails_n l κ D (H).size (m0) (kl) (tl) (1) ) (cwV 2 hts gd_c_X9_kind_ok_60 rfl rfl rfl (by decide +kernel) ⟨(Nat.le_of_ble_eq_true rfl), (Nat.le_of_ble_eq_true rfl)⟩) (preV hE hK hP hD hS hA [1] rfl (by decide) [] rfl (va_recv hK hP (ci := 16) (q0 := 1) rfl rfl)) rfl rfl hl.1 rfl (lv_room (Nat.le_of_ble_eq_true rfl)) dX9_kind_60 ⟨(Nat.le_of_ble_eq_true rfl), (Nat.le_of_ble_eq_true rfl)⟩) hS (fun q _ h => hFc q h) hFc (fun r_6 u t H1 locs ht hvm hw hB hz1 hk1 hS => ?_)
  try dsimp only at hw
  obtain ⟨hP, hD, hK⟩ := jn (wc := [(m0, .inr (16, [.int 0, .ref kl, .null, .ref tl]))]) (wr := [(kl, .inr (6, [.int 0, .ref (κ 0), .int 0]))]) (w1 := [(m0, .inr (16, [.int 0, .ref kl, .null, .ref tl]))]) (t1 := []) hP hD hK hS0 hA [1] [0] rfl rfl (by decide) (by decide) ht hvm hk1 hB
  generalize H1 = H at hP hS ⊢
  have hP : va_P D vwCl ([(kl, .inr (6, [.int 0, .ref (κ 0), .int 0])), (m0, .inr (16, [.int 0, .ref kl, .null, .ref tl]))]) H := hP
  have hD : va_D A ([(kl, .inr (6, [.int 0, .ref (κ 0), .int 0])), (m0, .inr (16, [.int 0, .ref kl, .null, .ref tl]))]) := hD
  have hK : va_K D vwCl [] s := hK
  refine W.widen (k := 0) (n := 0) (Nat.le_of_ble_eq_true rfl) (Nat.le_of_ble_eq_true rfl) ?_
  subst hw
  refine lv_if_ne (tgt := 93) hx hb dX9_kind_63 (by decide) (fun c_63 => absurd c_63 (by decide)) (fun _ => ?_)
  refine lv_aload_n hx hb dX9_kind_66 rfl (lv_at hl 1 rfl) ?_
  refine lv_aload_n hx hb dX9_kind_67 rfl (lv_at hl 1 rfl) ?_
  refine va_get (D := D) (ci := 16) (v := .ref kl) (C := RX9) (T := TX9) (N := 4) hx hb hts iRX9 hown hK hP 1 rfl rfl 1 (by decide) (hts (.fieldLink RX9 10 "SowingcourtModel" "kinds" "Ljava/util/List;") (by decide +kernel)) (fun _ h9 => h9) rfl dX9_kind_68 ?_
  have hS0 := hS
  have hFc := va_free (wc := [(kl, .inr (6, [.int 0, .ref (κ 0), .int 0]))]) hD hS hA [0] rfl
  refine va_callFi (va_runF (hK.1 6 _ rfl).2 (As := []) (rest := [.ref m0]) ⟨hx, hb, hml, hown, hts⟩ (c_JAL_size l κ D (H).size (kl) (0) (0) ((κ 0)) ) (va_cwF 0 hts gd_c_X9_kind_ok_71 rfl rfl rfl hE.fw0 (by decide +kernel) ⟨(Nat.le_of_ble_eq_true rfl), (Nat.le_of_ble_eq_true rfl)⟩) (preV hE hK hP hD hS hA [0] rfl (by decide) [] rfl (va_recv hK hP (ci := 6) (q0 := 0) rfl rfl)) rfl rfl hl.1 rfl (lv_room (Nat.le_of_ble_eq_true rfl)) dX9_kind_71 ⟨(Nat.le_of_ble_eq_true rfl), (Nat.le_of_ble_eq_true rfl)⟩) hS (fun q _ h => hFc q h) hFc (fun r_7 u t H1 locs ht hvm hw hB hz1 hk1 hS => ?_)
  try dsimp only at hw
  obtain ⟨hP, hD, hK⟩ := jn (wc := [(kl, .inr (6, [.int 0, .ref (κ 0), .int 0]))]) (wr := [(m0, .inr (16, [.int 0, .ref kl, .null, .ref tl]))]) (w1 := [(kl, .inr (6, [.int 0, .ref (κ 0), .int 0]))]) (t1 := []) hP hD hK hS0 hA [0] [1] rfl rfl (by decide) (by decide) ht hvm hk1 hB
  generalize H1 = H at hP hS ⊢
  have hP : va_P D vwCl ([(m0, .inr (16, [.int 0, .ref kl, .null, .ref tl])), (kl, .inr (6, [.int 0, .ref (κ 0), .int 0]))]) H := hP
  have hD : va_D A ([(m0, .inr (16, [.int 0, .ref kl, .null, .ref tl])), (kl, .inr (6, [.int 0, .ref (κ 0), .int 0]))]) := hD
  have hK : va_K D vwCl [] s := hK
  refine W.widen (k := 0) (n := 0) (Nat.le_of_ble_eq_true rfl) (Nat.le_of_ble_eq_true rfl) ?_
  subst hw
  refine lv_bipush (v := 6) hx hb dX9_kind_76 (by decide) ?_
  refine lv_icmp_ne (tgt := 85) hx hb dX9_kind_78 (by decide) (fun _ => ?_) (fun c_78 => absurd c_78 (by decide))
  refine lv_iconst (v := 0) hx hb dX9_kind_85 (by decide) ?_
  refine lv_iconst (v := 2) hx hb dX9_kind_86 (by decide) ?_
  have hS0 := hS
  have hFc := va_free (wc := [(m0, .inr (16, [.int 0, .ref kl, .null, .ref tl]))]) hD hS hA [0] rfl
  refine va_calli (va_runV (As := [.int 0, .int 2]) (rest := []) ⟨hx, hb, hml, hown, hts⟩ (c_X9_fails_n l κ D (H).size (m0) (kl) (tl) (2) ) (cwV 2 hts gd_c_X9_kind_ok_87 rfl rfl rfl (by decide +kernel) ⟨(Nat.le_of_ble_eq_true rfl), (Nat.le_of_ble_eq_true rfl)⟩) (preV hE hK hP hD hS hA [0] rfl (by decide) [] rfl (va_recv hK hP (ci := 16) (q0 := 0) rfl rfl)) rfl rfl hl.1 rfl (lv_room (Nat.le_of_ble_eq_true rfl)) dX9_kind_87 ⟨(Nat.le_of_ble_eq_true rfl), (Nat.le_of_ble_eq_true rfl)⟩) hS (fun q _ h => hFc q h) hFc (fun r_8 u t H1 locs ht hvm hw hB hz1 hk1 hS => ?_)
  try dsimp only at hw
  obtain ⟨hP, hD, hK⟩ := jn (wc := [(m0, .inr (16, [.int 0, .ref kl, .null, .ref tl]))]) (wr := [(kl, .inr (6, [.int 0, .ref (κ 0), .int 0]))]) (w1 := [(m0, .inr (16, [.int 0, .ref kl, .null, .ref tl]))]) (t1 := []) hP hD hK hS0 hA [0] [1] rfl rfl (by decide) (by decide) ht hvm hk1 hB
  generalize H1 = H at hP hS ⊢
  have hP : va_P D vwCl ([(kl, .inr (6, [.int 0, .ref (κ 0), .int 0])), (m0, .inr (16, [.int 0, .ref kl, .null, .ref tl]))]) H := hP
  have hD : va_D A ([(kl, .inr (6, [.int 0, .ref (κ 0), .int 0])), (m0, .inr (16, [.int 0, .ref kl, .null, .ref tl]))]) := hD
  have hK : va_K D vwCl [] s := hK
  refine W.widen (k := 0) (n := 0) (Nat.le_of_ble_eq_true rfl) (Nat.le_of_ble_eq_true rfl) ?_
  subst hw
  refine lv_if_eq (tgt := 95) hx hb dX9_kind_90 (by decide) (fun _ => ?_) (fun c_90 => absurd c_90 (by decide))
  refine va_new (ci := 14) (fs := [.int 0, .int 0, .int 0, .int 0, .int 0]) (C := RX7) (T := TX7) (N := 5) hx hb hts iRX7 tyX7 tyX7_ok hown (hts (.classLink RX9 54 RX7) (by decide +kernel)) (hts (.instantiable RX7 5) (by decide +kernel)) (hts (.initialized RX7) (by decide +kernel)) hK hP hD hS hA rfl (fun j hj => by rcases (show j = 0 ∨ j = 1 ∨ j = 2 ∨ j = 3 ∨ j = 4 by omega) with rfl | rfl | rfl | rfl | rfl <;> rfl) (Nat.le_of_ble_eq_true rfl) (Nat.le_of_ble_eq_true rfl) dX9_kind_95 (fun q_9 H hP hD hS => ?_)
  have hP : va_P D vwCl ([(kl, .inr (6, [.int 0, .ref (κ 0), .int 0])), (m0, .inr (16, [.int 0, .ref kl, .null, .ref tl])), (q_9, .inr (14, [.int 0, .int 0, .int 0, .int 0, .int 0]))]) H := hP
  have hD : va_D A ([(kl, .inr (6, [.int 0, .ref (κ 0), .int 0])), (m0, .inr (16, [.int 0, .ref kl, .null, .ref tl])), (q_9, .inr (14, [.int 0, .int 0, .int 0, .int 0, .int 0]))]) := hD
  refine W.widen (k := 1) (n := 5) (Nat.le_of_ble_eq_true rfl) (Nat.le_of_ble_eq_true rfl) ?_
  refine lv_dup hx hb dX9_kind_98 rfl ?_
  have hS0 := hS
  have hFc := va_free (wc := [(q_9, .inr (14, [.int 0, .int 0, .int 0, .int 0, .int 0]))]) hD hS hA [2] rfl
  refine va_callv (va_runIN (As := []) (rest := [.ref q_9]) ⟨hx, hb, hml, hown, hts⟩ (c_X7_init l κ D (H).size (q_9) ) (⟨va_cnB 0 hts gd_c_X9_kind_ok_99 rfl rfl rfl hE.nm3 (hts (.initialized RX7) (by decide +kernel)) (by decide +kernel) ⟨(Nat.le_of_ble_eq_true rfl), (Nat.le_of_ble_eq_true rfl)⟩, rfl, (hts (.instanceMethod yX7_init) (by decide +kernel))⟩) (preS hE hK hP hD hS hA [2] rfl (by decide) [] rfl) rfl rfl hl.1 rfl (lv_room (Nat.le_of_ble_eq_true rfl)) dX9_kind_99 ⟨(Nat.le_of_ble_eq_true rfl), (Nat.le_of_ble_eq_true rfl)⟩) hS (fun q _ h => hFc q h) hFc (fun u t H1 locs ht hvm hw hB hz1 hk1 hS => ?_)
  try dsimp only at hw
  obtain ⟨hP, hD, hK⟩ := jn (wc := [(q_9, .inr (14, [.int 0, .int 0, .int 0, .int 0, .int 0]))]) (wr := [(kl, .inr (6, [.int 0, .ref (κ 0), .int 0])), (m0, .inr (16, [.int 0, .ref kl, .null, .ref tl]))]) (w1 := [(q_9, .inr (14, [.int 0, .int 0, .int 0, .int 0, .int 0]))]) (t1 := []) hP hD hK hS0 hA [2] [0, 1] rfl rfl (by decide) (by decide) ht hvm hk1 hB
  generalize H1 = H at hP hS ⊢
  have hP : va_P D vwCl ([(kl, .inr (6, [.int 0, .ref (κ 0), .int 0])), (m0, .inr (16, [.int 0, .ref kl, .null, .ref tl])), (q_9, .inr (14, [.int 0, .int 0, .int 0, .int 0, .int 0]))]) H := hP
  have hD : va_D A ([(kl, .inr (6, [.int 0, .ref (κ 0), .int 0])), (m0, .inr (16, [.int 0, .ref kl, .null, .ref tl])), (q_9, .inr (14, [.int 0, .int 0, .int 0, .int 0, .int 0]))]) := hD
  have hK : va_K D vwCl [] s := hK
  refine W.widen (k := 1) (n := 5) (Nat.le_of_ble_eq_true rfl) (Nat.le_of_ble_eq_true rfl) ?_
  refine lv_astore (lv' := [(6, .ref q_9), (5, .int 0), (0, .ref m0), (1, .int p0), (2, .int p1), (3, .int p2), (4, .int p3)]) hx hb dX9_kind_102 hl (by decide) rfl (fun ls hl => ?_)
  refine lv_aload hx hb dX9_kind_104 (lv_at hl 0 rfl) ?_
  refine lv_iload_n hx hb dX9_kind_106 rfl (lv_at hl 3 rfl) ?_
  refine va_putN (D := D) (ci := 14) (v := .int p0) (ty := .int) (C := RX7) (T := TX7) (N := 5) hx hb hts iRX7 tyX7 tyX7_ok nmX7 hown hK hP hD hS 2 rfl rfl 0 (by decide) (va_Nw.use rfl hE.nf0) (fun _ h9 => h9) rfl (by decide +kernel) rfl rfl (Nat.le_of_ble_eq_true rfl) dX9_kind_107 (fun H locs hP hD hS => ?_)
  have hP : va_P D vwCl ([(kl, .inr (6, [.int 0, .ref (κ 0), .int 0])), (m0, .inr (16, [.int 0, .ref kl, .null, .ref tl])), (q_9, .inr (14, [.int p0, .int 0, .int 0, .int 0, .int 0]))]) H := hP
  have hD : va_D A ([(kl, .inr (6, [.int 0, .ref (κ 0), .int 0])), (m0, .inr (16, [.int 0, .ref kl, .null, .ref tl])), (q_9, .inr (14, [.int p0, .int 0, .int 0, .int 0, .int 0]))]) := hD
  refine lv_aload hx hb dX9_kind_110 (lv_at hl 0 rfl) ?_
  refine lv_iload_n hx hb dX9_kind_112 rfl (lv_at hl 4 rfl) ?_
  refine va_putN (D := D) (ci := 14) (v := .int p1) (ty := .int) (C := RX7) (T := TX7) (N := 5) hx hb hts iRX7 tyX7 tyX7_ok nmX7 hown hK hP hD hS 2 rfl rfl 1 (by decide) (va_Nw.use rfl hE.nf1) (fun _ h9 => h9) rfl (by decide +kernel) rfl rfl (Nat.le_of_ble_eq_true rfl) dX9_kind_113 (fun H locs hP hD hS => ?_)
  have hP : va_P D vwCl ([(kl, .inr (6, [.int 0, .ref (κ 0), .int 0])), (m0, .inr (16, [.int 0, .ref kl, .null, .ref tl])), (q_9, .inr (14, [.int p0, .int p1, .int 0, .int 0, .int 0]))]) H := hP
  have hD : va_D A ([(kl, .inr (6, [.int 0, .ref (κ 0), .int 0])), (m0, .inr (16, [.int 0, .ref kl, .null, .ref tl])), (q_9, .inr (14, [.int p0, .int p1, .int 0, .int 0, .int 0]))]) := hD
  refine lv_aload hx hb dX9_kind_116 (lv_at hl 0 rfl) ?_
  refine lv_iload_n hx hb dX9_kind_118 rfl (lv_at hl 5 rfl) ?_
  refine va_putN (D := D) (ci := 14) (v := .int p2) (ty := .char) (C := RX7) (T := TX7) (N := 5) hx hb hts iRX7 tyX7 tyX7_ok nmX7 hown hK hP hD hS 2 rfl rfl 2 (by decide) (va_Nw.use rfl hE.nf2) (fun _ h9 => h9) rfl (by decide +kernel) n2 f2 (Nat.le_of_ble_eq_true rfl) dX9_kind_119 (fun H locs hP hD hS => ?_)
  have hP : va_P D vwCl ([(kl, .inr (6, [.int 0, .ref (κ 0), .int 0])), (m0, .inr (16, [.int 0, .ref kl, .null, .ref tl])), (q_9, .inr (14, [.int p0, .int p1, .int p2, .int 0, .int 0]))]) H := hP
  have hD : va_D A ([(kl, .inr (6, [.int 0, .ref (κ 0), .int 0])), (m0, .inr (16, [.int 0, .ref kl, .null, .ref tl])), (q_9, .inr (14, [.int p0, .int p1, .int p2, .int 0, .int 0]))]) := hD
  refine lv_aload hx hb dX9_kind_122 (lv_at hl 0 rfl) ?_
  refine lv_iload hx hb dX9_kind_124 (lv_at hl 6 rfl) ?_
  refine va_putN (D := D) (ci := 14) (v := .int p3) (ty := .char) (C := RX7) (T := TX7) (N := 5) hx hb hts iRX7 tyX7 tyX7_ok nmX7 hown hK hP hD hS 2 rfl rfl 3 (by decide) (va_Nw.use rfl hE.nf3) (fun _ h9 => h9) rfl (by decide +kernel) n3 f3 (Nat.le_of_ble_eq_true rfl) dX9_kind_126 (fun H locs hP hD hS => ?_)
  have hP : va_P D vwCl ([(kl, .inr (6, [.int 0, .ref (κ 0), .int 0])), (m0, .inr (16, [.int 0, .ref kl, .null, .ref tl])), (q_9, .inr (14, [.int p0, .int p1, .int p2, .int p3, .int 0]))]) H := hP
  have hD : va_D A ([(kl, .inr (6, [.int 0, .ref (κ 0), .int 0])), (m0, .inr (16, [.int 0, .ref kl, .null, .ref tl])), (q_9, .inr (14, [.int p0, .int p1, .int p2, .int p3, .int 0]))]) := hD
  refine lv_aload_n hx hb dX9_kind_129 rfl (lv_at hl 2 rfl) ?_
  refine va_get (D := D) (ci := 16) (v := .ref kl) (C := RX9) (T := TX9) (N := 4) hx hb hts iRX9 hown hK hP 1 rfl rfl 1 (by decide) (hts (.fieldLink RX9 10 "SowingcourtModel" "kinds" "Ljava/util/List;") (by decide +kernel)) (fun _ h9 => h9) rfl dX9_kind_130 ?_
  refine lv_aload hx hb dX9_kind_133 (lv_at hl 0 rfl) ?_
  have hS0 := hS
  have hFc := va_free (wc := [(kl, .inr (6, [.int 0, .ref (κ 0), .int 0])), (q_9, .inr (14, [.int p0, .int p1, .int p2, .int p3, .int 0]))]) hD hS hA [0, 2] rfl
  refine va_callFi (va_runF (hK.1 6 _ rfl).2 (As := [.ref q_9]) (rest := []) ⟨hx, hb, hml, hown, hts⟩ (c_add1_K l κ D (H).size (kl) (q_9) (p0) (p1) (p2) (p3) (0) ) (va_cwF 1 hts gd_c_X9_kind_ok_135 rfl rfl rfl hE.fw1 (by decide +kernel) ⟨(Nat.le_of_ble_eq_true rfl), (Nat.le_of_ble_eq_true rfl)⟩) (preV hE hK hP hD hS hA [0, 2] rfl (by decide) [] rfl (va_recv hK hP (ci := 6) (q0 := 0) rfl rfl)) rfl rfl hl.1 rfl (lv_room (Nat.le_of_ble_eq_true rfl)) dX9_kind_135 ⟨(Nat.le_of_ble_eq_true rfl), (Nat.le_of_ble_eq_true rfl)⟩) hS (fun q _ h => hFc q h) hFc (fun r_11 u t H1 locs ht hvm hw hB hz1 hk1 hS => ?_)
  obtain ⟨ra_12, hB⟩ := hB
  try dsimp only at hw
  obtain ⟨hP, hD, hK⟩ := jn (wc := [(kl, .inr (6, [.int 0, .ref (κ 0), .int 0])), (q_9, .inr (14, [.int p0, .int p1, .int p2, .int p3, .int 0]))]) (wr := [(m0, .inr (16, [.int 0, .ref kl, .null, .ref tl]))]) (w1 := [(kl, .inr (6, [.int 1, .ref ra_12, .int 1]))]) (t1 := []) hP hD hK hS0 hA [0, 2] [1] rfl rfl (by decide) (by decide) ht hvm hk1 hB
  generalize H1 = H at hP hS ⊢
  have hP : va_P D vwCl ([(m0, .inr (16, [.int 0, .ref kl, .null, .ref tl])), (kl, .inr (6, [.int 1, .ref ra_12, .int 1]))]) H := hP
  have hD : va_D A ([(m0, .inr (16, [.int 0, .ref kl, .null, .ref tl])), (kl, .inr (6, [.int 1, .ref ra_12, .int 1]))]) := hD
  have hK : va_K D vwCl [] s := hK
  refine W.widen (k := 2) (n := 15) (Nat.le_of_ble_eq_true rfl) (Nat.le_of_ble_eq_true rfl) ?_
  subst hw
  refine lv_pop hx hb dX9_kind_140 rfl ?_
  refine lv_aload_n hx hb dX9_kind_141 rfl (lv_at hl 2 rfl) ?_
  refine va_get (D := D) (ci := 16) (v := .ref kl) (C := RX9) (T := TX9) (N := 4) hx hb hts iRX9 hown hK hP 0 rfl rfl 1 (by decide) (hts (.fieldLink RX9 10 "SowingcourtModel" "kinds" "Ljava/util/List;") (by decide +kernel)) (fun _ h9 => h9) rfl dX9_kind_142 ?_
  have hS0 := hS
  have hFc := va_free (wc := [(kl, .inr (6, [.int 1, .ref ra_12, .int 1]))]) hD hS hA [1] rfl
  refine va_callFi (va_runF (hK.1 6 _ rfl).2 (As := []) (rest := []) ⟨hx, hb, hml, hown, hts⟩ (c_JAL_size l κ D (H).size (kl) (1) (1) (ra_12) ) (va_cwF 0 hts gd_c_X9_kind_ok_145 rfl rfl rfl hE.fw0 (by decide +kernel) ⟨(Nat.le_of_ble_eq_true rfl), (Nat.le_of_ble_eq_true rfl)⟩) (preV hE hK hP hD hS hA [1] rfl (by decide) [] rfl (va_recv hK hP (ci := 6) (q0 := 1) rfl rfl)) rfl rfl hl.1 rfl (lv_room (Nat.le_of_ble_eq_true rfl)) dX9_kind_145 ⟨(Nat.le_of_ble_eq_true rfl), (Nat.le_of_ble_eq_true rfl)⟩) hS (fun q _ h => hFc q h) hFc (fun r_13 u t H1 locs ht hvm hw hB hz1 hk1 hS => ?_)
  try dsimp only at hw
  obtain ⟨hP, hD, hK⟩ := jn (wc := [(kl, .inr (6, [.int 1, .ref ra_12, .int 1]))]) (wr := [(m0, .inr (16, [.int 0, .ref kl, .null, .ref tl]))]) (w1 := [(kl, .inr (6, [.int 1, .ref ra_12, .int 1]))]) (t1 := []) hP hD hK hS0 hA [1] [0] rfl rfl (by decide) (by decide) ht hvm hk1 hB
  generalize H1 = H at hP hS ⊢
  have hP : va_P D vwCl ([(m0, .inr (16, [.int 0, .ref kl, .null, .ref tl])), (kl, .inr (6, [.int 1, .ref ra_12, .int 1]))]) H := hP
  have hD : va_D A ([(m0, .inr (16, [.int 0, .ref kl, .null, .ref tl])), (kl, .inr (6, [.int 1, .ref ra_12, .int 1]))]) := hD
  have hK : va_K D vwCl [] s := hK
  refine W.widen (k := 2) (n := 15) (Nat.le_of_ble_eq_true rfl) (Nat.le_of_ble_eq_true rfl) ?_
  subst hw
  refine lv_iconst (v := 1) hx hb dX9_kind_150 (by decide) ?_
  refine lv_isub hx hb dX9_kind_151 ?_
  refine lv_topi (fun v_14 ev_14 => ?_)
  have ev_14 : v_14 = 0 := ev_14.trans (by decide)
  subst ev_14
  refine W.widen (k := 2) (n := 15) (Nat.le_of_ble_eq_true rfl) (Nat.le_of_ble_eq_true rfl) ?_
  exact W.iret (v := 0) hx hb hr (fun t ht hW => ⟨⟨0, (), rfl, rfl, PB.at hP hK hD hW.alike ht [0] rfl (by decide) [] rfl⟩, hS.F ht⟩) hS.2.2 dX9_kind_152

def wm_c_X9_kind_bad : List Cond := .code yX9_kind cX9_kind 7 (some .int) :: ([.code yX9_begins cX9_begins 1 none, .fieldLink RX9 19 "SowingcourtModel" "thrown" "I", .methodLink RX9 33 yX9_begins, .instanceMethod yX9_begins, .selects RX9 yX9_begins yX9_begins, .initialized RX9, .constantLong RX9 36 (2), .constantLong RX9 38 (5), .code yX9_in cX9_in 6 (some .boolean), .methodLink RX9 29 yX9_in, .static yX9_in, .code yX9_fails cX9_fails 3 (some .boolean), .methodLink RX9 50 yX9_fails, .instanceMethod yX9_fails, .selects RX9 yX9_fails yX9_fails, .code yJ0_indexOf_0f7a4 cJ0_indexOf_0f7a4 2 (some .int), .code yJ0_indexOf_7cf53 cJ0_indexOf_7cf53 3 (some .int), .code yJ0_isLatin1_aae02 cJ0_isLatin1_aae02 1 (some .boolean), .fieldLink RJ0 38 "java/lang/String" "COMPACT_STRINGS" "Z", .fieldLink RJ0 15 "java/lang/String" "coder" "B", .methodLink RJ0 492 yJ0_isLatin1_aae02, .instanceMethod yJ0_isLatin1_aae02, .selects RJ0 yJ0_isLatin1_aae02 yJ0_isLatin1_aae02, .initialized RJ0, .fieldLink RJ0 9 "java/lang/String" "value" "[B", .code yJ0_length_8abf5 cJ0_length_8abf5 1 (some .int), .code yJ0_coder_7d493 cJ0_coder_7d493 1 (some .byte), .methodLink RJ0 335 yJ0_coder_7d493, .instanceMethod yJ0_coder_7d493, .selects RJ0 yJ0_coder_7d493 yJ0_coder_7d493, .methodLink RJ0 505 yJ0_length_8abf5, .instanceMethod yJ0_length_8abf5, .selects RJ0 yJ0_length_8abf5 yJ0_length_8abf5, .code yJ1_indexOf_4cfef cJ1_indexOf_4cfef 4 (some .int), .code yJ1_canEncode_9a6ad cJ1_canEncode_9a6ad 1 (some .boolean), .methodLink RJ1 88 yJ1_canEncode_9a6ad, .static yJ1_canEncode_9a6ad, .initialized RJ1, .methodLink RJ1 92 Lib.Math.max.name, .static Lib.Math.max.name, .initialized "java/lang/Math", .code Lib.Math.max.name Lib.Math.max.code 2 (some .int), .methodLink RJ1 38 Lib.Math.min.name, .static Lib.Math.min.name, .code Lib.Math.min.name Lib.Math.min.code 2 (some .int), .code yJ1_indexOfChar_4cfef cJ1_indexOfChar_4cfef 6 (some .int), .methodLink RJ1 95 yJ1_indexOfChar_4cfef, .static yJ1_indexOfChar_4cfef, .methodLink RJ0 637 yJ1_indexOf_4cfef, .static yJ1_indexOf_4cfef, .methodLink RJ0 633 yJ0_indexOf_7cf53, .instanceMethod yJ0_indexOf_7cf53, .selects RJ0 yJ0_indexOf_7cf53 yJ0_indexOf_7cf53, .methodLink RX9 42 yJ0_indexOf_0f7a4, .instanceMethod yJ0_indexOf_0f7a4, .selects RJ0 yJ0_indexOf_0f7a4 yJ0_indexOf_0f7a4] ++ wsX90)
set_option maxRecDepth 20000 in
theorem gd_c_X9_kind_bad_1 : GoodIn wm_c_X9_kind_bad (wsV RX9 33 RX9 yX9_begins wm_c_X9_begins) := goodIn_of _ (by decide +kernel)
set_option maxRecDepth 20000 in
theorem gd_c_X9_kind_bad_12 : GoodIn wm_c_X9_kind_bad (va_wsS RX9 29 yX9_in wm_c_X9_in) := goodIn_of _ (by decide +kernel)
set_option maxRecDepth 20000 in
theorem gd_c_X9_kind_bad_60 : GoodIn wm_c_X9_kind_bad (wsV RX9 50 RX9 yX9_fails wm_c_X9_fails_1) := goodIn_of _ (by decide +kernel)
set_option maxRecDepth 20000 in
theorem gd_c_X9_kind_bad_24 : GoodIn wm_c_X9_kind_bad (va_wsS RX9 29 yX9_in wm_c_X9_in) := goodIn_of _ (by decide +kernel)
set_option maxRecDepth 20000 in
theorem gd_c_X9_kind_bad_33 : GoodIn wm_c_X9_kind_bad (wsV RX9 42 RJ0 yJ0_indexOf_0f7a4 wm_c_ix_0) := goodIn_of _ (by decide +kernel)
set_option maxRecDepth 20000 in
theorem gd_c_X9_kind_bad_43 : GoodIn wm_c_X9_kind_bad (wsV RX9 42 RJ0 yJ0_indexOf_0f7a4 wm_c_ix_1) := goodIn_of _ (by decide +kernel)
set_option maxHeartbeats 4000000 in
set_option maxRecDepth 100000 in
theorem c_X9_kind_bad (l : Launch) (κ : Nat → Nat) (D : va_G) (sz : Nat) (m0 : Nat) (kl : Nat) (tl : Nat) (p0 : Int32) (p1 : Int32) (p2 : Int32) (p3 : Int32) (hbad : ¬ (((2 : Int64).toInt ≤ (p0.toInt64).toInt ∧ (p0.toInt64).toInt ≤ (5 : Int64).toInt) ∧ ((1 : Int64).toInt ≤ (p1.toInt64).toInt ∧ (p1.toInt64).toInt ≤ (5 : Int64).toInt) ∧ (p2 = 115 ∨ p2 = 114 ∨ p2 = 112) ∧ (p3 = 110 ∨ p3 = 111 ∨ p3 = 99 ∨ p3 = 101))) : Met l yX9_kind wm_c_X9_kind_bad ({ frames := 12, cells := 0, slots := 0, locals := 440 }) (va_Pc [.ref m0, .int p0, .int p1, .int p2, .int p3] (PC κ D [] [(m0, .inr (16, [.int 0, .ref kl, .null, .ref tl])), (kl, .inr (6, [.int 0, .ref (κ 0), .int 0]))] sz)) (va_Qi (fun (r : Int32) (_ : Unit) => True) (fun _ t => PB D [] [(m0, .inr (16, [.int 1, .ref kl, .null, .ref tl]))] (va_A [(m0, .inr (16, [.int 0, .ref kl, .null, .ref tl])), (kl, .inr (6, [.int 0, .ref (κ 0), .int 0]))] sz) t) (va_A [(m0, .inr (16, [.int 0, .ref kl, .null, .ref tl])), (kl, .inr (6, [.int 0, .ref (κ 0), .int 0]))] sz)) 0 0 (va_A [(m0, .inr (16, [.int 0, .ref kl, .null, .ref tl])), (kl, .inr (6, [.int 0, .ref (κ 0), .int 0]))] sz) := by
  refine Met.ofW (cc := cX9_kind) (maxL := 7) (ret := (some .int)) (by decide +kernel) rfl ?_
  intro p e s m args below meth c s₁ B hml hv
  obtain ⟨rfl, hsz, hP, hK, hD0, hE⟩ := hv
  have hx := B.exec
  have hb := B.bytes
  have hr := B.returns
  have hts := atoms_spec (ws := wm_c_X9_kind_bad) B.pre
  have hown : s.vm.findClass RX9 = some m.cls := findClass_of_methodNamed B.named
  have hlocks := B.notSynchronized
  have iRX9 : ∀ w ∈ u_ws RX9 TX9 4, w ∈ wm_c_X9_kind_bad := by decide +kernel
  subst hsz
  have hD := hD0.self (sz := s.heap.size)
  generalize hAe : va_A [(m0, .inr (16, [.int 0, .ref kl, .null, .ref tl])), (kl, .inr (6, [.int 0, .ref (κ 0), .int 0]))] s.heap.size = A at hD hE ⊢
  have hA : ∀ q : Nat, s.heap.size ≤ q → A q := fun q h => by rw [← hAe]; exact Or.inr h
  have hS : va_S A s.heap s.heap [] := va_S.rf
  have hl := lv_entry ([.ref m0, .int p0, .int p1, .int p2, .int p3]) (n := 7) (Nat.le_of_ble_eq_true rfl)
  rw [lg_entry_eq]
  generalize (lg_sl ([.ref m0, .int p0, .int p1, .int p2, .int p3]) ++ List.replicate (7 - (lg_sl ([.ref m0, .int p0, .int p1, .int p2, .int p3])).length) Slot.unset).toArray = ls at hl ⊢
  have hl : lv_has ls 7 [(0, .ref m0), (1, .int p0), (2, .int p1), (3, .int p2), (4, .int p3)] := hl
  refine lv_aload_n hx hb dX9_kind_0 rfl (lv_at hl 0 rfl) ?_
  have hS0 := hS
  have hFc := va_free (wc := [(m0, .inr (16, [.int 0, .ref kl, .null, .ref tl]))]) hD hS hA [0] rfl
  refine va_callv (va_runV (As := []) (rest := []) ⟨hx, hb, hml, hown, hts⟩ (c_X9_begins l κ D (s.heap).size (m0) (kl) (tl) (0) ) (cwV 0 hts gd_c_X9_kind_bad_1 rfl rfl rfl (by decide +kernel) ⟨(Nat.le_of_ble_eq_true rfl), (Nat.le_of_ble_eq_true rfl)⟩) (preV hE hK hP hD hS hA [0] rfl (by decide) [] rfl (va_recv hK hP (ci := 16) (q0 := 0) rfl rfl)) rfl rfl hl.1 rfl (lv_room (Nat.le_of_ble_eq_true rfl)) dX9_kind_1 ⟨(Nat.le_of_ble_eq_true rfl), (Nat.le_of_ble_eq_true rfl)⟩) hS (fun q _ h => hFc q h) hFc (fun u t H1 locs ht hvm hw hB hz1 hk1 hS => ?_)
  try dsimp only at hw
  obtain ⟨hP, hD, hK⟩ := jn (wc := [(m0, .inr (16, [.int 0, .ref kl, .null, .ref tl]))]) (wr := [(kl, .inr (6, [.int 0, .ref (κ 0), .int 0]))]) (w1 := [(m0, .inr (16, [.int 0, .ref kl, .null, .ref tl]))]) (t1 := []) hP hD hK hS0 hA [0] [1] rfl rfl (by decide) (by decide) ht hvm hk1 hB
  generalize H1 = H at hP hS ⊢
  have hP : va_P D vwCl ([(kl, .inr (6, [.int 0, .ref (κ 0), .int 0])), (m0, .inr (16, [.int 0, .ref kl, .null, .ref tl]))]) H := hP
  have hD : va_D A ([(kl, .inr (6, [.int 0, .ref (κ 0), .int 0])), (m0, .inr (16, [.int 0, .ref kl, .null, .ref tl]))]) := hD
  have hK : va_K D vwCl [] s := hK
  refine W.widen (k := 0) (n := 0) (Nat.le_of_ble_eq_true rfl) (Nat.le_of_ble_eq_true rfl) ?_
  refine lv_iload_n hx hb dX9_kind_4 rfl (lv_at hl 1 rfl) ?_
  refine lv_i2l (v := (p0).toInt64) hx hb dX9_kind_5 rfl ?_
  refine lv_ldc2 (v := 2) hx hb hown (hts (.constantLong RX9 36 (2)) (by decide +kernel)) dX9_kind_6 ?_
  refine lv_ldc2 (v := 5) hx hb hown (hts (.constantLong RX9 38 (5)) (by decide +kernel)) dX9_kind_9 ?_
  have hS0 := hS
  have hFc := va_free (wc := []) hD hS hA [] rfl
  refine va_calli (va_runS (As := [.long ((p0).toInt64), .long 2, .long 5]) (rest := []) ⟨hx, hb, hml, hown, hts⟩ (c_X9_in l κ D (H).size (((p0).toInt64)) (2) (5) ) (va_cwS 3 hts gd_c_X9_kind_bad_12 rfl rfl rfl (by decide +kernel) ⟨(Nat.le_of_ble_eq_true rfl), (Nat.le_of_ble_eq_true rfl)⟩) (preS hE hK hP hD hS hA [] rfl (by decide) [] rfl) rfl rfl hl.1 rfl (lv_room (Nat.le_of_ble_eq_true rfl)) dX9_kind_12 ⟨(Nat.le_of_ble_eq_true rfl), (Nat.le_of_ble_eq_true rfl)⟩) hS (fun q _ h => hFc q h) hFc (fun r_2 u t H1 locs ht hvm hw hB hz1 hk1 hS => ?_)
  try dsimp only at hw
  obtain ⟨hP, hD, hK⟩ := jn (wc := []) (wr := [(kl, .inr (6, [.int 0, .ref (κ 0), .int 0])), (m0, .inr (16, [.int 0, .ref kl, .null, .ref tl]))]) (w1 := []) (t1 := []) hP hD hK hS0 hA [] [0, 1] rfl rfl (by decide) (by decide) ht hvm hk1 hB
  generalize H1 = H at hP hS ⊢
  have hP : va_P D vwCl ([(kl, .inr (6, [.int 0, .ref (κ 0), .int 0])), (m0, .inr (16, [.int 0, .ref kl, .null, .ref tl]))]) H := hP
  have hD : va_D A ([(kl, .inr (6, [.int 0, .ref (κ 0), .int 0])), (m0, .inr (16, [.int 0, .ref kl, .null, .ref tl]))]) := hD
  have hK : va_K D vwCl [] s := hK
  refine W.widen (k := 0) (n := 0) (Nat.le_of_ble_eq_true rfl) (Nat.le_of_ble_eq_true rfl) ?_
  have hw_12 := hw
  refine lv_if_eq (tgt := 49) hx hb dX9_kind_15 (by decide) (fun c_15 => ?_) (fun c_15 => ?_)
  · refine lv_iconst (v := 1) hx hb dX9_kind_49 (by decide) ?_
    refine lv_goto (tgt := 54) hx hb dX9_kind_50 (by decide) ?_
    refine lv_istore (lv' := [(5, .int 1), (0, .ref m0), (1, .int p0), (2, .int p1), (3, .int p2), (4, .int p3)]) hx hb dX9_kind_54 hl (by decide) rfl (fun ls hl => ?_)
    refine lv_aload_n hx hb dX9_kind_56 rfl (lv_at hl 1 rfl) ?_
    refine lv_iload hx hb dX9_kind_57 (lv_at hl 0 rfl) ?_
    refine lv_iconst (v := 1) hx hb dX9_kind_59 (by decide) ?_
    have hS0 := hS
    have hFc := va_free (wc := [(m0, .inr (16, [.int 0, .ref kl, .null, .ref tl]))]) hD hS hA [1] rfl
    refine va_calli (va_runV (As := [.int 1, .int 1]) (rest := []) ⟨hx, hb, hml, hown, hts⟩ (c_X9_fails_1 l κ D (H).size (m0) (kl) (tl) ) (cwV 2 hts gd_c_X9_kind_bad_60 rfl rfl rfl (by decide +kernel) ⟨(Nat.le_of_ble_eq_true rfl), (Nat.le_of_ble_eq_true rfl)⟩) (preV hE hK hP hD hS hA [1] rfl (by decide) [] rfl (va_recv hK hP (ci := 16) (q0 := 1) rfl rfl)) rfl rfl hl.1 rfl (lv_room (Nat.le_of_ble_eq_true rfl)) dX9_kind_60 ⟨(Nat.le_of_ble_eq_true rfl), (Nat.le_of_ble_eq_true rfl)⟩) hS (fun q _ h => hFc q h) hFc (fun r_3 u t H1 locs ht hvm hw hB hz1 hk1 hS => ?_)
    try dsimp only at hw
    obtain ⟨hP, hD, hK⟩ := jn (wc := [(m0, .inr (16, [.int 0, .ref kl, .null, .ref tl]))]) (wr := [(kl, .inr (6, [.int 0, .ref (κ 0), .int 0]))]) (w1 := [(m0, .inr (16, [.int 1, .ref kl, .null, .ref tl]))]) (t1 := []) hP hD hK hS0 hA [1] [0] rfl rfl (by decide) (by decide) ht hvm hk1 hB
    generalize H1 = H at hP hS ⊢
    have hP : va_P D vwCl ([(kl, .inr (6, [.int 0, .ref (κ 0), .int 0])), (m0, .inr (16, [.int 1, .ref kl, .null, .ref tl]))]) H := hP
    have hD : va_D A ([(kl, .inr (6, [.int 0, .ref (κ 0), .int 0])), (m0, .inr (16, [.int 1, .ref kl, .null, .ref tl]))]) := hD
    have hK : va_K D vwCl [] s := hK
    refine W.widen (k := 0) (n := 0) (Nat.le_of_ble_eq_true rfl) (Nat.le_of_ble_eq_true rfl) ?_
    subst hw
    refine lv_if_ne (tgt := 93) hx hb dX9_kind_63 (by decide) (fun _ => ?_) (fun c_63 => absurd c_63 (by decide))
    refine lv_iconst (v := (-1)) hx hb dX9_kind_93 (by decide) ?_
    refine W.widen (k := 0) (n := 0) (Nat.le_of_ble_eq_true rfl) (Nat.le_of_ble_eq_true rfl) ?_
    exact W.iret (v := (-1)) hx hb hr (fun t ht hW => ⟨⟨(-1), (), rfl, trivial, PB.at hP hK hD hW.alike ht [1] rfl (by decide) [] rfl⟩, hS.F ht⟩) hS.2.2 dX9_kind_94
  · refine lv_iload_n hx hb dX9_kind_18 rfl (lv_at hl 2 rfl) ?_
    refine lv_i2l (v := (p1).toInt64) hx hb dX9_kind_19 rfl ?_
    refine lv_lconst (v := 1) hx hb dX9_kind_20 (by decide) ?_
    refine lv_ldc2 (v := 5) hx hb hown (hts (.constantLong RX9 38 (5)) (by decide +kernel)) dX9_kind_21 ?_
    have hS0 := hS
    have hFc := va_free (wc := []) hD hS hA [] rfl
    refine va_calli (va_runS (As := [.long ((p1).toInt64), .long 1, .long 5]) (rest := []) ⟨hx, hb, hml, hown, hts⟩ (c_X9_in l κ D (H).size (((p1).toInt64)) (1) (5) ) (va_cwS 3 hts gd_c_X9_kind_bad_24 rfl rfl rfl (by decide +kernel) ⟨(Nat.le_of_ble_eq_true rfl), (Nat.le_of_ble_eq_true rfl)⟩) (preS hE hK hP hD hS hA [] rfl (by decide) [] rfl) rfl rfl hl.1 rfl (lv_room (Nat.le_of_ble_eq_true rfl)) dX9_kind_24 ⟨(Nat.le_of_ble_eq_true rfl), (Nat.le_of_ble_eq_true rfl)⟩) hS (fun q _ h => hFc q h) hFc (fun r_4 u t H1 locs ht hvm hw hB hz1 hk1 hS => ?_)
    try dsimp only at hw
    obtain ⟨hP, hD, hK⟩ := jn (wc := []) (wr := [(kl, .inr (6, [.int 0, .ref (κ 0), .int 0])), (m0, .inr (16, [.int 0, .ref kl, .null, .ref tl]))]) (w1 := []) (t1 := []) hP hD hK hS0 hA [] [0, 1] rfl rfl (by decide) (by decide) ht hvm hk1 hB
    generalize H1 = H at hP hS ⊢
    have hP : va_P D vwCl ([(kl, .inr (6, [.int 0, .ref (κ 0), .int 0])), (m0, .inr (16, [.int 0, .ref kl, .null, .ref tl]))]) H := hP
    have hD : va_D A ([(kl, .inr (6, [.int 0, .ref (κ 0), .int 0])), (m0, .inr (16, [.int 0, .ref kl, .null, .ref tl]))]) := hD
    have hK : va_K D vwCl [] s := hK
    refine W.widen (k := 0) (n := 0) (Nat.le_of_ble_eq_true rfl) (Nat.le_of_ble_eq_true rfl) ?_
    have hw_24 := hw
    refine lv_if_eq (tgt := 49) hx hb dX9_kind_27 (by decide) (fun c_27 => ?_) (fun c_27 => ?_)
    · refine lv_iconst (v := 1) hx hb dX9_kind_49 (by decide) ?_
      refine lv_goto (tgt := 54) hx hb dX9_kind_50 (by decide) ?_
      refine lv_istore (lv' := [(5, .int 1), (0, .ref m0), (1, .int p0), (2, .int p1), (3, .int p2), (4, .int p3)]) hx hb dX9_kind_54 hl (by decide) rfl (fun ls hl => ?_)
      refine lv_aload_n hx hb dX9_kind_56 rfl (lv_at hl 1 rfl) ?_
      refine lv_iload hx hb dX9_kind_57 (lv_at hl 0 rfl) ?_
      refine lv_iconst (v := 1) hx hb dX9_kind_59 (by decide) ?_
      have hS0 := hS
      have hFc := va_free (wc := [(m0, .inr (16, [.int 0, .ref kl, .null, .ref tl]))]) hD hS hA [1] rfl
      refine va_calli (va_runV (As := [.int 1, .int 1]) (rest := []) ⟨hx, hb, hml, hown, hts⟩ (c_X9_fails_1 l κ D (H).size (m0) (kl) (tl) ) (cwV 2 hts gd_c_X9_kind_bad_60 rfl rfl rfl (by decide +kernel) ⟨(Nat.le_of_ble_eq_true rfl), (Nat.le_of_ble_eq_true rfl)⟩) (preV hE hK hP hD hS hA [1] rfl (by decide) [] rfl (va_recv hK hP (ci := 16) (q0 := 1) rfl rfl)) rfl rfl hl.1 rfl (lv_room (Nat.le_of_ble_eq_true rfl)) dX9_kind_60 ⟨(Nat.le_of_ble_eq_true rfl), (Nat.le_of_ble_eq_true rfl)⟩) hS (fun q _ h => hFc q h) hFc (fun r_5 u t H1 locs ht hvm hw hB hz1 hk1 hS => ?_)
      try dsimp only at hw
      obtain ⟨hP, hD, hK⟩ := jn (wc := [(m0, .inr (16, [.int 0, .ref kl, .null, .ref tl]))]) (wr := [(kl, .inr (6, [.int 0, .ref (κ 0), .int 0]))]) (w1 := [(m0, .inr (16, [.int 1, .ref kl, .null, .ref tl]))]) (t1 := []) hP hD hK hS0 hA [1] [0] rfl rfl (by decide) (by decide) ht hvm hk1 hB
      generalize H1 = H at hP hS ⊢
      have hP : va_P D vwCl ([(kl, .inr (6, [.int 0, .ref (κ 0), .int 0])), (m0, .inr (16, [.int 1, .ref kl, .null, .ref tl]))]) H := hP
      have hD : va_D A ([(kl, .inr (6, [.int 0, .ref (κ 0), .int 0])), (m0, .inr (16, [.int 1, .ref kl, .null, .ref tl]))]) := hD
      have hK : va_K D vwCl [] s := hK
      refine W.widen (k := 0) (n := 0) (Nat.le_of_ble_eq_true rfl) (Nat.le_of_ble_eq_true rfl) ?_
      subst hw
      refine lv_if_ne (tgt := 93) hx hb dX9_kind_63 (by decide) (fun _ => ?_) (fun c_63 => absurd c_63 (by decide))
      refine lv_iconst (v := (-1)) hx hb dX9_kind_93 (by decide) ?_
      refine W.widen (k := 0) (n := 0) (Nat.le_of_ble_eq_true rfl) (Nat.le_of_ble_eq_true rfl) ?_
      exact W.iret (v := (-1)) hx hb hr (fun t ht hW => ⟨⟨(-1), (), rfl, trivial, PB.at hP hK hD hW.alike ht [1] rfl (by decide) [] rfl⟩, hS.F ht⟩) hS.2.2 dX9_kind_94
    · refine va_ldcS hx hb hown hE.srp dX9_kind_30 ?_
      refine lv_iload_n hx hb dX9_kind_32 rfl (lv_at hl 3 rfl) ?_
      have hS0 := hS
      have hFc := va_free (wc := []) hD hS hA [] rfl
      refine va_calli (va_runV (As := [.int p2]) (rest := []) ⟨hx, hb, hml, hown, hts⟩ (c_ix_0 l κ D (H).size (p2) ) (cwV 1 hts gd_c_X9_kind_bad_33 rfl rfl rfl (by decide +kernel) ⟨(Nat.le_of_ble_eq_true rfl), (Nat.le_of_ble_eq_true rfl)⟩) (preV hE hK hP hD hS hA [] rfl (by decide) [] rfl (vk_recv hE.ss (i := 0) (by decide) hS)) rfl rfl hl.1 rfl (lv_room (Nat.le_of_ble_eq_true rfl)) dX9_kind_33 ⟨(Nat.le_of_ble_eq_true rfl), (Nat.le_of_ble_eq_true rfl)⟩) hS (fun q _ h => hFc q h) hFc (fun r_6 u t H1 locs ht hvm hw hB hz1 hk1 hS => ?_)
      try dsimp only at hw
      obtain ⟨hP, hD, hK⟩ := jn (wc := []) (wr := [(kl, .inr (6, [.int 0, .ref (κ 0), .int 0])), (m0, .inr (16, [.int 0, .ref kl, .null, .ref tl]))]) (w1 := []) (t1 := []) hP hD hK hS0 hA [] [0, 1] rfl rfl (by decide) (by decide) ht hvm hk1 hB
      generalize H1 = H at hP hS ⊢
      have hP : va_P D vwCl ([(kl, .inr (6, [.int 0, .ref (κ 0), .int 0])), (m0, .inr (16, [.int 0, .ref kl, .null, .ref tl]))]) H := hP
      have hD : va_D A ([(kl, .inr (6, [.int 0, .ref (κ 0), .int 0])), (m0, .inr (16, [.int 0, .ref kl, .null, .ref tl]))]) := hD
      have hK : va_K D vwCl [] s := hK
      refine W.widen (k := 0) (n := 0) (Nat.le_of_ble_eq_true rfl) (Nat.le_of_ble_eq_true rfl) ?_
      have hw_33 := hw
      refine lv_if_lt (tgt := 49) hx hb dX9_kind_36 (by decide) (fun c_36 => ?_) (fun c_36 => ?_)
      · refine lv_iconst (v := 1) hx hb dX9_kind_49 (by decide) ?_
        refine lv_goto (tgt := 54) hx hb dX9_kind_50 (by decide) ?_
        refine lv_istore (lv' := [(5, .int 1), (0, .ref m0), (1, .int p0), (2, .int p1), (3, .int p2), (4, .int p3)]) hx hb dX9_kind_54 hl (by decide) rfl (fun ls hl => ?_)
        refine lv_aload_n hx hb dX9_kind_56 rfl (lv_at hl 1 rfl) ?_
        refine lv_iload hx hb dX9_kind_57 (lv_at hl 0 rfl) ?_
        refine lv_iconst (v := 1) hx hb dX9_kind_59 (by decide) ?_
        have hS0 := hS
        have hFc := va_free (wc := [(m0, .inr (16, [.int 0, .ref kl, .null, .ref tl]))]) hD hS hA [1] rfl
        refine va_calli (va_runV (As := [.int 1, .int 1]) (rest := []) ⟨hx, hb, hml, hown, hts⟩ (c_X9_fails_1 l κ D (H).size (m0) (kl) (tl) ) (cwV 2 hts gd_c_X9_kind_bad_60 rfl rfl rfl (by decide +kernel) ⟨(Nat.le_of_ble_eq_true rfl), (Nat.le_of_ble_eq_true rfl)⟩) (preV hE hK hP hD hS hA [1] rfl (by decide) [] rfl (va_recv hK hP (ci := 16) (q0 := 1) rfl rfl)) rfl rfl hl.1 rfl (lv_room (Nat.le_of_ble_eq_true rfl)) dX9_kind_60 ⟨(Nat.le_of_ble_eq_true rfl), (Nat.le_of_ble_eq_true rfl)⟩) hS (fun q _ h => hFc q h) hFc (fun r_7 u t H1 locs ht hvm hw hB hz1 hk1 hS => ?_)
        try dsimp only at hw
        obtain ⟨hP, hD, hK⟩ := jn (wc := [(m0, .inr (16, [.int 0, .ref kl, .null, .ref tl]))]) (wr := [(kl, .inr (6, [.int 0, .ref (κ 0), .int 0]))]) (w1 := [(m0, .inr (16, [.int 1, .ref kl, .null, .ref tl]))]) (t1 := []) hP hD hK hS0 hA [1] [0] rfl rfl (by decide) (by decide) ht hvm hk1 hB
        generalize H1 = H at hP hS ⊢
        have hP : va_P D vwCl ([(kl, .inr (6, [.int 0, .ref (κ 0), .int 0])), (m0, .inr (16, [.int 1, .ref kl, .null, .ref tl]))]) H := hP
        have hD : va_D A ([(kl, .inr (6, [.int 0, .ref (κ 0), .int 0])), (m0, .inr (16, [.int 1, .ref kl, .null, .ref tl]))]) := hD
        have hK : va_K D vwCl [] s := hK
        refine W.widen (k := 0) (n := 0) (Nat.le_of_ble_eq_true rfl) (Nat.le_of_ble_eq_true rfl) ?_
        subst hw
        refine lv_if_ne (tgt := 93) hx hb dX9_kind_63 (by decide) (fun _ => ?_) (fun c_63 => absurd c_63 (by decide))
        refine lv_iconst (v := (-1)) hx hb dX9_kind_93 (by decide) ?_
        refine W.widen (k := 0) (n := 0) (Nat.le_of_ble_eq_true rfl) (Nat.le_of_ble_eq_true rfl) ?_
        exact W.iret (v := (-1)) hx hb hr (fun t ht hW => ⟨⟨(-1), (), rfl, trivial, PB.at hP hK hD hW.alike ht [1] rfl (by decide) [] rfl⟩, hS.F ht⟩) hS.2.2 dX9_kind_94
      · refine va_ldcS hx hb hown hE.noce dX9_kind_39 ?_
        refine lv_iload hx hb dX9_kind_41 (lv_at hl 4 rfl) ?_
        have hS0 := hS
        have hFc := va_free (wc := []) hD hS hA [] rfl
        refine va_calli (va_runV (As := [.int p3]) (rest := []) ⟨hx, hb, hml, hown, hts⟩ (c_ix_1 l κ D (H).size (p3) ) (cwV 1 hts gd_c_X9_kind_bad_43 rfl rfl rfl (by decide +kernel) ⟨(Nat.le_of_ble_eq_true rfl), (Nat.le_of_ble_eq_true rfl)⟩) (preV hE hK hP hD hS hA [] rfl (by decide) [] rfl (vk_recv hE.ss (i := 1) (by decide) hS)) rfl rfl hl.1 rfl (lv_room (Nat.le_of_ble_eq_true rfl)) dX9_kind_43 ⟨(Nat.le_of_ble_eq_true rfl), (Nat.le_of_ble_eq_true rfl)⟩) hS (fun q _ h => hFc q h) hFc (fun r_8 u t H1 locs ht hvm hw hB hz1 hk1 hS => ?_)
        try dsimp only at hw
        obtain ⟨hP, hD, hK⟩ := jn (wc := []) (wr := [(kl, .inr (6, [.int 0, .ref (κ 0), .int 0])), (m0, .inr (16, [.int 0, .ref kl, .null, .ref tl]))]) (w1 := []) (t1 := []) hP hD hK hS0 hA [] [0, 1] rfl rfl (by decide) (by decide) ht hvm hk1 hB
        generalize H1 = H at hP hS ⊢
        have hP : va_P D vwCl ([(kl, .inr (6, [.int 0, .ref (κ 0), .int 0])), (m0, .inr (16, [.int 0, .ref kl, .null, .ref tl]))]) H := hP
        have hD : va_D A ([(kl, .inr (6, [.int 0, .ref (κ 0), .int 0])), (m0, .inr (16, [.int 0, .ref kl, .null, .ref tl]))]) := hD
        have hK : va_K D vwCl [] s := hK
        refine W.widen (k := 0) (n := 0) (Nat.le_of_ble_eq_true rfl) (Nat.le_of_ble_eq_true rfl) ?_
        have hw_43 := hw
        refine lv_if_ge (tgt := 53) hx hb dX9_kind_46 (by decide) (fun c_46 => absurd ⟨ifn hw_12 c_15, ifn hw_24 c_27, Decidable.not_not.mp (fun q => c_36 (hw_33.mpr q)), Decidable.not_not.mp (fun q => absurd c_46 (Int32.not_le.mpr (hw_43.mpr q)))⟩ hbad) (fun c_46 => ?_)
        refine lv_iconst (v := 1) hx hb dX9_kind_49 (by decide) ?_
        refine lv_goto (tgt := 54) hx hb dX9_kind_50 (by decide) ?_
        refine lv_istore (lv' := [(5, .int 1), (0, .ref m0), (1, .int p0), (2, .int p1), (3, .int p2), (4, .int p3)]) hx hb dX9_kind_54 hl (by decide) rfl (fun ls hl => ?_)
        refine lv_aload_n hx hb dX9_kind_56 rfl (lv_at hl 1 rfl) ?_
        refine lv_iload hx hb dX9_kind_57 (lv_at hl 0 rfl) ?_
        refine lv_iconst (v := 1) hx hb dX9_kind_59 (by decide) ?_
        have hS0 := hS
        have hFc := va_free (wc := [(m0, .inr (16, [.int 0, .ref kl, .null, .ref tl]))]) hD hS hA [1] rfl
        refine va_calli (va_runV (As := [.int 1, .int 1]) (rest := []) ⟨hx, hb, hml, hown, hts⟩ (c_X9_fails_1 l κ D (H).size (m0) (kl) (tl) ) (cwV 2 hts gd_c_X9_kind_bad_60 rfl rfl rfl (by decide +kernel) ⟨(Nat.le_of_ble_eq_true rfl), (Nat.le_of_ble_eq_true rfl)⟩) (preV hE hK hP hD hS hA [1] rfl (by decide) [] rfl (va_recv hK hP (ci := 16) (q0 := 1) rfl rfl)) rfl rfl hl.1 rfl (lv_room (Nat.le_of_ble_eq_true rfl)) dX9_kind_60 ⟨(Nat.le_of_ble_eq_true rfl), (Nat.le_of_ble_eq_true rfl)⟩) hS (fun q _ h => hFc q h) hFc (fun r_9 u t H1 locs ht hvm hw hB hz1 hk1 hS => ?_)
        try dsimp only at hw
        obtain ⟨hP, hD, hK⟩ := jn (wc := [(m0, .inr (16, [.int 0, .ref kl, .null, .ref tl]))]) (wr := [(kl, .inr (6, [.int 0, .ref (κ 0), .int 0]))]) (w1 := [(m0, .inr (16, [.int 1, .ref kl, .null, .ref tl]))]) (t1 := []) hP hD hK hS0 hA [1] [0] rfl rfl (by decide) (by decide) ht hvm hk1 hB
        generalize H1 = H at hP hS ⊢
        have hP : va_P D vwCl ([(kl, .inr (6, [.int 0, .ref (κ 0), .int 0])), (m0, .inr (16, [.int 1, .ref kl, .null, .ref tl]))]) H := hP
        have hD : va_D A ([(kl, .inr (6, [.int 0, .ref (κ 0), .int 0])), (m0, .inr (16, [.int 1, .ref kl, .null, .ref tl]))]) := hD
        have hK : va_K D vwCl [] s := hK
        refine W.widen (k := 0) (n := 0) (Nat.le_of_ble_eq_true rfl) (Nat.le_of_ble_eq_true rfl) ?_
        subst hw
        refine lv_if_ne (tgt := 93) hx hb dX9_kind_63 (by decide) (fun _ => ?_) (fun c_63 => absurd c_63 (by decide))
        refine lv_iconst (v := (-1)) hx hb dX9_kind_93 (by decide) ?_
        refine W.widen (k := 0) (n := 0) (Nat.le_of_ble_eq_true rfl) (Nat.le_of_ble_eq_true rfl) ?_
        exact W.iret (v := (-1)) hx hb hr (fun t ht hW => ⟨⟨(-1), (), rfl, trivial, PB.at hP hK hD hW.alike ht [1] rfl (by decide) [] rfl⟩, hS.F ht⟩) hS.2.2 dX9_kind_94

def wm_c_valueOf : List Cond := .code yJ6_valueOf_2dffe cJ6_valueOf_2dffe 1 (some (.object "java/lang/Integer")) :: ([.fieldLink RJ6 191 "java/lang/Integer$IntegerCache" "high" "I", .fieldLink RJ6 195 "java/lang/Integer$IntegerCache" "cache" "[Ljava/lang/Integer;"])
set_option maxHeartbeats 4000000 in
set_option maxRecDepth 100000 in
theorem c_valueOf (l : Launch) (κ : Nat → Nat) (D : va_G) (sz : Nat) (p0 : Int32) (kk : Nat) (e0 : p0 = nI kk) (hkk : kk < 10) : Met l yJ6_valueOf_2dffe wm_c_valueOf ({ frames := 8, cells := 0, slots := 0, locals := 200 }) (va_Pc [.int p0] (PC κ D [] [] sz)) (va_Qr (fun _ : Unit => True) (fun _ ra t => ∃ (jj : Nat), (ra = κ (10 + jj) ∧ jj < 256) ∧ PB D [] [] (va_A [] sz) t) (va_A [] sz)) 0 0 (va_A [] sz) := by
  refine Met.ofW (cc := cJ6_valueOf_2dffe) (maxL := 1) (ret := (some (.object "java/lang/Integer"))) (by decide +kernel) rfl ?_
  intro p e s m args below meth c s₁ B hml hv
  obtain ⟨rfl, hsz, hP, hK, hD0, hE⟩ := hv
  have hx := B.exec
  have hb := B.bytes
  have hr := B.returns
  have hts := atoms_spec (ws := wm_c_valueOf) B.pre
  have hown : s.vm.findClass RJ6 = some m.cls := findClass_of_methodNamed B.named
  have hlocks := B.notSynchronized
  subst hsz
  have hD := hD0.self (sz := s.heap.size)
  generalize hAe : va_A [] s.heap.size = A at hD hE ⊢
  have hA : ∀ q : Nat, s.heap.size ≤ q → A q := fun q h => by rw [← hAe]; exact Or.inr h
  have hS : va_S A s.heap s.heap [] := va_S.rf
  have hl := lv_entry ([.int p0]) (n := 1) (Nat.le_of_ble_eq_true rfl)
  rw [lg_entry_eq]
  generalize (lg_sl ([.int p0]) ++ List.replicate (1 - (lg_sl ([.int p0])).length) Slot.unset).toArray = ls at hl ⊢
  have hl : lv_has ls 1 [(0, .int p0)] := hl
  refine lv_iload_n hx hb dJ6_valueOf_2dffe_0 rfl (lv_at hl 0 rfl) ?_
  refine lv_bipush (v := (-128)) hx hb dJ6_valueOf_2dffe_1 (by decide) ?_
  refine lv_icmp_lt (tgt := 23) hx hb dJ6_valueOf_2dffe_3 (by decide) (fun c_3 => absurd c_3 (by rw [e0]; exact fun q => absurd (Int32.lt_iff_toInt_lt.mp q) (by rw [nI_toInt (by omega), show (-128 : Int32).toInt = -128 from by decide]; omega))) (fun c_3 => ?_)
  refine lv_iload_n hx hb dJ6_valueOf_2dffe_6 rfl (lv_at hl 0 rfl) ?_
  refine va_gets hx hb hE.ih hS hown (hts (.fieldLink RJ6 191 "java/lang/Integer$IntegerCache" "high" "I") (by decide +kernel)) (fun _ h9 => h9) dJ6_valueOf_2dffe_7 ?_
  refine lv_icmp_gt (tgt := 23) hx hb dJ6_valueOf_2dffe_10 (by decide) (fun c_10 => absurd c_10 (by rw [e0]; exact (show ¬ nI 127 < nI kk from nI_nlt (by omega) (by omega)))) (fun c_10 => ?_)
  refine va_gets hx hb hE.ic hS hown (hts (.fieldLink RJ6 195 "java/lang/Integer$IntegerCache" "cache" "[Ljava/lang/Integer;") (by decide +kernel)) (fun _ h9 => h9) dJ6_valueOf_2dffe_13 ?_
  refine lv_iload_n hx hb dJ6_valueOf_2dffe_16 rfl (lv_at hl 0 rfl) ?_
  refine lv_sipush (v := 128) hx hb dJ6_valueOf_2dffe_17 (by decide) ?_
  refine lv_iadd hx hb dJ6_valueOf_2dffe_20 ?_
  refine lv_topi (fun v_1 ev_1 => ?_)
  have ev_1 : v_1 = (nI (kk + 128)) := ev_1.trans (by rw [e0]; exact nI_add kk 128)
  subst ev_1
  refine vb_tq (v := .ref (κ (10 + (kk + 128)))) hx hb hE.it hS (vp_in_nI (by omega) (by omega)) (by rw [nI_clamp (show kk + 128 < 2 ^ 31 by omega)]) dJ6_valueOf_2dffe_21 ?_
  refine W.widen (k := 0) (n := 0) (Nat.le_of_ble_eq_true rfl) (Nat.le_of_ble_eq_true rfl) ?_
  exact W.aret hx hb hr (Or.inl ⟨_, rfl⟩) (Or.inr ⟨_, rfl⟩) (fun t ht hW => ⟨⟨(), (κ (10 + (kk + 128))), rfl, trivial, (kk + 128), ⟨rfl, by omega⟩, PB.at hP hK hD hW.alike ht [] rfl (by decide) [] rfl⟩, hS.F ht⟩) hS.2.2 dJ6_valueOf_2dffe_22

def wm_c_X9_type_ok : List Cond := .code yX9_type cX9_type 2 (some .int) :: ([.code yX9_begins cX9_begins 1 none, .fieldLink RX9 19 "SowingcourtModel" "thrown" "I", .methodLink RX9 33 yX9_begins, .instanceMethod yX9_begins, .selects RX9 yX9_begins yX9_begins, .initialized RX9, .constantLong RX9 136 (9), .code yX9_in cX9_in 6 (some .boolean), .methodLink RX9 29 yX9_in, .static yX9_in, .code yX9_fails cX9_fails 3 (some .boolean), .methodLink RX9 50 yX9_fails, .instanceMethod yX9_fails, .selects RX9 yX9_fails yX9_fails, .fieldLink RX9 16 "SowingcourtModel" "typed" "Ljava/util/List;", .code yJx4a65c_size_8abf5 cJx4a65c_size_8abf5 1 (some .int), .fieldLink RJx4a65c 48 "java/util/ArrayList" "size" "I", .methodLink RX9 23 ⟨"java/util/List", "size", "()I"⟩, .selects RJx4a65c ⟨"java/util/List", "size", "()I"⟩ yJx4a65c_size_8abf5, .instanceMethod yJx4a65c_size_8abf5, .initialized RJx4a65c, .code yJ6_valueOf_2dffe cJ6_valueOf_2dffe 1 (some (.object "java/lang/Integer")), .fieldLink RJ6 191 "java/lang/Integer$IntegerCache" "high" "I", .fieldLink RJ6 195 "java/lang/Integer$IntegerCache" "cache" "[Ljava/lang/Integer;", .methodLink RX9 228 yJ6_valueOf_2dffe, .static yJ6_valueOf_2dffe, .initialized RJ6, .code yJx4a65c_add_9ea2d cJx4a65c_add_9ea2d 2 (some .boolean), .sameField "java/util/ArrayList" "java/util/AbstractList" "modCount" "I", .fieldLink RJx4a65c 63 "java/util/ArrayList" "modCount" "I", .fieldLink RJx4a65c 9 "java/util/ArrayList" "elementData" "[Ljava/lang/Object;", .code yJx4a65c_add_72be8 cJx4a65c_add_72be8 4 none, .code yJx4a65c_grow_d5877 cJx4a65c_grow_d5877 1 (some (.array (.object "java/lang/Object"))), .code yJx4a65c_grow_92f84 cJx4a65c_grow_92f84 4 (some (.array (.object "java/lang/Object"))), .fieldLink RJx4a65c 39 "java/util/ArrayList" "DEFAULTCAPACITY_EMPTY_ELEMENTDATA" "[Ljava/lang/Object;", .methodLink RJx4a65c 79 Lib.Math.max.name, .static Lib.Math.max.name, .initialized "java/lang/Math", .code Lib.Math.max.name Lib.Math.max.code 2 (some .int), .classLink RJx4a65c 7 "java/lang/Object", .methodLink RJx4a65c 69 yJx4a65c_grow_92f84, .instanceMethod yJx4a65c_grow_92f84, .selects RJx4a65c yJx4a65c_grow_92f84 yJx4a65c_grow_92f84, .methodLink RJx4a65c 129 yJx4a65c_grow_d5877, .instanceMethod yJx4a65c_grow_d5877, .selects RJx4a65c yJx4a65c_grow_d5877 yJx4a65c_grow_d5877, .methodLink RJx4a65c 131 yJx4a65c_add_72be8, .instanceMethod yJx4a65c_add_72be8, .selects RJx4a65c yJx4a65c_add_72be8 yJx4a65c_add_72be8, .methodLink RX9 70 ⟨"java/util/List", "add", "(Ljava/lang/Object;)Z"⟩, .selects RJx4a65c ⟨"java/util/List", "add", "(Ljava/lang/Object;)Z"⟩ yJx4a65c_add_9ea2d, .instanceMethod yJx4a65c_add_9ea2d] ++ wsX90 ++ wsJx4a65c0)
set_option maxRecDepth 20000 in
theorem gd_c_X9_type_ok_1 : GoodIn wm_c_X9_type_ok (wsV RX9 33 RX9 yX9_begins wm_c_X9_begins) := goodIn_of _ (by decide +kernel)
set_option maxRecDepth 20000 in
theorem gd_c_X9_type_ok_11 : GoodIn wm_c_X9_type_ok (va_wsS RX9 29 yX9_in wm_c_X9_in) := goodIn_of _ (by decide +kernel)
set_option maxRecDepth 20000 in
theorem gd_c_X9_type_ok_23 : GoodIn wm_c_X9_type_ok (wsV RX9 50 RX9 yX9_fails wm_c_X9_fails_n) := goodIn_of _ (by decide +kernel)
set_option maxRecDepth 20000 in
theorem gd_c_X9_type_ok_34 : GoodIn wm_c_X9_type_ok (va_wsF RX9 23 RJx4a65c ⟨"java/util/List", "size", "()I"⟩ yJx4a65c_size_8abf5 wm_c_JAL_size) := goodIn_of _ (by decide +kernel)
set_option maxRecDepth 20000 in
theorem gd_c_X9_type_ok_50 : GoodIn wm_c_X9_type_ok (wsV RX9 50 RX9 yX9_fails wm_c_X9_fails_n) := goodIn_of _ (by decide +kernel)
set_option maxRecDepth 20000 in
theorem gd_c_X9_type_ok_63 : GoodIn wm_c_X9_type_ok (va_wsS RX9 228 yJ6_valueOf_2dffe wm_c_valueOf) := goodIn_of _ (by decide +kernel)
set_option maxRecDepth 20000 in
theorem gd_c_X9_type_ok_66 : GoodIn wm_c_X9_type_ok (va_wsF RX9 70 RJx4a65c ⟨"java/util/List", "add", "(Ljava/lang/Object;)Z"⟩ yJx4a65c_add_9ea2d wm_c_add1_I) := goodIn_of _ (by decide +kernel)
set_option maxRecDepth 20000 in
theorem gd_c_X9_type_ok_76 : GoodIn wm_c_X9_type_ok (va_wsF RX9 23 RJx4a65c ⟨"java/util/List", "size", "()I"⟩ yJx4a65c_size_8abf5 wm_c_JAL_size) := goodIn_of _ (by decide +kernel)
set_option maxHeartbeats 4000000 in
set_option maxRecDepth 100000 in
theorem c_X9_type_ok (l : Launch) (κ : Nat → Nat) (D : va_G) (sz : Nat) (m0 : Nat) (kl : Nat) (tl : Nat) (p0 : Int32) (kk : Nat) (e0 : p0 = nI kk) (hkk : kk < 10) : Met l yX9_type wm_c_X9_type_ok ({ frames := 12, cells := 1, slots := 10, locals := 440 }) (va_Pc [.ref m0, .int p0] (PC κ D [] [(m0, .inr (16, [.int 0, .ref kl, .null, .ref tl])), (tl, .inr (6, [.int 0, .ref (κ 0), .int 0]))] sz)) (va_Qi (fun (r : Int32) (_ : Unit) => r = 1) (fun _ t => PB D [] [(m0, .inr (16, [.int 0, .ref kl, .null, .ref tl]))] (va_A [(m0, .inr (16, [.int 0, .ref kl, .null, .ref tl])), (tl, .inr (6, [.int 0, .ref (κ 0), .int 0]))] sz) t) (va_A [(m0, .inr (16, [.int 0, .ref kl, .null, .ref tl])), (tl, .inr (6, [.int 0, .ref (κ 0), .int 0]))] sz)) 1 10 (va_A [(m0, .inr (16, [.int 0, .ref kl, .null, .ref tl])), (tl, .inr (6, [.int 0, .ref (κ 0), .int 0]))] sz) := by
  refine Met.ofW (cc := cX9_type) (maxL := 2) (ret := (some .int)) (by decide +kernel) rfl ?_
  intro p e s m args below meth c s₁ B hml hv
  obtain ⟨rfl, hsz, hP, hK, hD0, hE⟩ := hv
  have hx := B.exec
  have hb := B.bytes
  have hr := B.returns
  have hts := atoms_spec (ws := wm_c_X9_type_ok) B.pre
  have hown : s.vm.findClass RX9 = some m.cls := findClass_of_methodNamed B.named
  have hlocks := B.notSynchronized
  have iRX9 : ∀ w ∈ u_ws RX9 TX9 4, w ∈ wm_c_X9_type_ok := by decide +kernel
  have iRJx4a65c : ∀ w ∈ u_ws RJx4a65c TJx4a65c 3, w ∈ wm_c_X9_type_ok := by decide +kernel
  subst hsz
  have hD := hD0.self (sz := s.heap.size)
  generalize hAe : va_A [(m0, .inr (16, [.int 0, .ref kl, .null, .ref tl])), (tl, .inr (6, [.int 0, .ref (κ 0), .int 0]))] s.heap.size = A at hD hE ⊢
  have hA : ∀ q : Nat, s.heap.size ≤ q → A q := fun q h => by rw [← hAe]; exact Or.inr h
  have hS : va_S A s.heap s.heap [] := va_S.rf
  have hl := lv_entry ([.ref m0, .int p0]) (n := 2) (Nat.le_of_ble_eq_true rfl)
  rw [lg_entry_eq]
  generalize (lg_sl ([.ref m0, .int p0]) ++ List.replicate (2 - (lg_sl ([.ref m0, .int p0])).length) Slot.unset).toArray = ls at hl ⊢
  have hl : lv_has ls 2 [(0, .ref m0), (1, .int p0)] := hl
  refine lv_aload_n hx hb dX9_type_0 rfl (lv_at hl 0 rfl) ?_
  have hS0 := hS
  have hFc := va_free (wc := [(m0, .inr (16, [.int 0, .ref kl, .null, .ref tl]))]) hD hS hA [0] rfl
  refine va_callv (va_runV (As := []) (rest := []) ⟨hx, hb, hml, hown, hts⟩ (c_X9_begins l κ D (s.heap).size (m0) (kl) (tl) (0) ) (cwV 0 hts gd_c_X9_type_ok_1 rfl rfl rfl (by decide +kernel) ⟨(Nat.le_of_ble_eq_true rfl), (Nat.le_of_ble_eq_true rfl)⟩) (preV hE hK hP hD hS hA [0] rfl (by decide) [] rfl (va_recv hK hP (ci := 16) (q0 := 0) rfl rfl)) rfl rfl hl.1 rfl (lv_room (Nat.le_of_ble_eq_true rfl)) dX9_type_1 ⟨(Nat.le_of_ble_eq_true rfl), (Nat.le_of_ble_eq_true rfl)⟩) hS (fun q _ h => hFc q h) hFc (fun u t H1 locs ht hvm hw hB hz1 hk1 hS => ?_)
  try dsimp only at hw
  obtain ⟨hP, hD, hK⟩ := jn (wc := [(m0, .inr (16, [.int 0, .ref kl, .null, .ref tl]))]) (wr := [(tl, .inr (6, [.int 0, .ref (κ 0), .int 0]))]) (w1 := [(m0, .inr (16, [.int 0, .ref kl, .null, .ref tl]))]) (t1 := []) hP hD hK hS0 hA [0] [1] rfl rfl (by decide) (by decide) ht hvm hk1 hB
  generalize H1 = H at hP hS ⊢
  have hP : va_P D vwCl ([(tl, .inr (6, [.int 0, .ref (κ 0), .int 0])), (m0, .inr (16, [.int 0, .ref kl, .null, .ref tl]))]) H := hP
  have hD : va_D A ([(tl, .inr (6, [.int 0, .ref (κ 0), .int 0])), (m0, .inr (16, [.int 0, .ref kl, .null, .ref tl]))]) := hD
  have hK : va_K D vwCl [] s := hK
  refine W.widen (k := 0) (n := 0) (Nat.le_of_ble_eq_true rfl) (Nat.le_of_ble_eq_true rfl) ?_
  refine lv_aload_n hx hb dX9_type_4 rfl (lv_at hl 0 rfl) ?_
  refine lv_iload_n hx hb dX9_type_5 rfl (lv_at hl 1 rfl) ?_
  refine lv_i2l (v := (p0).toInt64) hx hb dX9_type_6 rfl ?_
  refine lv_lconst (v := 0) hx hb dX9_type_7 (by decide) ?_
  refine lv_ldc2 (v := 9) hx hb hown (hts (.constantLong RX9 136 (9)) (by decide +kernel)) dX9_type_8 ?_
  have hS0 := hS
  have hFc := va_free (wc := []) hD hS hA [] rfl
  refine va_calli (va_runS (As := [.long ((p0).toInt64), .long 0, .long 9]) (rest := [.ref m0]) ⟨hx, hb, hml, hown, hts⟩ (c_X9_in l κ D (H).size (((p0).toInt64)) (0) (9) ) (va_cwS 3 hts gd_c_X9_type_ok_11 rfl rfl rfl (by decide +kernel) ⟨(Nat.le_of_ble_eq_true rfl), (Nat.le_of_ble_eq_true rfl)⟩) (preS hE hK hP hD hS hA [] rfl (by decide) [] rfl) rfl rfl hl.1 rfl (lv_room (Nat.le_of_ble_eq_true rfl)) dX9_type_11 ⟨(Nat.le_of_ble_eq_true rfl), (Nat.le_of_ble_eq_true rfl)⟩) hS (fun q _ h => hFc q h) hFc (fun r_2 u t H1 locs ht hvm hw hB hz1 hk1 hS => ?_)
  try dsimp only at hw
  obtain ⟨hP, hD, hK⟩ := jn (wc := []) (wr := [(tl, .inr (6, [.int 0, .ref (κ 0), .int 0])), (m0, .inr (16, [.int 0, .ref kl, .null, .ref tl]))]) (w1 := []) (t1 := []) hP hD hK hS0 hA [] [0, 1] rfl rfl (by decide) (by decide) ht hvm hk1 hB
  generalize H1 = H at hP hS ⊢
  have hP : va_P D vwCl ([(tl, .inr (6, [.int 0, .ref (κ 0), .int 0])), (m0, .inr (16, [.int 0, .ref kl, .null, .ref tl]))]) H := hP
  have hD : va_D A ([(tl, .inr (6, [.int 0, .ref (κ 0), .int 0])), (m0, .inr (16, [.int 0, .ref kl, .null, .ref tl]))]) := hD
  have hK : va_K D vwCl [] s := hK
  refine W.widen (k := 0) (n := 0) (Nat.le_of_ble_eq_true rfl) (Nat.le_of_ble_eq_true rfl) ?_
  have hw : r_2 = 1 := hw.trans (if_pos (by rw [e0, nI_l (show kk < 2 ^ 31 by omega), lN_toInt (show kk < 2 ^ 31 by omega)]; exact ⟨by rw [show (0 : Int64).toInt = 0 from by decide]; omega, by rw [show (9 : Int64).toInt = 9 from by decide]; omega⟩))
  subst hw
  refine lv_if_ne (tgt := 21) hx hb dX9_type_14 (by decide) (fun _ => ?_) (fun c_14 => absurd c_14 (by decide))
  refine lv_iconst (v := 0) hx hb dX9_type_21 (by decide) ?_
  refine lv_iconst (v := 1) hx hb dX9_type_22 (by decide) ?_
  have hS0 := hS
  have hFc := va_free (wc := [(m0, .inr (16, [.int 0, .ref kl, .null, .ref tl]))]) hD hS hA [1] rfl
  refine va_calli (va_runV (As := [.int 0, .int 1]) (rest := []) ⟨hx, hb, hml, hown, hts⟩ (c_X9_fails_n l κ D (H).size (m0) (kl) (tl) (1) ) (cwV 2 hts gd_c_X9_type_ok_23 rfl rfl rfl (by decide +kernel) ⟨(Nat.le_of_ble_eq_true rfl), (Nat.le_of_ble_eq_true rfl)⟩) (preV hE hK hP hD hS hA [1] rfl (by decide) [] rfl (va_recv hK hP (ci := 16) (q0 := 1) rfl rfl)) rfl rfl hl.1 rfl (lv_room (Nat.le_of_ble_eq_true rfl)) dX9_type_23 ⟨(Nat.le_of_ble_eq_true rfl), (Nat.le_of_ble_eq_true rfl)⟩) hS (fun q _ h => hFc q h) hFc (fun r_3 u t H1 locs ht hvm hw hB hz1 hk1 hS => ?_)
  try dsimp only at hw
  obtain ⟨hP, hD, hK⟩ := jn (wc := [(m0, .inr (16, [.int 0, .ref kl, .null, .ref tl]))]) (wr := [(tl, .inr (6, [.int 0, .ref (κ 0), .int 0]))]) (w1 := [(m0, .inr (16, [.int 0, .ref kl, .null, .ref tl]))]) (t1 := []) hP hD hK hS0 hA [1] [0] rfl rfl (by decide) (by decide) ht hvm hk1 hB
  generalize H1 = H at hP hS ⊢
  have hP : va_P D vwCl ([(tl, .inr (6, [.int 0, .ref (κ 0), .int 0])), (m0, .inr (16, [.int 0, .ref kl, .null, .ref tl]))]) H := hP
  have hD : va_D A ([(tl, .inr (6, [.int 0, .ref (κ 0), .int 0])), (m0, .inr (16, [.int 0, .ref kl, .null, .ref tl]))]) := hD
  have hK : va_K D vwCl [] s := hK
  refine W.widen (k := 0) (n := 0) (Nat.le_of_ble_eq_true rfl) (Nat.le_of_ble_eq_true rfl) ?_
  subst hw
  refine lv_if_ne (tgt := 56) hx hb dX9_type_26 (by decide) (fun c_26 => absurd c_26 (by decide)) (fun _ => ?_)
  refine lv_aload_n hx hb dX9_type_29 rfl (lv_at hl 0 rfl) ?_
  refine lv_aload_n hx hb dX9_type_30 rfl (lv_at hl 0 rfl) ?_
  refine va_get (D := D) (ci := 16) (v := .ref tl) (C := RX9) (T := TX9) (N := 4) hx hb hts iRX9 hown hK hP 1 rfl rfl 3 (by decide) (hts (.fieldLink RX9 16 "SowingcourtModel" "typed" "Ljava/util/List;") (by decide +kernel)) (fun _ h9 => h9) rfl dX9_type_31 ?_
  have hS0 := hS
  have hFc := va_free (wc := [(tl, .inr (6, [.int 0, .ref (κ 0), .int 0]))]) hD hS hA [0] rfl
  refine va_callFi (va_runF (hK.1 6 _ rfl).2 (As := []) (rest := [.ref m0]) ⟨hx, hb, hml, hown, hts⟩ (c_JAL_size l κ D (H).size (tl) (0) (0) ((κ 0)) ) (va_cwF 0 hts gd_c_X9_type_ok_34 rfl rfl rfl hE.fw0 (by decide +kernel) ⟨(Nat.le_of_ble_eq_true rfl), (Nat.le_of_ble_eq_true rfl)⟩) (preV hE hK hP hD hS hA [0] rfl (by decide) [] rfl (va_recv hK hP (ci := 6) (q0 := 0) rfl rfl)) rfl rfl hl.1 rfl (lv_room (Nat.le_of_ble_eq_true rfl)) dX9_type_34 ⟨(Nat.le_of_ble_eq_true rfl), (Nat.le_of_ble_eq_true rfl)⟩) hS (fun q _ h => hFc q h) hFc (fun r_4 u t H1 locs ht hvm hw hB hz1 hk1 hS => ?_)
  try dsimp only at hw
  obtain ⟨hP, hD, hK⟩ := jn (wc := [(tl, .inr (6, [.int 0, .ref (κ 0), .int 0]))]) (wr := [(m0, .inr (16, [.int 0, .ref kl, .null, .ref tl]))]) (w1 := [(tl, .inr (6, [.int 0, .ref (κ 0), .int 0]))]) (t1 := []) hP hD hK hS0 hA [0] [1] rfl rfl (by decide) (by decide) ht hvm hk1 hB
  generalize H1 = H at hP hS ⊢
  have hP : va_P D vwCl ([(m0, .inr (16, [.int 0, .ref kl, .null, .ref tl])), (tl, .inr (6, [.int 0, .ref (κ 0), .int 0]))]) H := hP
  have hD : va_D A ([(m0, .inr (16, [.int 0, .ref kl, .null, .ref tl])), (tl, .inr (6, [.int 0, .ref (κ 0), .int 0]))]) := hD
  have hK : va_K D vwCl [] s := hK
  refine W.widen (k := 0) (n := 0) (Nat.le_of_ble_eq_true rfl) (Nat.le_of_ble_eq_true rfl) ?_
  subst hw
  refine lv_bipush (v := 60) hx hb dX9_type_39 (by decide) ?_
  refine lv_icmp_ne (tgt := 48) hx hb dX9_type_41 (by decide) (fun _ => ?_) (fun c_41 => absurd c_41 (by decide))
  refine lv_iconst (v := 0) hx hb dX9_type_48 (by decide) ?_
  refine lv_iconst (v := 2) hx hb dX9_type_49 (by decide) ?_
  have hS0 := hS
  have hFc := va_free (wc := [(m0, .inr (16, [.int 0, .ref kl, .null, .ref tl]))]) hD hS hA [0] rfl
  refine va_calli (va_runV (As := [.int 0, .int 2]) (rest := []) ⟨hx, hb, hml, hown, hts⟩ (c_X9_fails_n l κ D (H).size (m0) (kl) (tl) (2) ) (cwV 2 hts gd_c_X9_type_ok_50 rfl rfl rfl (by decide +kernel) ⟨(Nat.le_of_ble_eq_true rfl), (Nat.le_of_ble_eq_true rfl)⟩) (preV hE hK hP hD hS hA [0] rfl (by decide) [] rfl (va_recv hK hP (ci := 16) (q0 := 0) rfl rfl)) rfl rfl hl.1 rfl (lv_room (Nat.le_of_ble_eq_true rfl)) dX9_type_50 ⟨(Nat.le_of_ble_eq_true rfl), (Nat.le_of_ble_eq_true rfl)⟩) hS (fun q _ h => hFc q h) hFc (fun r_5 u t H1 locs ht hvm hw hB hz1 hk1 hS => ?_)
  try dsimp only at hw
  obtain ⟨hP, hD, hK⟩ := jn (wc := [(m0, .inr (16, [.int 0, .ref kl, .null, .ref tl]))]) (wr := [(tl, .inr (6, [.int 0, .ref (κ 0), .int 0]))]) (w1 := [(m0, .inr (16, [.int 0, .ref kl, .null, .ref tl]))]) (t1 := []) hP hD hK hS0 hA [0] [1] rfl rfl (by decide) (by decide) ht hvm hk1 hB
  generalize H1 = H at hP hS ⊢
  have hP : va_P D vwCl ([(tl, .inr (6, [.int 0, .ref (κ 0), .int 0])), (m0, .inr (16, [.int 0, .ref kl, .null, .ref tl]))]) H := hP
  have hD : va_D A ([(tl, .inr (6, [.int 0, .ref (κ 0), .int 0])), (m0, .inr (16, [.int 0, .ref kl, .null, .ref tl]))]) := hD
  have hK : va_K D vwCl [] s := hK
  refine W.widen (k := 0) (n := 0) (Nat.le_of_ble_eq_true rfl) (Nat.le_of_ble_eq_true rfl) ?_
  subst hw
  refine lv_if_eq (tgt := 58) hx hb dX9_type_53 (by decide) (fun _ => ?_) (fun c_53 => absurd c_53 (by decide))
  refine lv_aload_n hx hb dX9_type_58 rfl (lv_at hl 0 rfl) ?_
  refine va_get (D := D) (ci := 16) (v := .ref tl) (C := RX9) (T := TX9) (N := 4) hx hb hts iRX9 hown hK hP 1 rfl rfl 3 (by decide) (hts (.fieldLink RX9 16 "SowingcourtModel" "typed" "Ljava/util/List;") (by decide +kernel)) (fun _ h9 => h9) rfl dX9_type_59 ?_
  refine lv_iload_n hx hb dX9_type_62 rfl (lv_at hl 1 rfl) ?_
  have hS0 := hS
  have hFc := va_free (wc := []) hD hS hA [] rfl
  refine va_callr (va_runS (As := [.int p0]) (rest := [.ref tl]) ⟨hx, hb, hml, hown, hts⟩ (c_valueOf l κ D (H).size (p0) (kk) (e0) (hkk)) (va_cwS 1 hts gd_c_X9_type_ok_63 rfl rfl rfl (by decide +kernel) ⟨(Nat.le_of_ble_eq_true rfl), (Nat.le_of_ble_eq_true rfl)⟩) (preS hE hK hP hD hS hA [] rfl (by decide) [] rfl) rfl rfl hl.1 rfl (lv_room (Nat.le_of_ble_eq_true rfl)) dX9_type_63 ⟨(Nat.le_of_ble_eq_true rfl), (Nat.le_of_ble_eq_true rfl)⟩) hS (fun q _ h => hFc q h) hFc (fun u r_6 t H1 locs ht hvm hw hB hz1 hk1 hS => ?_)
  obtain ⟨jj_7, hf_8, hB⟩ := hB
  try dsimp only at hw
  obtain ⟨hP, hD, hK⟩ := jn (wc := []) (wr := [(tl, .inr (6, [.int 0, .ref (κ 0), .int 0])), (m0, .inr (16, [.int 0, .ref kl, .null, .ref tl]))]) (w1 := []) (t1 := []) hP hD hK hS0 hA [] [0, 1] rfl rfl (by decide) (by decide) ht hvm hk1 hB
  generalize H1 = H at hP hS ⊢
  have hP : va_P D vwCl ([(tl, .inr (6, [.int 0, .ref (κ 0), .int 0])), (m0, .inr (16, [.int 0, .ref kl, .null, .ref tl]))]) H := hP
  have hD : va_D A ([(tl, .inr (6, [.int 0, .ref (κ 0), .int 0])), (m0, .inr (16, [.int 0, .ref kl, .null, .ref tl]))]) := hD
  have hK : va_K D vwCl [] s := hK
  refine W.widen (k := 0) (n := 0) (Nat.le_of_ble_eq_true rfl) (Nat.le_of_ble_eq_true rfl) ?_
  obtain ⟨eq9, hj9⟩ := hf_8
  subst eq9
  have hS0 := hS
  have hFc := va_free (wc := [(tl, .inr (6, [.int 0, .ref (κ 0), .int 0]))]) hD hS hA [0] rfl
  refine va_callFi (va_runF (hK.1 6 _ rfl).2 (As := [.ref (κ (10 + jj_7))]) (rest := []) ⟨hx, hb, hml, hown, hts⟩ (c_add1_I l κ D (H).size (tl) (jj_7) (hj9)) (va_cwF 1 hts gd_c_X9_type_ok_66 rfl rfl rfl hE.fw1 (by decide +kernel) ⟨(Nat.le_of_ble_eq_true rfl), (Nat.le_of_ble_eq_true rfl)⟩) (preV hE hK hP hD hS hA [0] rfl (by decide) [] rfl (va_recv hK hP (ci := 6) (q0 := 0) rfl rfl)) rfl rfl hl.1 rfl (lv_room (Nat.le_of_ble_eq_true rfl)) dX9_type_66 ⟨(Nat.le_of_ble_eq_true rfl), (Nat.le_of_ble_eq_true rfl)⟩) hS (fun q _ h => hFc q h) hFc (fun r_9 u t H1 locs ht hvm hw hB hz1 hk1 hS => ?_)
  obtain ⟨ra_10, hB⟩ := hB
  try dsimp only at hw
  obtain ⟨hP, hD, hK⟩ := jn (wc := [(tl, .inr (6, [.int 0, .ref (κ 0), .int 0]))]) (wr := [(m0, .inr (16, [.int 0, .ref kl, .null, .ref tl]))]) (w1 := [(tl, .inr (6, [.int 1, .ref ra_10, .int 1]))]) (t1 := []) hP hD hK hS0 hA [0] [1] rfl rfl (by decide) (by decide) ht hvm hk1 hB
  generalize H1 = H at hP hS ⊢
  have hP : va_P D vwCl ([(m0, .inr (16, [.int 0, .ref kl, .null, .ref tl])), (tl, .inr (6, [.int 1, .ref ra_10, .int 1]))]) H := hP
  have hD : va_D A ([(m0, .inr (16, [.int 0, .ref kl, .null, .ref tl])), (tl, .inr (6, [.int 1, .ref ra_10, .int 1]))]) := hD
  have hK : va_K D vwCl [] s := hK
  refine W.widen (k := 1) (n := 10) (Nat.le_of_ble_eq_true rfl) (Nat.le_of_ble_eq_true rfl) ?_
  subst hw
  refine lv_pop hx hb dX9_type_71 rfl ?_
  refine lv_aload_n hx hb dX9_type_72 rfl (lv_at hl 0 rfl) ?_
  refine va_get (D := D) (ci := 16) (v := .ref tl) (C := RX9) (T := TX9) (N := 4) hx hb hts iRX9 hown hK hP 0 rfl rfl 3 (by decide) (hts (.fieldLink RX9 16 "SowingcourtModel" "typed" "Ljava/util/List;") (by decide +kernel)) (fun _ h9 => h9) rfl dX9_type_73 ?_
  have hS0 := hS
  have hFc := va_free (wc := [(tl, .inr (6, [.int 1, .ref ra_10, .int 1]))]) hD hS hA [1] rfl
  refine va_callFi (va_runF (hK.1 6 _ rfl).2 (As := []) (rest := []) ⟨hx, hb, hml, hown, hts⟩ (c_JAL_size l κ D (H).size (tl) (1) (1) (ra_10) ) (va_cwF 0 hts gd_c_X9_type_ok_76 rfl rfl rfl hE.fw0 (by decide +kernel) ⟨(Nat.le_of_ble_eq_true rfl), (Nat.le_of_ble_eq_true rfl)⟩) (preV hE hK hP hD hS hA [1] rfl (by decide) [] rfl (va_recv hK hP (ci := 6) (q0 := 1) rfl rfl)) rfl rfl hl.1 rfl (lv_room (Nat.le_of_ble_eq_true rfl)) dX9_type_76 ⟨(Nat.le_of_ble_eq_true rfl), (Nat.le_of_ble_eq_true rfl)⟩) hS (fun q _ h => hFc q h) hFc (fun r_11 u t H1 locs ht hvm hw hB hz1 hk1 hS => ?_)
  try dsimp only at hw
  obtain ⟨hP, hD, hK⟩ := jn (wc := [(tl, .inr (6, [.int 1, .ref ra_10, .int 1]))]) (wr := [(m0, .inr (16, [.int 0, .ref kl, .null, .ref tl]))]) (w1 := [(tl, .inr (6, [.int 1, .ref ra_10, .int 1]))]) (t1 := []) hP hD hK hS0 hA [1] [0] rfl rfl (by decide) (by decide) ht hvm hk1 hB
  generalize H1 = H at hP hS ⊢
  have hP : va_P D vwCl ([(m0, .inr (16, [.int 0, .ref kl, .null, .ref tl])), (tl, .inr (6, [.int 1, .ref ra_10, .int 1]))]) H := hP
  have hD : va_D A ([(m0, .inr (16, [.int 0, .ref kl, .null, .ref tl])), (tl, .inr (6, [.int 1, .ref ra_10, .int 1]))]) := hD
  have hK : va_K D vwCl [] s := hK
  refine W.widen (k := 1) (n := 10) (Nat.le_of_ble_eq_true rfl) (Nat.le_of_ble_eq_true rfl) ?_
  subst hw
  refine W.widen (k := 1) (n := 10) (Nat.le_of_ble_eq_true rfl) (Nat.le_of_ble_eq_true rfl) ?_
  exact W.iret (v := 1) hx hb hr (fun t ht hW => ⟨⟨1, (), rfl, rfl, PB.at hP hK hD hW.alike ht [0] rfl (by decide) [] rfl⟩, hS.F ht⟩) hS.2.2 dX9_type_81

def wm_c_X9_type_bad : List Cond := .code yX9_type cX9_type 2 (some .int) :: ([.code yX9_begins cX9_begins 1 none, .fieldLink RX9 19 "SowingcourtModel" "thrown" "I", .methodLink RX9 33 yX9_begins, .instanceMethod yX9_begins, .selects RX9 yX9_begins yX9_begins, .initialized RX9, .constantLong RX9 136 (9), .code yX9_in cX9_in 6 (some .boolean), .methodLink RX9 29 yX9_in, .static yX9_in, .code yX9_fails cX9_fails 3 (some .boolean), .methodLink RX9 50 yX9_fails, .instanceMethod yX9_fails, .selects RX9 yX9_fails yX9_fails] ++ wsX90)
set_option maxRecDepth 20000 in
theorem gd_c_X9_type_bad_1 : GoodIn wm_c_X9_type_bad (wsV RX9 33 RX9 yX9_begins wm_c_X9_begins) := goodIn_of _ (by decide +kernel)
set_option maxRecDepth 20000 in
theorem gd_c_X9_type_bad_11 : GoodIn wm_c_X9_type_bad (va_wsS RX9 29 yX9_in wm_c_X9_in) := goodIn_of _ (by decide +kernel)
set_option maxRecDepth 20000 in
theorem gd_c_X9_type_bad_23 : GoodIn wm_c_X9_type_bad (wsV RX9 50 RX9 yX9_fails wm_c_X9_fails_1) := goodIn_of _ (by decide +kernel)
set_option maxHeartbeats 4000000 in
set_option maxRecDepth 100000 in
theorem c_X9_type_bad (l : Launch) (κ : Nat → Nat) (D : va_G) (sz : Nat) (m0 : Nat) (kl : Nat) (tl : Nat) (p0 : Int32) (hbad : ¬ ((0 : Int64).toInt ≤ (p0.toInt64).toInt ∧ (p0.toInt64).toInt ≤ (9 : Int64).toInt)) : Met l yX9_type wm_c_X9_type_bad ({ frames := 12, cells := 0, slots := 0, locals := 440 }) (va_Pc [.ref m0, .int p0] (PC κ D [] [(m0, .inr (16, [.int 0, .ref kl, .null, .ref tl]))] sz)) (va_Qi (fun (r : Int32) (_ : Unit) => True) (fun _ t => PB D [] [(m0, .inr (16, [.int 1, .ref kl, .null, .ref tl]))] (va_A [(m0, .inr (16, [.int 0, .ref kl, .null, .ref tl]))] sz) t) (va_A [(m0, .inr (16, [.int 0, .ref kl, .null, .ref tl]))] sz)) 0 0 (va_A [(m0, .inr (16, [.int 0, .ref kl, .null, .ref tl]))] sz) := by
  refine Met.ofW (cc := cX9_type) (maxL := 2) (ret := (some .int)) (by decide +kernel) rfl ?_
  intro p e s m args below meth c s₁ B hml hv
  obtain ⟨rfl, hsz, hP, hK, hD0, hE⟩ := hv
  have hx := B.exec
  have hb := B.bytes
  have hr := B.returns
  have hts := atoms_spec (ws := wm_c_X9_type_bad) B.pre
  have hown : s.vm.findClass RX9 = some m.cls := findClass_of_methodNamed B.named
  have hlocks := B.notSynchronized
  have iRX9 : ∀ w ∈ u_ws RX9 TX9 4, w ∈ wm_c_X9_type_bad := by decide +kernel
  subst hsz
  have hD := hD0.self (sz := s.heap.size)
  generalize hAe : va_A [(m0, .inr (16, [.int 0, .ref kl, .null, .ref tl]))] s.heap.size = A at hD hE ⊢
  have hA : ∀ q : Nat, s.heap.size ≤ q → A q := fun q h => by rw [← hAe]; exact Or.inr h
  have hS : va_S A s.heap s.heap [] := va_S.rf
  have hl := lv_entry ([.ref m0, .int p0]) (n := 2) (Nat.le_of_ble_eq_true rfl)
  rw [lg_entry_eq]
  generalize (lg_sl ([.ref m0, .int p0]) ++ List.replicate (2 - (lg_sl ([.ref m0, .int p0])).length) Slot.unset).toArray = ls at hl ⊢
  have hl : lv_has ls 2 [(0, .ref m0), (1, .int p0)] := hl
  refine lv_aload_n hx hb dX9_type_0 rfl (lv_at hl 0 rfl) ?_
  have hS0 := hS
  have hFc := va_free (wc := [(m0, .inr (16, [.int 0, .ref kl, .null, .ref tl]))]) hD hS hA [0] rfl
  refine va_callv (va_runV (As := []) (rest := []) ⟨hx, hb, hml, hown, hts⟩ (c_X9_begins l κ D (s.heap).size (m0) (kl) (tl) (0) ) (cwV 0 hts gd_c_X9_type_bad_1 rfl rfl rfl (by decide +kernel) ⟨(Nat.le_of_ble_eq_true rfl), (Nat.le_of_ble_eq_true rfl)⟩) (preV hE hK hP hD hS hA [0] rfl (by decide) [] rfl (va_recv hK hP (ci := 16) (q0 := 0) rfl rfl)) rfl rfl hl.1 rfl (lv_room (Nat.le_of_ble_eq_true rfl)) dX9_type_1 ⟨(Nat.le_of_ble_eq_true rfl), (Nat.le_of_ble_eq_true rfl)⟩) hS (fun q _ h => hFc q h) hFc (fun u t H1 locs ht hvm hw hB hz1 hk1 hS => ?_)
  try dsimp only at hw
  obtain ⟨hP, hD, hK⟩ := jn (wc := [(m0, .inr (16, [.int 0, .ref kl, .null, .ref tl]))]) (wr := []) (w1 := [(m0, .inr (16, [.int 0, .ref kl, .null, .ref tl]))]) (t1 := []) hP hD hK hS0 hA [0] [] rfl rfl (by decide) (by decide) ht hvm hk1 hB
  generalize H1 = H at hP hS ⊢
  have hP : va_P D vwCl ([(m0, .inr (16, [.int 0, .ref kl, .null, .ref tl]))]) H := hP
  have hD : va_D A ([(m0, .inr (16, [.int 0, .ref kl, .null, .ref tl]))]) := hD
  have hK : va_K D vwCl [] s := hK
  refine W.widen (k := 0) (n := 0) (Nat.le_of_ble_eq_true rfl) (Nat.le_of_ble_eq_true rfl) ?_
  refine lv_aload_n hx hb dX9_type_4 rfl (lv_at hl 0 rfl) ?_
  refine lv_iload_n hx hb dX9_type_5 rfl (lv_at hl 1 rfl) ?_
  refine lv_i2l (v := (p0).toInt64) hx hb dX9_type_6 rfl ?_
  refine lv_lconst (v := 0) hx hb dX9_type_7 (by decide) ?_
  refine lv_ldc2 (v := 9) hx hb hown (hts (.constantLong RX9 136 (9)) (by decide +kernel)) dX9_type_8 ?_
  have hS0 := hS
  have hFc := va_free (wc := []) hD hS hA [] rfl
  refine va_calli (va_runS (As := [.long ((p0).toInt64), .long 0, .long 9]) (rest := [.ref m0]) ⟨hx, hb, hml, hown, hts⟩ (c_X9_in l κ D (H).size (((p0).toInt64)) (0) (9) ) (va_cwS 3 hts gd_c_X9_type_bad_11 rfl rfl rfl (by decide +kernel) ⟨(Nat.le_of_ble_eq_true rfl), (Nat.le_of_ble_eq_true rfl)⟩) (preS hE hK hP hD hS hA [] rfl (by decide) [] rfl) rfl rfl hl.1 rfl (lv_room (Nat.le_of_ble_eq_true rfl)) dX9_type_11 ⟨(Nat.le_of_ble_eq_true rfl), (Nat.le_of_ble_eq_true rfl)⟩) hS (fun q _ h => hFc q h) hFc (fun r_2 u t H1 locs ht hvm hw hB hz1 hk1 hS => ?_)
  try dsimp only at hw
  obtain ⟨hP, hD, hK⟩ := jn (wc := []) (wr := [(m0, .inr (16, [.int 0, .ref kl, .null, .ref tl]))]) (w1 := []) (t1 := []) hP hD hK hS0 hA [] [0] rfl rfl (by decide) (by decide) ht hvm hk1 hB
  generalize H1 = H at hP hS ⊢
  have hP : va_P D vwCl ([(m0, .inr (16, [.int 0, .ref kl, .null, .ref tl]))]) H := hP
  have hD : va_D A ([(m0, .inr (16, [.int 0, .ref kl, .null, .ref tl]))]) := hD
  have hK : va_K D vwCl [] s := hK
  refine W.widen (k := 0) (n := 0) (Nat.le_of_ble_eq_true rfl) (Nat.le_of_ble_eq_true rfl) ?_
  have hw : r_2 = 0 := hw.trans (if_neg hbad)
  subst hw
  refine lv_if_ne (tgt := 21) hx hb dX9_type_14 (by decide) (fun c_14 => absurd c_14 (by decide)) (fun _ => ?_)
  refine lv_iconst (v := 1) hx hb dX9_type_17 (by decide) ?_
  refine lv_goto (tgt := 22) hx hb dX9_type_18 (by decide) ?_
  refine lv_iconst (v := 1) hx hb dX9_type_22 (by decide) ?_
  have hS0 := hS
  have hFc := va_free (wc := [(m0, .inr (16, [.int 0, .ref kl, .null, .ref tl]))]) hD hS hA [0] rfl
  refine va_calli (va_runV (As := [.int 1, .int 1]) (rest := []) ⟨hx, hb, hml, hown, hts⟩ (c_X9_fails_1 l κ D (H).size (m0) (kl) (tl) ) (cwV 2 hts gd_c_X9_type_bad_23 rfl rfl rfl (by decide +kernel) ⟨(Nat.le_of_ble_eq_true rfl), (Nat.le_of_ble_eq_true rfl)⟩) (preV hE hK hP hD hS hA [0] rfl (by decide) [] rfl (va_recv hK hP (ci := 16) (q0 := 0) rfl rfl)) rfl rfl hl.1 rfl (lv_room (Nat.le_of_ble_eq_true rfl)) dX9_type_23 ⟨(Nat.le_of_ble_eq_true rfl), (Nat.le_of_ble_eq_true rfl)⟩) hS (fun q _ h => hFc q h) hFc (fun r_3 u t H1 locs ht hvm hw hB hz1 hk1 hS => ?_)
  try dsimp only at hw
  obtain ⟨hP, hD, hK⟩ := jn (wc := [(m0, .inr (16, [.int 0, .ref kl, .null, .ref tl]))]) (wr := []) (w1 := [(m0, .inr (16, [.int 1, .ref kl, .null, .ref tl]))]) (t1 := []) hP hD hK hS0 hA [0] [] rfl rfl (by decide) (by decide) ht hvm hk1 hB
  generalize H1 = H at hP hS ⊢
  have hP : va_P D vwCl ([(m0, .inr (16, [.int 1, .ref kl, .null, .ref tl]))]) H := hP
  have hD : va_D A ([(m0, .inr (16, [.int 1, .ref kl, .null, .ref tl]))]) := hD
  have hK : va_K D vwCl [] s := hK
  refine W.widen (k := 0) (n := 0) (Nat.le_of_ble_eq_true rfl) (Nat.le_of_ble_eq_true rfl) ?_
  subst hw
  refine lv_if_ne (tgt := 56) hx hb dX9_type_26 (by decide) (fun _ => ?_) (fun c_26 => absurd c_26 (by decide))
  refine lv_iconst (v := (-1)) hx hb dX9_type_56 (by decide) ?_
  refine W.widen (k := 0) (n := 0) (Nat.le_of_ble_eq_true rfl) (Nat.le_of_ble_eq_true rfl) ?_
  exact W.iret (v := (-1)) hx hb hr (fun t ht hW => ⟨⟨(-1), (), rfl, trivial, PB.at hP hK hD hW.alike ht [0] rfl (by decide) [] rfl⟩, hS.F ht⟩) hS.2.2 dX9_type_57
