def wm_c_X2_init : List Cond := .code yX2_init cX2_init 1 none :: ([.methodLink RX2 3 objectInit, .instanceMethod objectInit, .code objectInit ⟨#[0xb1]⟩ 1 none, .fieldLink RX2 9 "Sowingcourt$Kind" "holesEach" "I", .fieldLink RX2 15 "Sowingcourt$Kind" "seedsEach" "I", .fieldLink RX2 18 "Sowingcourt$Kind" "lap" "C", .fieldLink RX2 22 "Sowingcourt$Kind" "capture" "C", .arrayClass .boolean, .fieldLink RX2 25 "Sowingcourt$Kind" "rules" "[Z"] ++ wsX20)
set_option maxHeartbeats 4000000 in
set_option maxRecDepth 100000 in
theorem c_X2_init (l : Launch) (κ : Nat → Nat) (D : va_G) (sz : Nat) (h0 : Nat)  : Met l yX2_init wm_c_X2_init ({ frames := 8, cells := 1, slots := 5, locals := 200 }) (va_Pc [.ref h0] (PC κ D [] [(h0, .inr (9, [.int 0, .int 0, .int 0, .int 0, .null]))] sz)) (va_Qv (fun _ : Unit => True) (fun _ t => ∃ (r0 : Nat), PB D [] [(h0, .inr (9, [.int 2, .int 1, .int 115, .int 110, .ref r0]))] (va_A [(h0, .inr (9, [.int 0, .int 0, .int 0, .int 0, .null]))] sz) t) (va_A [(h0, .inr (9, [.int 0, .int 0, .int 0, .int 0, .null]))] sz)) 1 5 (va_A [(h0, .inr (9, [.int 0, .int 0, .int 0, .int 0, .null]))] sz) := by
  refine Met.ofW (cc := cX2_init) (maxL := 1) (ret := none) (by decide +kernel) rfl ?_
  intro p e s m args below meth c s₁ B hml hv
  obtain ⟨rfl, hsz, hP, hK, hD0, hE⟩ := hv
  have hx := B.exec
  have hb := B.bytes
  have hr := B.returns
  have hts := atoms_spec (ws := wm_c_X2_init) B.pre
  have hown : s.vm.findClass RX2 = some m.cls := findClass_of_methodNamed B.named
  have hlocks := B.notSynchronized
  have hin : meth.name = "<init>" := (name_of_methodNamed B.named B.method).1
  have iRX2 : ∀ w ∈ u_ws RX2 TX2 5, w ∈ wm_c_X2_init := by decide +kernel
  subst hsz
  have hD := hD0.self (sz := s.heap.size)
  generalize hAe : va_A [(h0, .inr (9, [.int 0, .int 0, .int 0, .int 0, .null]))] s.heap.size = A at hD hE ⊢
  have hA : ∀ q : Nat, s.heap.size ≤ q → A q := fun q h => by rw [← hAe]; exact Or.inr h
  have hS : va_S A s.heap s.heap [] := va_S.rf
  have hl := lv_entry ([.ref h0]) (n := 1) (Nat.le_of_ble_eq_true rfl)
  rw [lg_entry_eq]
  generalize (lg_sl ([.ref h0]) ++ List.replicate (1 - (lg_sl ([.ref h0])).length) Slot.unset).toArray = ls at hl ⊢
  have hl : lv_has ls 1 [(0, .ref h0)] := hl
  refine lv_aload_n hx hb dX2_init_0 rfl (lv_at hl 0 rfl) ?_
  refine W.objInit hx hb hown (hts (.methodLink RX2 3 objectInit) (by decide +kernel)) (hts (.instanceMethod objectInit) (by decide +kernel)) (hts (.code objectInit ⟨#[0xb1]⟩ 1 none) (by decide +kernel)) rfl (by rw [hml]; exact hl.1) rfl dX2_init_1 (Nat.le_of_ble_eq_true rfl) (Nat.le_of_ble_eq_true rfl) ?_
  refine W.eq (g2 := F0 m 4 ls []) rfl ?_
  refine lv_aload_n hx hb dX2_init_4 rfl (lv_at hl 0 rfl) ?_
  refine lv_iconst (v := 2) hx hb dX2_init_5 (by decide) ?_
  refine va_put (D := D) (ci := 9) (v := .int 2) (ty := .int) (C := RX2) (T := TX2) (N := 5) hx hb hts iRX2 tyX2 tyX2_ok nmX2 hown hK hP hD hS 0 rfl rfl 0 (by decide) (hts (.fieldLink RX2 9 "Sowingcourt$Kind" "holesEach" "I") (by decide +kernel)) (fun _ h9 => h9) rfl (by decide +kernel) rfl rfl (Nat.le_of_ble_eq_true rfl) dX2_init_6 (fun H locs hP hD hS => ?_)
  have hP : va_P D vwCl ([(h0, .inr (9, [.int 2, .int 0, .int 0, .int 0, .null]))]) H := hP
  have hD : va_D A ([(h0, .inr (9, [.int 2, .int 0, .int 0, .int 0, .null]))]) := hD
  refine lv_aload_n hx hb dX2_init_9 rfl (lv_at hl 0 rfl) ?_
  refine lv_iconst (v := 1) hx hb dX2_init_10 (by decide) ?_
  refine va_put (D := D) (ci := 9) (v := .int 1) (ty := .int) (C := RX2) (T := TX2) (N := 5) hx hb hts iRX2 tyX2 tyX2_ok nmX2 hown hK hP hD hS 0 rfl rfl 1 (by decide) (hts (.fieldLink RX2 15 "Sowingcourt$Kind" "seedsEach" "I") (by decide +kernel)) (fun _ h9 => h9) rfl (by decide +kernel) rfl rfl (Nat.le_of_ble_eq_true rfl) dX2_init_11 (fun H locs hP hD hS => ?_)
  have hP : va_P D vwCl ([(h0, .inr (9, [.int 2, .int 1, .int 0, .int 0, .null]))]) H := hP
  have hD : va_D A ([(h0, .inr (9, [.int 2, .int 1, .int 0, .int 0, .null]))]) := hD
  refine lv_aload_n hx hb dX2_init_14 rfl (lv_at hl 0 rfl) ?_
  refine lv_bipush (v := 115) hx hb dX2_init_15 (by decide) ?_
  refine va_put (D := D) (ci := 9) (v := .int 115) (ty := .char) (C := RX2) (T := TX2) (N := 5) hx hb hts iRX2 tyX2 tyX2_ok nmX2 hown hK hP hD hS 0 rfl rfl 2 (by decide) (hts (.fieldLink RX2 18 "Sowingcourt$Kind" "lap" "C") (by decide +kernel)) (fun _ h9 => h9) rfl (by decide +kernel) rfl rfl (Nat.le_of_ble_eq_true rfl) dX2_init_17 (fun H locs hP hD hS => ?_)
  have hP : va_P D vwCl ([(h0, .inr (9, [.int 2, .int 1, .int 115, .int 0, .null]))]) H := hP
  have hD : va_D A ([(h0, .inr (9, [.int 2, .int 1, .int 115, .int 0, .null]))]) := hD
  refine lv_aload_n hx hb dX2_init_20 rfl (lv_at hl 0 rfl) ?_
  refine lv_bipush (v := 110) hx hb dX2_init_21 (by decide) ?_
  refine va_put (D := D) (ci := 9) (v := .int 110) (ty := .char) (C := RX2) (T := TX2) (N := 5) hx hb hts iRX2 tyX2 tyX2_ok nmX2 hown hK hP hD hS 0 rfl rfl 3 (by decide) (hts (.fieldLink RX2 22 "Sowingcourt$Kind" "capture" "C") (by decide +kernel)) (fun _ h9 => h9) rfl (by decide +kernel) rfl rfl (Nat.le_of_ble_eq_true rfl) dX2_init_23 (fun H locs hP hD hS => ?_)
  have hP : va_P D vwCl ([(h0, .inr (9, [.int 2, .int 1, .int 115, .int 110, .null]))]) H := hP
  have hD : va_D A ([(h0, .inr (9, [.int 2, .int 1, .int 115, .int 110, .null]))]) := hD
  refine lv_aload_n hx hb dX2_init_26 rfl (lv_at hl 0 rfl) ?_
  refine lv_iconst (v := 5) hx hb dX2_init_27 (by decide) ?_
  refine va_newa (atype := .boolean) (ty := .boolean) (a0 := (5, .inl (fun _ => 0))) hx hb (hts (.arrayClass .boolean) (by decide +kernel)) rfl hK hP hD hS hA (fun _ => rfl) (N' := 5) (by decide) (by decide +kernel) (Nat.le_of_ble_eq_true rfl) (Nat.le_of_ble_eq_true rfl) (Nat.le_of_ble_eq_true rfl) dX2_init_28 (fun q_1 cA_2 H hK hP hD hS => ?_)
  have hP : va_P D vwCl ([(h0, .inr (9, [.int 2, .int 1, .int 115, .int 110, .null])), (q_1, .inl (cA_2, 5, .inl (fun _ => 0)))]) H := hP
  have hD : va_D A ([(h0, .inr (9, [.int 2, .int 1, .int 115, .int 110, .null])), (q_1, .inl (cA_2, 5, .inl (fun _ => 0)))]) := hD
  have hK : va_K D vwCl [(cA_2, .boolean)] s := hK
  refine W.widen (k := 1) (n := 5) (Nat.le_of_ble_eq_true rfl) (Nat.le_of_ble_eq_true rfl) ?_
  refine va_putF (D := D) (ci := 9) (v := .ref q_1) (ty := .array .boolean) (C := RX2) (T := TX2) (N := 5) hx hb hts iRX2 tyX2 tyX2_ok nmX2 hown hK hP hD hS 0 rfl rfl 4 (by decide) (hts (.fieldLink RX2 25 "Sowingcourt$Kind" "rules" "[Z") (by decide +kernel)) (fun _ h9 => h9) rfl hin rfl (by decide +kernel) rfl rfl (Nat.le_of_ble_eq_true rfl) dX2_init_30 (fun H locs hP hD hS => ?_)
  have hP : va_P D vwCl ([(h0, .inr (9, [.int 2, .int 1, .int 115, .int 110, .ref q_1])), (q_1, .inl (cA_2, 5, .inl (fun _ => 0)))]) H := hP
  have hD : va_D A ([(h0, .inr (9, [.int 2, .int 1, .int 115, .int 110, .ref q_1])), (q_1, .inl (cA_2, 5, .inl (fun _ => 0)))]) := hD
  refine W.widen (k := 1) (n := 5) (Nat.le_of_ble_eq_true rfl) (Nat.le_of_ble_eq_true rfl) ?_
  exact W.vret hx hb hr (fun t ht hW => ⟨⟨(), rfl, trivial, q_1, PB.at hP hK hD hW.alike ht [0] rfl (by decide) [] rfl⟩, hS.F ht⟩) hS.2.2 dX2_init_33

def wm_c_X0_init : List Cond := .code yX0_init cX0_init 2 none :: ([.methodLink RX0 3 objectInit, .instanceMethod objectInit, .code objectInit ⟨#[0xb1]⟩ 1 none, .arrayClass .int, .fieldLink RX0 11 "Sowingcourt$Board" "cells" "[I", .fieldLink RX0 15 "Sowingcourt$Board" "kind" "LSowingcourt$Kind;"] ++ wsX00)
set_option maxHeartbeats 4000000 in
set_option maxRecDepth 100000 in
theorem c_X0_init (l : Launch) (κ : Nat → Nat) (D : va_G) (sz : Nat) (h0 : Nat) (k0 : Nat)  : Met l yX0_init wm_c_X0_init ({ frames := 8, cells := 1, slots := 13, locals := 200 }) (va_Pc [.ref h0, .ref k0] (PC κ D [] [(h0, .inr (7, [.null, .null, .int 0, .int 0]))] sz)) (va_Qv (fun _ : Unit => True) (fun _ t => ∃ (r0 : Nat), PB D [] [(h0, .inr (7, [.ref k0, .ref r0, .int 0, .int 0]))] (va_A [(h0, .inr (7, [.null, .null, .int 0, .int 0]))] sz) t) (va_A [(h0, .inr (7, [.null, .null, .int 0, .int 0]))] sz)) 1 13 (va_A [(h0, .inr (7, [.null, .null, .int 0, .int 0]))] sz) := by
  refine Met.ofW (cc := cX0_init) (maxL := 2) (ret := none) (by decide +kernel) rfl ?_
  intro p e s m args below meth c s₁ B hml hv
  obtain ⟨rfl, hsz, hP, hK, hD0, hE⟩ := hv
  have hx := B.exec
  have hb := B.bytes
  have hr := B.returns
  have hts := atoms_spec (ws := wm_c_X0_init) B.pre
  have hown : s.vm.findClass RX0 = some m.cls := findClass_of_methodNamed B.named
  have hlocks := B.notSynchronized
  have hin : meth.name = "<init>" := (name_of_methodNamed B.named B.method).1
  have iRX0 : ∀ w ∈ u_ws RX0 TX0 4, w ∈ wm_c_X0_init := by decide +kernel
  subst hsz
  have hD := hD0.self (sz := s.heap.size)
  generalize hAe : va_A [(h0, .inr (7, [.null, .null, .int 0, .int 0]))] s.heap.size = A at hD hE ⊢
  have hA : ∀ q : Nat, s.heap.size ≤ q → A q := fun q h => by rw [← hAe]; exact Or.inr h
  have hS : va_S A s.heap s.heap [] := va_S.rf
  have hl := lv_entry ([.ref h0, .ref k0]) (n := 2) (Nat.le_of_ble_eq_true rfl)
  rw [lg_entry_eq]
  generalize (lg_sl ([.ref h0, .ref k0]) ++ List.replicate (2 - (lg_sl ([.ref h0, .ref k0])).length) Slot.unset).toArray = ls at hl ⊢
  have hl : lv_has ls 2 [(0, .ref h0), (1, .ref k0)] := hl
  refine lv_aload_n hx hb dX0_init_0 rfl (lv_at hl 0 rfl) ?_
  refine W.objInit hx hb hown (hts (.methodLink RX0 3 objectInit) (by decide +kernel)) (hts (.instanceMethod objectInit) (by decide +kernel)) (hts (.code objectInit ⟨#[0xb1]⟩ 1 none) (by decide +kernel)) rfl (by rw [hml]; exact hl.1) rfl dX0_init_1 (Nat.le_of_ble_eq_true rfl) (Nat.le_of_ble_eq_true rfl) ?_
  refine W.eq (g2 := F0 m 4 ls []) rfl ?_
  refine lv_aload_n hx hb dX0_init_4 rfl (lv_at hl 0 rfl) ?_
  refine lv_bipush (v := 13) hx hb dX0_init_5 (by decide) ?_
  refine va_newa (atype := .int) (ty := .int) (a0 := (13, .inl (fun _ => 0))) hx hb (hts (.arrayClass .int) (by decide +kernel)) rfl hK hP hD hS hA (fun _ => rfl) (N' := 13) (by decide) (by decide +kernel) (Nat.le_of_ble_eq_true rfl) (Nat.le_of_ble_eq_true rfl) (Nat.le_of_ble_eq_true rfl) dX0_init_7 (fun q_1 cA_2 H hK hP hD hS => ?_)
  have hP : va_P D vwCl ([(h0, .inr (7, [.null, .null, .int 0, .int 0])), (q_1, .inl (cA_2, 13, .inl (fun _ => 0)))]) H := hP
  have hD : va_D A ([(h0, .inr (7, [.null, .null, .int 0, .int 0])), (q_1, .inl (cA_2, 13, .inl (fun _ => 0)))]) := hD
  have hK : va_K D vwCl [(cA_2, .int)] s := hK
  refine W.widen (k := 1) (n := 13) (Nat.le_of_ble_eq_true rfl) (Nat.le_of_ble_eq_true rfl) ?_
  refine va_putF (D := D) (ci := 7) (v := .ref q_1) (ty := .array .int) (C := RX0) (T := TX0) (N := 4) hx hb hts iRX0 tyX0 tyX0_ok nmX0 hown hK hP hD hS 0 rfl rfl 1 (by decide) (hts (.fieldLink RX0 11 "Sowingcourt$Board" "cells" "[I") (by decide +kernel)) (fun _ h9 => h9) rfl hin rfl (by decide +kernel) rfl rfl (Nat.le_of_ble_eq_true rfl) dX0_init_9 (fun H locs hP hD hS => ?_)
  have hP : va_P D vwCl ([(h0, .inr (7, [.null, .ref q_1, .int 0, .int 0])), (q_1, .inl (cA_2, 13, .inl (fun _ => 0)))]) H := hP
  have hD : va_D A ([(h0, .inr (7, [.null, .ref q_1, .int 0, .int 0])), (q_1, .inl (cA_2, 13, .inl (fun _ => 0)))]) := hD
  refine lv_aload_n hx hb dX0_init_12 rfl (lv_at hl 0 rfl) ?_
  refine lv_aload_n hx hb dX0_init_13 rfl (lv_at hl 1 rfl) ?_
  refine va_putF (D := D) (ci := 7) (v := .ref k0) (ty := .object "Sowingcourt$Kind") (C := RX0) (T := TX0) (N := 4) hx hb hts iRX0 tyX0 tyX0_ok nmX0 hown hK hP hD hS 0 rfl rfl 0 (by decide) (hts (.fieldLink RX0 15 "Sowingcourt$Board" "kind" "LSowingcourt$Kind;") (by decide +kernel)) (fun _ h9 => h9) rfl hin rfl (by decide +kernel) rfl rfl (Nat.le_of_ble_eq_true rfl) dX0_init_14 (fun H locs hP hD hS => ?_)
  have hP : va_P D vwCl ([(h0, .inr (7, [.ref k0, .ref q_1, .int 0, .int 0])), (q_1, .inl (cA_2, 13, .inl (fun _ => 0)))]) H := hP
  have hD : va_D A ([(h0, .inr (7, [.ref k0, .ref q_1, .int 0, .int 0])), (q_1, .inl (cA_2, 13, .inl (fun _ => 0)))]) := hD
  refine W.widen (k := 1) (n := 13) (Nat.le_of_ble_eq_true rfl) (Nat.le_of_ble_eq_true rfl) ?_
  exact W.vret hx hb hr (fun t ht hW => ⟨⟨(), rfl, trivial, q_1, PB.at hP hK hD hW.alike ht [0] rfl (by decide) [] rfl⟩, hS.F ht⟩) hS.2.2 dX0_init_17

def wm_c_X1_init : List Cond := .code yX1_init cX1_init 1 none :: ([.methodLink RX1 3 objectInit, .instanceMethod objectInit, .code objectInit ⟨#[0xb1]⟩ 1 none, .classLink RX1 9 RX2, .instantiable RX2 5, .initialized RX2, .code yX2_init cX2_init 1 none, .methodLink RX2 3 objectInit, .fieldLink RX2 9 "Sowingcourt$Kind" "holesEach" "I", .fieldLink RX2 15 "Sowingcourt$Kind" "seedsEach" "I", .fieldLink RX2 18 "Sowingcourt$Kind" "lap" "C", .fieldLink RX2 22 "Sowingcourt$Kind" "capture" "C", .arrayClass .boolean, .fieldLink RX2 25 "Sowingcourt$Kind" "rules" "[Z", .instanceMethod yX2_init, .fieldLink RX1 12 "Sowingcourt$Game" "kind" "LSowingcourt$Kind;", .classLink RX1 18 RX0, .instantiable RX0 4, .initialized RX0, .code yX0_init cX0_init 2 none, .methodLink RX0 3 objectInit, .arrayClass .int, .fieldLink RX0 11 "Sowingcourt$Board" "cells" "[I", .fieldLink RX0 15 "Sowingcourt$Board" "kind" "LSowingcourt$Kind;", .methodLink RX1 20 yX0_init, .instanceMethod yX0_init, .fieldLink RX1 23 "Sowingcourt$Game" "now" "LSowingcourt$Board;", .fieldLink RX1 27 "Sowingcourt$Game" "next" "LSowingcourt$Board;", .fieldLink RX1 30 "Sowingcourt$Game" "past" "[I", .fieldLink RX1 34 "Sowingcourt$Game" "played" "[I", .fieldLink RX1 37 "Sowingcourt$Game" "lapsOf" "[I"] ++ wsX20 ++ wsX10 ++ wsX00)
set_option maxRecDepth 20000 in
theorem gd_c_X1_init_9 : GoodIn wm_c_X1_init wm_c_X2_init := goodIn_of _ (by decide +kernel)
set_option maxRecDepth 20000 in
theorem gd_c_X1_init_24 : GoodIn wm_c_X1_init wm_c_X0_init := goodIn_of _ (by decide +kernel)
set_option maxRecDepth 20000 in
theorem gd_c_X1_init_39 : GoodIn wm_c_X1_init wm_c_X0_init := goodIn_of _ (by decide +kernel)
set_option maxHeartbeats 4000000 in
set_option maxRecDepth 100000 in
theorem c_X1_init (l : Launch) (κ : Nat → Nat) (D : va_G) (sz : Nat) (g0 : Nat)  : Met l yX1_init wm_c_X1_init ({ frames := 9, cells := 9, slots := 7737, locals := 260 }) (va_Pc [.ref g0] (PC κ D [] [(g0, .inr (8, [.null, .null, .null, .null, .null, .null, .int 0, .int 0, .int 0, .int 0]))] sz)) (va_Qv (fun _ : Unit => True) (fun _ t => ∃ (g1 : Nat) (g2 : Nat) (g3 : Nat) (g4 : Nat) (g5 : Nat) (g6 : Nat), PB D [] [(g0, .inr (8, [.ref g1, .ref g2, .ref g3, .ref g4, .ref g5, .ref g6, .int 0, .int 0, .int 0, .int 0]))] (va_A [(g0, .inr (8, [.null, .null, .null, .null, .null, .null, .int 0, .int 0, .int 0, .int 0]))] sz) t) (va_A [(g0, .inr (8, [.null, .null, .null, .null, .null, .null, .int 0, .int 0, .int 0, .int 0]))] sz)) 9 7737 (va_A [(g0, .inr (8, [.null, .null, .null, .null, .null, .null, .int 0, .int 0, .int 0, .int 0]))] sz) := by
  refine Met.ofW (cc := cX1_init) (maxL := 1) (ret := none) (by decide +kernel) rfl ?_
  intro p e s m args below meth c s₁ B hml hv
  obtain ⟨rfl, hsz, hP, hK, hD0, hE⟩ := hv
  have hx := B.exec
  have hb := B.bytes
  have hr := B.returns
  have hts := atoms_spec (ws := wm_c_X1_init) B.pre
  have hown : s.vm.findClass RX1 = some m.cls := findClass_of_methodNamed B.named
  have hlocks := B.notSynchronized
  have hin : meth.name = "<init>" := (name_of_methodNamed B.named B.method).1
  have iRX2 : ∀ w ∈ u_ws RX2 TX2 5, w ∈ wm_c_X1_init := by decide +kernel
  have iRX1 : ∀ w ∈ u_ws RX1 TX1 10, w ∈ wm_c_X1_init := by decide +kernel
  have iRX0 : ∀ w ∈ u_ws RX0 TX0 4, w ∈ wm_c_X1_init := by decide +kernel
  subst hsz
  have hD := hD0.self (sz := s.heap.size)
  generalize hAe : va_A [(g0, .inr (8, [.null, .null, .null, .null, .null, .null, .int 0, .int 0, .int 0, .int 0]))] s.heap.size = A at hD hE ⊢
  have hA : ∀ q : Nat, s.heap.size ≤ q → A q := fun q h => by rw [← hAe]; exact Or.inr h
  have hS : va_S A s.heap s.heap [] := va_S.rf
  have hl := lv_entry ([.ref g0]) (n := 1) (Nat.le_of_ble_eq_true rfl)
  rw [lg_entry_eq]
  generalize (lg_sl ([.ref g0]) ++ List.replicate (1 - (lg_sl ([.ref g0])).length) Slot.unset).toArray = ls at hl ⊢
  have hl : lv_has ls 1 [(0, .ref g0)] := hl
  refine lv_aload_n hx hb dX1_init_0 rfl (lv_at hl 0 rfl) ?_
  refine W.objInit hx hb hown (hts (.methodLink RX1 3 objectInit) (by decide +kernel)) (hts (.instanceMethod objectInit) (by decide +kernel)) (hts (.code objectInit ⟨#[0xb1]⟩ 1 none) (by decide +kernel)) rfl (by rw [hml]; exact hl.1) rfl dX1_init_1 (Nat.le_of_ble_eq_true rfl) (Nat.le_of_ble_eq_true rfl) ?_
  refine W.eq (g2 := F0 m 4 ls []) rfl ?_
  refine lv_aload_n hx hb dX1_init_4 rfl (lv_at hl 0 rfl) ?_
  refine va_new (ci := 9) (fs := [.int 0, .int 0, .int 0, .int 0, .null]) (C := RX2) (T := TX2) (N := 5) hx hb hts iRX2 tyX2 tyX2_ok hown (hts (.classLink RX1 9 RX2) (by decide +kernel)) (hts (.instantiable RX2 5) (by decide +kernel)) (hts (.initialized RX2) (by decide +kernel)) hK hP hD hS hA rfl (fun j hj => by rcases (show j = 0 ∨ j = 1 ∨ j = 2 ∨ j = 3 ∨ j = 4 by omega) with rfl | rfl | rfl | rfl | rfl <;> rfl) (Nat.le_of_ble_eq_true rfl) (Nat.le_of_ble_eq_true rfl) dX1_init_5 (fun q_1 H hP hD hS => ?_)
  have hP : va_P D vwCl ([(g0, .inr (8, [.null, .null, .null, .null, .null, .null, .int 0, .int 0, .int 0, .int 0])), (q_1, .inr (9, [.int 0, .int 0, .int 0, .int 0, .null]))]) H := hP
  have hD : va_D A ([(g0, .inr (8, [.null, .null, .null, .null, .null, .null, .int 0, .int 0, .int 0, .int 0])), (q_1, .inr (9, [.int 0, .int 0, .int 0, .int 0, .null]))]) := hD
  refine W.widen (k := 1) (n := 5) (Nat.le_of_ble_eq_true rfl) (Nat.le_of_ble_eq_true rfl) ?_
  refine lv_dup hx hb dX1_init_8 rfl ?_
  have hS0 := hS
  have hFc := va_free (wc := [(q_1, .inr (9, [.int 0, .int 0, .int 0, .int 0, .null]))]) hD hS hA [1] rfl
  refine va_callv (va_runIN (As := []) (rest := [.ref q_1, .ref g0]) ⟨hx, hb, hml, hown, hts⟩ (c_X2_init l κ D (H).size (q_1) ) (⟨va_cnB 0 hts gd_c_X1_init_9 rfl rfl rfl hE.nm2 (hts (.initialized RX2) (by decide +kernel)) (by decide +kernel) ⟨(Nat.le_of_ble_eq_true rfl), (Nat.le_of_ble_eq_true rfl)⟩, rfl, (hts (.instanceMethod yX2_init) (by decide +kernel))⟩) (preS hE hK hP hD hS hA [1] rfl (by decide) [] rfl) rfl rfl hl.1 rfl (lv_room (Nat.le_of_ble_eq_true rfl)) dX1_init_9 ⟨(Nat.le_of_ble_eq_true rfl), (Nat.le_of_ble_eq_true rfl)⟩) hS (fun q _ h => hFc q h) hFc (fun u t H1 locs ht hvm hw hB hz1 hk1 hS => ?_)
  obtain ⟨r0_3, hB⟩ := hB
  try dsimp only at hw
  obtain ⟨hP, hD, hK⟩ := jn (wc := [(q_1, .inr (9, [.int 0, .int 0, .int 0, .int 0, .null]))]) (wr := [(g0, .inr (8, [.null, .null, .null, .null, .null, .null, .int 0, .int 0, .int 0, .int 0]))]) (w1 := [(q_1, .inr (9, [.int 2, .int 1, .int 115, .int 110, .ref r0_3]))]) (t1 := []) hP hD hK hS0 hA [1] [0] rfl rfl (by decide) (by decide) ht hvm hk1 hB
  generalize H1 = H at hP hS ⊢
  have hP : va_P D vwCl ([(g0, .inr (8, [.null, .null, .null, .null, .null, .null, .int 0, .int 0, .int 0, .int 0])), (q_1, .inr (9, [.int 2, .int 1, .int 115, .int 110, .ref r0_3]))]) H := hP
  have hD : va_D A ([(g0, .inr (8, [.null, .null, .null, .null, .null, .null, .int 0, .int 0, .int 0, .int 0])), (q_1, .inr (9, [.int 2, .int 1, .int 115, .int 110, .ref r0_3]))]) := hD
  have hK : va_K D vwCl [] s := hK
  refine W.widen (k := 2) (n := 10) (Nat.le_of_ble_eq_true rfl) (Nat.le_of_ble_eq_true rfl) ?_
  refine va_putF (D := D) (ci := 8) (v := .ref q_1) (ty := .object "Sowingcourt$Kind") (C := RX1) (T := TX1) (N := 10) hx hb hts iRX1 tyX1 tyX1_ok nmX1 hown hK hP hD hS 0 rfl rfl 0 (by decide) (hts (.fieldLink RX1 12 "Sowingcourt$Game" "kind" "LSowingcourt$Kind;") (by decide +kernel)) (fun _ h9 => h9) rfl hin rfl (by decide +kernel) rfl rfl (Nat.le_of_ble_eq_true rfl) dX1_init_12 (fun H locs hP hD hS => ?_)
  have hP : va_P D vwCl ([(g0, .inr (8, [.ref q_1, .null, .null, .null, .null, .null, .int 0, .int 0, .int 0, .int 0])), (q_1, .inr (9, [.int 2, .int 1, .int 115, .int 110, .ref r0_3]))]) H := hP
  have hD : va_D A ([(g0, .inr (8, [.ref q_1, .null, .null, .null, .null, .null, .int 0, .int 0, .int 0, .int 0])), (q_1, .inr (9, [.int 2, .int 1, .int 115, .int 110, .ref r0_3]))]) := hD
  refine lv_aload_n hx hb dX1_init_15 rfl (lv_at hl 0 rfl) ?_
  refine va_new (ci := 7) (fs := [.null, .null, .int 0, .int 0]) (C := RX0) (T := TX0) (N := 4) hx hb hts iRX0 tyX0 tyX0_ok hown (hts (.classLink RX1 18 RX0) (by decide +kernel)) (hts (.instantiable RX0 4) (by decide +kernel)) (hts (.initialized RX0) (by decide +kernel)) hK hP hD hS hA rfl (fun j hj => by rcases (show j = 0 ∨ j = 1 ∨ j = 2 ∨ j = 3 by omega) with rfl | rfl | rfl | rfl <;> rfl) (Nat.le_of_ble_eq_true rfl) (Nat.le_of_ble_eq_true rfl) dX1_init_16 (fun q_4 H hP hD hS => ?_)
  have hP : va_P D vwCl ([(g0, .inr (8, [.ref q_1, .null, .null, .null, .null, .null, .int 0, .int 0, .int 0, .int 0])), (q_1, .inr (9, [.int 2, .int 1, .int 115, .int 110, .ref r0_3])), (q_4, .inr (7, [.null, .null, .int 0, .int 0]))]) H := hP
  have hD : va_D A ([(g0, .inr (8, [.ref q_1, .null, .null, .null, .null, .null, .int 0, .int 0, .int 0, .int 0])), (q_1, .inr (9, [.int 2, .int 1, .int 115, .int 110, .ref r0_3])), (q_4, .inr (7, [.null, .null, .int 0, .int 0]))]) := hD
  refine W.widen (k := 3) (n := 14) (Nat.le_of_ble_eq_true rfl) (Nat.le_of_ble_eq_true rfl) ?_
  refine lv_dup hx hb dX1_init_19 rfl ?_
  refine lv_aload_n hx hb dX1_init_20 rfl (lv_at hl 0 rfl) ?_
  refine va_get (D := D) (ci := 8) (v := .ref q_1) (C := RX1) (T := TX1) (N := 10) hx hb hts iRX1 hown hK hP 0 rfl rfl 0 (by decide) (hts (.fieldLink RX1 12 "Sowingcourt$Game" "kind" "LSowingcourt$Kind;") (by decide +kernel)) (fun _ h9 => h9) rfl dX1_init_21 ?_
  have hS0 := hS
  have hFc := va_free (wc := [(q_4, .inr (7, [.null, .null, .int 0, .int 0]))]) hD hS hA [2] rfl
  refine va_callv (va_runI (As := [.ref q_1]) (rest := [.ref q_4, .ref g0]) ⟨hx, hb, hml, hown, hts⟩ (c_X0_init l κ D (H).size (q_4) (q_1) ) (cwI 1 hts gd_c_X1_init_24 rfl rfl rfl (hts (.initialized RX0) (by decide +kernel)) (hts (.methodLink RX1 20 yX0_init) (by decide +kernel)) (hts (.instanceMethod yX0_init) (by decide +kernel)) rfl (by decide +kernel) ⟨(Nat.le_of_ble_eq_true rfl), (Nat.le_of_ble_eq_true rfl)⟩) (preS hE hK hP hD hS hA [2] rfl (by decide) [] rfl) rfl rfl hl.1 rfl (lv_room (Nat.le_of_ble_eq_true rfl)) dX1_init_24 ⟨(Nat.le_of_ble_eq_true rfl), (Nat.le_of_ble_eq_true rfl)⟩) hS (fun q _ h => hFc q h) hFc (fun u t H1 locs ht hvm hw hB hz1 hk1 hS => ?_)
  obtain ⟨r0_6, hB⟩ := hB
  try dsimp only at hw
  obtain ⟨hP, hD, hK⟩ := jn (wc := [(q_4, .inr (7, [.null, .null, .int 0, .int 0]))]) (wr := [(g0, .inr (8, [.ref q_1, .null, .null, .null, .null, .null, .int 0, .int 0, .int 0, .int 0])), (q_1, .inr (9, [.int 2, .int 1, .int 115, .int 110, .ref r0_3]))]) (w1 := [(q_4, .inr (7, [.ref q_1, .ref r0_6, .int 0, .int 0]))]) (t1 := []) hP hD hK hS0 hA [2] [0, 1] rfl rfl (by decide) (by decide) ht hvm hk1 hB
  generalize H1 = H at hP hS ⊢
  have hP : va_P D vwCl ([(g0, .inr (8, [.ref q_1, .null, .null, .null, .null, .null, .int 0, .int 0, .int 0, .int 0])), (q_1, .inr (9, [.int 2, .int 1, .int 115, .int 110, .ref r0_3])), (q_4, .inr (7, [.ref q_1, .ref r0_6, .int 0, .int 0]))]) H := hP
  have hD : va_D A ([(g0, .inr (8, [.ref q_1, .null, .null, .null, .null, .null, .int 0, .int 0, .int 0, .int 0])), (q_1, .inr (9, [.int 2, .int 1, .int 115, .int 110, .ref r0_3])), (q_4, .inr (7, [.ref q_1, .ref r0_6, .int 0, .int 0]))]) := hD
  have hK : va_K D vwCl [] s := hK
  refine W.widen (k := 4) (n := 27) (Nat.le_of_ble_eq_true rfl) (Nat.le_of_ble_eq_true rfl) ?_
  refine va_putF (D := D) (ci := 8) (v := .ref q_4) (ty := .object "Sowingcourt$Board") (C := RX1) (T := TX1) (N := 10) hx hb hts iRX1 tyX1 tyX1_ok nmX1 hown hK hP hD hS 0 rfl rfl 1 (by decide) (hts (.fieldLink RX1 23 "Sowingcourt$Game" "now" "LSowingcourt$Board;") (by decide +kernel)) (fun _ h9 => h9) rfl hin rfl (by decide +kernel) rfl rfl (Nat.le_of_ble_eq_true rfl) dX1_init_27 (fun H locs hP hD hS => ?_)
  have hP : va_P D vwCl ([(g0, .inr (8, [.ref q_1, .ref q_4, .null, .null, .null, .null, .int 0, .int 0, .int 0, .int 0])), (q_1, .inr (9, [.int 2, .int 1, .int 115, .int 110, .ref r0_3])), (q_4, .inr (7, [.ref q_1, .ref r0_6, .int 0, .int 0]))]) H := hP
  have hD : va_D A ([(g0, .inr (8, [.ref q_1, .ref q_4, .null, .null, .null, .null, .int 0, .int 0, .int 0, .int 0])), (q_1, .inr (9, [.int 2, .int 1, .int 115, .int 110, .ref r0_3])), (q_4, .inr (7, [.ref q_1, .ref r0_6, .int 0, .int 0]))]) := hD
  refine lv_aload_n hx hb dX1_init_30 rfl (lv_at hl 0 rfl) ?_
  refine va_new (ci := 7) (fs := [.null, .null, .int 0, .int 0]) (C := RX0) (T := TX0) (N := 4) hx hb hts iRX0 tyX0 tyX0_ok hown (hts (.classLink RX1 18 RX0) (by decide +kernel)) (hts (.instantiable RX0 4) (by decide +kernel)) (hts (.initialized RX0) (by decide +kernel)) hK hP hD hS hA rfl (fun j hj => by rcases (show j = 0 ∨ j = 1 ∨ j = 2 ∨ j = 3 by omega) with rfl | rfl | rfl | rfl <;> rfl) (Nat.le_of_ble_eq_true rfl) (Nat.le_of_ble_eq_true rfl) dX1_init_31 (fun q_7 H hP hD hS => ?_)
  have hP : va_P D vwCl ([(g0, .inr (8, [.ref q_1, .ref q_4, .null, .null, .null, .null, .int 0, .int 0, .int 0, .int 0])), (q_1, .inr (9, [.int 2, .int 1, .int 115, .int 110, .ref r0_3])), (q_4, .inr (7, [.ref q_1, .ref r0_6, .int 0, .int 0])), (q_7, .inr (7, [.null, .null, .int 0, .int 0]))]) H := hP
  have hD : va_D A ([(g0, .inr (8, [.ref q_1, .ref q_4, .null, .null, .null, .null, .int 0, .int 0, .int 0, .int 0])), (q_1, .inr (9, [.int 2, .int 1, .int 115, .int 110, .ref r0_3])), (q_4, .inr (7, [.ref q_1, .ref r0_6, .int 0, .int 0])), (q_7, .inr (7, [.null, .null, .int 0, .int 0]))]) := hD
  refine W.widen (k := 5) (n := 31) (Nat.le_of_ble_eq_true rfl) (Nat.le_of_ble_eq_true rfl) ?_
  refine lv_dup hx hb dX1_init_34 rfl ?_
  refine lv_aload_n hx hb dX1_init_35 rfl (lv_at hl 0 rfl) ?_
  refine va_get (D := D) (ci := 8) (v := .ref q_1) (C := RX1) (T := TX1) (N := 10) hx hb hts iRX1 hown hK hP 0 rfl rfl 0 (by decide) (hts (.fieldLink RX1 12 "Sowingcourt$Game" "kind" "LSowingcourt$Kind;") (by decide +kernel)) (fun _ h9 => h9) rfl dX1_init_36 ?_
  have hS0 := hS
  have hFc := va_free (wc := [(q_7, .inr (7, [.null, .null, .int 0, .int 0]))]) hD hS hA [3] rfl
  refine va_callv (va_runI (As := [.ref q_1]) (rest := [.ref q_7, .ref g0]) ⟨hx, hb, hml, hown, hts⟩ (c_X0_init l κ D (H).size (q_7) (q_1) ) (cwI 1 hts gd_c_X1_init_39 rfl rfl rfl (hts (.initialized RX0) (by decide +kernel)) (hts (.methodLink RX1 20 yX0_init) (by decide +kernel)) (hts (.instanceMethod yX0_init) (by decide +kernel)) rfl (by decide +kernel) ⟨(Nat.le_of_ble_eq_true rfl), (Nat.le_of_ble_eq_true rfl)⟩) (preS hE hK hP hD hS hA [3] rfl (by decide) [] rfl) rfl rfl hl.1 rfl (lv_room (Nat.le_of_ble_eq_true rfl)) dX1_init_39 ⟨(Nat.le_of_ble_eq_true rfl), (Nat.le_of_ble_eq_true rfl)⟩) hS (fun q _ h => hFc q h) hFc (fun u t H1 locs ht hvm hw hB hz1 hk1 hS => ?_)
  obtain ⟨r0_9, hB⟩ := hB
  try dsimp only at hw
  obtain ⟨hP, hD, hK⟩ := jn (wc := [(q_7, .inr (7, [.null, .null, .int 0, .int 0]))]) (wr := [(g0, .inr (8, [.ref q_1, .ref q_4, .null, .null, .null, .null, .int 0, .int 0, .int 0, .int 0])), (q_1, .inr (9, [.int 2, .int 1, .int 115, .int 110, .ref r0_3])), (q_4, .inr (7, [.ref q_1, .ref r0_6, .int 0, .int 0]))]) (w1 := [(q_7, .inr (7, [.ref q_1, .ref r0_9, .int 0, .int 0]))]) (t1 := []) hP hD hK hS0 hA [3] [0, 1, 2] rfl rfl (by decide) (by decide) ht hvm hk1 hB
  generalize H1 = H at hP hS ⊢
  have hP : va_P D vwCl ([(g0, .inr (8, [.ref q_1, .ref q_4, .null, .null, .null, .null, .int 0, .int 0, .int 0, .int 0])), (q_1, .inr (9, [.int 2, .int 1, .int 115, .int 110, .ref r0_3])), (q_4, .inr (7, [.ref q_1, .ref r0_6, .int 0, .int 0])), (q_7, .inr (7, [.ref q_1, .ref r0_9, .int 0, .int 0]))]) H := hP
  have hD : va_D A ([(g0, .inr (8, [.ref q_1, .ref q_4, .null, .null, .null, .null, .int 0, .int 0, .int 0, .int 0])), (q_1, .inr (9, [.int 2, .int 1, .int 115, .int 110, .ref r0_3])), (q_4, .inr (7, [.ref q_1, .ref r0_6, .int 0, .int 0])), (q_7, .inr (7, [.ref q_1, .ref r0_9, .int 0, .int 0]))]) := hD
  have hK : va_K D vwCl [] s := hK
  refine W.widen (k := 6) (n := 44) (Nat.le_of_ble_eq_true rfl) (Nat.le_of_ble_eq_true rfl) ?_
  refine va_putF (D := D) (ci := 8) (v := .ref q_7) (ty := .object "Sowingcourt$Board") (C := RX1) (T := TX1) (N := 10) hx hb hts iRX1 tyX1 tyX1_ok nmX1 hown hK hP hD hS 0 rfl rfl 2 (by decide) (hts (.fieldLink RX1 27 "Sowingcourt$Game" "next" "LSowingcourt$Board;") (by decide +kernel)) (fun _ h9 => h9) rfl hin rfl (by decide +kernel) rfl rfl (Nat.le_of_ble_eq_true rfl) dX1_init_42 (fun H locs hP hD hS => ?_)
  have hP : va_P D vwCl ([(g0, .inr (8, [.ref q_1, .ref q_4, .ref q_7, .null, .null, .null, .int 0, .int 0, .int 0, .int 0])), (q_1, .inr (9, [.int 2, .int 1, .int 115, .int 110, .ref r0_3])), (q_4, .inr (7, [.ref q_1, .ref r0_6, .int 0, .int 0])), (q_7, .inr (7, [.ref q_1, .ref r0_9, .int 0, .int 0]))]) H := hP
  have hD : va_D A ([(g0, .inr (8, [.ref q_1, .ref q_4, .ref q_7, .null, .null, .null, .int 0, .int 0, .int 0, .int 0])), (q_1, .inr (9, [.int 2, .int 1, .int 115, .int 110, .ref r0_3])), (q_4, .inr (7, [.ref q_1, .ref r0_6, .int 0, .int 0])), (q_7, .inr (7, [.ref q_1, .ref r0_9, .int 0, .int 0]))]) := hD
  refine lv_aload_n hx hb dX1_init_45 rfl (lv_at hl 0 rfl) ?_
  refine lv_sipush (v := 6669) hx hb dX1_init_46 (by decide) ?_
  refine va_newa (atype := .int) (ty := .int) (a0 := (6669, .inl (fun _ => 0))) hx hb (hts (.arrayClass .int) (by decide +kernel)) rfl hK hP hD hS hA (fun _ => rfl) (N' := 6669) (by decide) (by decide +kernel) (Nat.le_of_ble_eq_true rfl) (Nat.le_of_ble_eq_true rfl) (Nat.le_of_ble_eq_true rfl) dX1_init_49 (fun q_10 cA_11 H hK hP hD hS => ?_)
  have hP : va_P D vwCl ([(g0, .inr (8, [.ref q_1, .ref q_4, .ref q_7, .null, .null, .null, .int 0, .int 0, .int 0, .int 0])), (q_1, .inr (9, [.int 2, .int 1, .int 115, .int 110, .ref r0_3])), (q_4, .inr (7, [.ref q_1, .ref r0_6, .int 0, .int 0])), (q_7, .inr (7, [.ref q_1, .ref r0_9, .int 0, .int 0])), (q_10, .inl (cA_11, 6669, .inl (fun _ => 0)))]) H := hP
  have hD : va_D A ([(g0, .inr (8, [.ref q_1, .ref q_4, .ref q_7, .null, .null, .null, .int 0, .int 0, .int 0, .int 0])), (q_1, .inr (9, [.int 2, .int 1, .int 115, .int 110, .ref r0_3])), (q_4, .inr (7, [.ref q_1, .ref r0_6, .int 0, .int 0])), (q_7, .inr (7, [.ref q_1, .ref r0_9, .int 0, .int 0])), (q_10, .inl (cA_11, 6669, .inl (fun _ => 0)))]) := hD
  have hK : va_K D vwCl [(cA_11, .int)] s := hK
  refine W.widen (k := 7) (n := 6713) (Nat.le_of_ble_eq_true rfl) (Nat.le_of_ble_eq_true rfl) ?_
  refine va_putF (D := D) (ci := 8) (v := .ref q_10) (ty := .array .int) (C := RX1) (T := TX1) (N := 10) hx hb hts iRX1 tyX1 tyX1_ok nmX1 hown hK hP hD hS 0 rfl rfl 3 (by decide) (hts (.fieldLink RX1 30 "Sowingcourt$Game" "past" "[I") (by decide +kernel)) (fun _ h9 => h9) rfl hin rfl (by decide +kernel) rfl rfl (Nat.le_of_ble_eq_true rfl) dX1_init_51 (fun H locs hP hD hS => ?_)
  have hP : va_P D vwCl ([(g0, .inr (8, [.ref q_1, .ref q_4, .ref q_7, .ref q_10, .null, .null, .int 0, .int 0, .int 0, .int 0])), (q_1, .inr (9, [.int 2, .int 1, .int 115, .int 110, .ref r0_3])), (q_4, .inr (7, [.ref q_1, .ref r0_6, .int 0, .int 0])), (q_7, .inr (7, [.ref q_1, .ref r0_9, .int 0, .int 0])), (q_10, .inl (cA_11, 6669, .inl (fun _ => 0)))]) H := hP
  have hD : va_D A ([(g0, .inr (8, [.ref q_1, .ref q_4, .ref q_7, .ref q_10, .null, .null, .int 0, .int 0, .int 0, .int 0])), (q_1, .inr (9, [.int 2, .int 1, .int 115, .int 110, .ref r0_3])), (q_4, .inr (7, [.ref q_1, .ref r0_6, .int 0, .int 0])), (q_7, .inr (7, [.ref q_1, .ref r0_9, .int 0, .int 0])), (q_10, .inl (cA_11, 6669, .inl (fun _ => 0)))]) := hD
  refine lv_aload_n hx hb dX1_init_54 rfl (lv_at hl 0 rfl) ?_
  refine lv_sipush (v := 512) hx hb dX1_init_55 (by decide) ?_
  refine va_newa (atype := .int) (ty := .int) (a0 := (512, .inl (fun _ => 0))) hx hb (hts (.arrayClass .int) (by decide +kernel)) rfl hK hP hD hS hA (fun _ => rfl) (N' := 512) (by decide) (by decide +kernel) (Nat.le_of_ble_eq_true rfl) (Nat.le_of_ble_eq_true rfl) (Nat.le_of_ble_eq_true rfl) dX1_init_58 (fun q_12 cA_13 H hK hP hD hS => ?_)
  have hP : va_P D vwCl ([(g0, .inr (8, [.ref q_1, .ref q_4, .ref q_7, .ref q_10, .null, .null, .int 0, .int 0, .int 0, .int 0])), (q_1, .inr (9, [.int 2, .int 1, .int 115, .int 110, .ref r0_3])), (q_4, .inr (7, [.ref q_1, .ref r0_6, .int 0, .int 0])), (q_7, .inr (7, [.ref q_1, .ref r0_9, .int 0, .int 0])), (q_10, .inl (cA_11, 6669, .inl (fun _ => 0))), (q_12, .inl (cA_13, 512, .inl (fun _ => 0)))]) H := hP
  have hD : va_D A ([(g0, .inr (8, [.ref q_1, .ref q_4, .ref q_7, .ref q_10, .null, .null, .int 0, .int 0, .int 0, .int 0])), (q_1, .inr (9, [.int 2, .int 1, .int 115, .int 110, .ref r0_3])), (q_4, .inr (7, [.ref q_1, .ref r0_6, .int 0, .int 0])), (q_7, .inr (7, [.ref q_1, .ref r0_9, .int 0, .int 0])), (q_10, .inl (cA_11, 6669, .inl (fun _ => 0))), (q_12, .inl (cA_13, 512, .inl (fun _ => 0)))]) := hD
  have hK : va_K D vwCl [(cA_11, .int), (cA_13, .int)] s := hK
  refine W.widen (k := 8) (n := 7225) (Nat.le_of_ble_eq_true rfl) (Nat.le_of_ble_eq_true rfl) ?_
  refine va_putF (D := D) (ci := 8) (v := .ref q_12) (ty := .array .int) (C := RX1) (T := TX1) (N := 10) hx hb hts iRX1 tyX1 tyX1_ok nmX1 hown hK hP hD hS 0 rfl rfl 4 (by decide) (hts (.fieldLink RX1 34 "Sowingcourt$Game" "played" "[I") (by decide +kernel)) (fun _ h9 => h9) rfl hin rfl (by decide +kernel) rfl rfl (Nat.le_of_ble_eq_true rfl) dX1_init_60 (fun H locs hP hD hS => ?_)
  have hP : va_P D vwCl ([(g0, .inr (8, [.ref q_1, .ref q_4, .ref q_7, .ref q_10, .ref q_12, .null, .int 0, .int 0, .int 0, .int 0])), (q_1, .inr (9, [.int 2, .int 1, .int 115, .int 110, .ref r0_3])), (q_4, .inr (7, [.ref q_1, .ref r0_6, .int 0, .int 0])), (q_7, .inr (7, [.ref q_1, .ref r0_9, .int 0, .int 0])), (q_10, .inl (cA_11, 6669, .inl (fun _ => 0))), (q_12, .inl (cA_13, 512, .inl (fun _ => 0)))]) H := hP
  have hD : va_D A ([(g0, .inr (8, [.ref q_1, .ref q_4, .ref q_7, .ref q_10, .ref q_12, .null, .int 0, .int 0, .int 0, .int 0])), (q_1, .inr (9, [.int 2, .int 1, .int 115, .int 110, .ref r0_3])), (q_4, .inr (7, [.ref q_1, .ref r0_6, .int 0, .int 0])), (q_7, .inr (7, [.ref q_1, .ref r0_9, .int 0, .int 0])), (q_10, .inl (cA_11, 6669, .inl (fun _ => 0))), (q_12, .inl (cA_13, 512, .inl (fun _ => 0)))]) := hD
  refine lv_aload_n hx hb dX1_init_63 rfl (lv_at hl 0 rfl) ?_
  refine lv_sipush (v := 512) hx hb dX1_init_64 (by decide) ?_
  refine va_newa (atype := .int) (ty := .int) (a0 := (512, .inl (fun _ => 0))) hx hb (hts (.arrayClass .int) (by decide +kernel)) rfl hK hP hD hS hA (fun _ => rfl) (N' := 512) (by decide) (by decide +kernel) (Nat.le_of_ble_eq_true rfl) (Nat.le_of_ble_eq_true rfl) (Nat.le_of_ble_eq_true rfl) dX1_init_67 (fun q_14 cA_15 H hK hP hD hS => ?_)
  have hP : va_P D vwCl ([(g0, .inr (8, [.ref q_1, .ref q_4, .ref q_7, .ref q_10, .ref q_12, .null, .int 0, .int 0, .int 0, .int 0])), (q_1, .inr (9, [.int 2, .int 1, .int 115, .int 110, .ref r0_3])), (q_4, .inr (7, [.ref q_1, .ref r0_6, .int 0, .int 0])), (q_7, .inr (7, [.ref q_1, .ref r0_9, .int 0, .int 0])), (q_10, .inl (cA_11, 6669, .inl (fun _ => 0))), (q_12, .inl (cA_13, 512, .inl (fun _ => 0))), (q_14, .inl (cA_15, 512, .inl (fun _ => 0)))]) H := hP
  have hD : va_D A ([(g0, .inr (8, [.ref q_1, .ref q_4, .ref q_7, .ref q_10, .ref q_12, .null, .int 0, .int 0, .int 0, .int 0])), (q_1, .inr (9, [.int 2, .int 1, .int 115, .int 110, .ref r0_3])), (q_4, .inr (7, [.ref q_1, .ref r0_6, .int 0, .int 0])), (q_7, .inr (7, [.ref q_1, .ref r0_9, .int 0, .int 0])), (q_10, .inl (cA_11, 6669, .inl (fun _ => 0))), (q_12, .inl (cA_13, 512, .inl (fun _ => 0))), (q_14, .inl (cA_15, 512, .inl (fun _ => 0)))]) := hD
  have hK : va_K D vwCl [(cA_11, .int), (cA_13, .int), (cA_15, .int)] s := hK
  refine W.widen (k := 9) (n := 7737) (Nat.le_of_ble_eq_true rfl) (Nat.le_of_ble_eq_true rfl) ?_
  refine va_putF (D := D) (ci := 8) (v := .ref q_14) (ty := .array .int) (C := RX1) (T := TX1) (N := 10) hx hb hts iRX1 tyX1 tyX1_ok nmX1 hown hK hP hD hS 0 rfl rfl 5 (by decide) (hts (.fieldLink RX1 37 "Sowingcourt$Game" "lapsOf" "[I") (by decide +kernel)) (fun _ h9 => h9) rfl hin rfl (by decide +kernel) rfl rfl (Nat.le_of_ble_eq_true rfl) dX1_init_69 (fun H locs hP hD hS => ?_)
  have hP : va_P D vwCl ([(g0, .inr (8, [.ref q_1, .ref q_4, .ref q_7, .ref q_10, .ref q_12, .ref q_14, .int 0, .int 0, .int 0, .int 0])), (q_1, .inr (9, [.int 2, .int 1, .int 115, .int 110, .ref r0_3])), (q_4, .inr (7, [.ref q_1, .ref r0_6, .int 0, .int 0])), (q_7, .inr (7, [.ref q_1, .ref r0_9, .int 0, .int 0])), (q_10, .inl (cA_11, 6669, .inl (fun _ => 0))), (q_12, .inl (cA_13, 512, .inl (fun _ => 0))), (q_14, .inl (cA_15, 512, .inl (fun _ => 0)))]) H := hP
  have hD : va_D A ([(g0, .inr (8, [.ref q_1, .ref q_4, .ref q_7, .ref q_10, .ref q_12, .ref q_14, .int 0, .int 0, .int 0, .int 0])), (q_1, .inr (9, [.int 2, .int 1, .int 115, .int 110, .ref r0_3])), (q_4, .inr (7, [.ref q_1, .ref r0_6, .int 0, .int 0])), (q_7, .inr (7, [.ref q_1, .ref r0_9, .int 0, .int 0])), (q_10, .inl (cA_11, 6669, .inl (fun _ => 0))), (q_12, .inl (cA_13, 512, .inl (fun _ => 0))), (q_14, .inl (cA_15, 512, .inl (fun _ => 0)))]) := hD
  refine W.widen (k := 9) (n := 7737) (Nat.le_of_ble_eq_true rfl) (Nat.le_of_ble_eq_true rfl) ?_
  exact W.vret hx hb hr (fun t ht hW => ⟨⟨(), rfl, trivial, q_1, q_4, q_7, q_10, q_12, q_14, PB.at hP hK hD hW.alike ht [0] rfl (by decide) [] rfl⟩, hS.F ht⟩) hS.2.2 dX1_init_72

def wm_c_X4_init : List Cond := .code yX4_init cX4_init 3 none :: ([.methodLink RX4 3 objectInit, .instanceMethod objectInit, .code objectInit ⟨#[0xb1]⟩ 1 none, .classLink RX4 9 RX0, .fieldLink RX4 11 "Sowingcourt$Search" "levels" "[LSowingcourt$Board;", .arrayClass .boolean, .fieldLink RX4 17 "Sowingcourt$Search" "free" "[Z", .arrayClass .int, .fieldLink RX4 21 "Sowingcourt$Search" "worth" "[I", .instantiable RX0 4, .initialized RX0, .code yX0_init cX0_init 2 none, .methodLink RX0 3 objectInit, .fieldLink RX0 11 "Sowingcourt$Board" "cells" "[I", .fieldLink RX0 15 "Sowingcourt$Board" "kind" "LSowingcourt$Kind;", .methodLink RX4 25 yX0_init, .instanceMethod yX0_init] ++ wsX40 ++ wsX00)
set_option maxRecDepth 20000 in
theorem gd_c_X4_init_46 : GoodIn wm_c_X4_init wm_c_X0_init := goodIn_of _ (by decide +kernel)
set_option maxHeartbeats 4000000 in
set_option maxRecDepth 100000 in
theorem c_X4_init (l : Launch) (κ : Nat → Nat) (D : va_G) (sz : Nat) (h0 : Nat) (k0 : Nat)  : Met l yX4_init wm_c_X4_init ({ frames := 9, cells := 15, slots := 128, locals := 260 }) (va_Pc [.ref h0, .ref k0] (PC κ D [] [(h0, .inr (11, [.null, .null, .null, .int 0, .int 0, .int 0]))] sz)) (va_Qv (fun _ : Unit => True) (fun _ t => PB D [] [] (va_A [(h0, .inr (11, [.null, .null, .null, .int 0, .int 0, .int 0]))] sz) t) (va_A [(h0, .inr (11, [.null, .null, .null, .int 0, .int 0, .int 0]))] sz)) 15 128 (va_A [(h0, .inr (11, [.null, .null, .null, .int 0, .int 0, .int 0]))] sz) := by
  refine Met.ofW (cc := cX4_init) (maxL := 3) (ret := none) (by decide +kernel) rfl ?_
  intro p e s m args below meth c s₁ B hml hv
  obtain ⟨rfl, hsz, hP, hK, hD0, hE⟩ := hv
  have hx := B.exec
  have hb := B.bytes
  have hr := B.returns
  have hts := atoms_spec (ws := wm_c_X4_init) B.pre
  have hown : s.vm.findClass RX4 = some m.cls := findClass_of_methodNamed B.named
  have hlocks := B.notSynchronized
  have hin : meth.name = "<init>" := (name_of_methodNamed B.named B.method).1
  have iRX4 : ∀ w ∈ u_ws RX4 TX4 6, w ∈ wm_c_X4_init := by decide +kernel
  have iRX0 : ∀ w ∈ u_ws RX0 TX0 4, w ∈ wm_c_X4_init := by decide +kernel
  subst hsz
  have hD := hD0.self (sz := s.heap.size)
  generalize hAe : va_A [(h0, .inr (11, [.null, .null, .null, .int 0, .int 0, .int 0]))] s.heap.size = A at hD hE ⊢
  have hA : ∀ q : Nat, s.heap.size ≤ q → A q := fun q h => by rw [← hAe]; exact Or.inr h
  have hS : va_S A s.heap s.heap [] := va_S.rf
  have hl := lv_entry ([.ref h0, .ref k0]) (n := 3) (Nat.le_of_ble_eq_true rfl)
  rw [lg_entry_eq]
  generalize (lg_sl ([.ref h0, .ref k0]) ++ List.replicate (3 - (lg_sl ([.ref h0, .ref k0])).length) Slot.unset).toArray = ls at hl ⊢
  have hl : lv_has ls 3 [(0, .ref h0), (1, .ref k0)] := hl
  refine lv_aload_n hx hb dX4_init_0 rfl (lv_at hl 0 rfl) ?_
  refine W.objInit hx hb hown (hts (.methodLink RX4 3 objectInit) (by decide +kernel)) (hts (.instanceMethod objectInit) (by decide +kernel)) (hts (.code objectInit ⟨#[0xb1]⟩ 1 none) (by decide +kernel)) rfl (by rw [hml]; exact hl.1) rfl dX4_init_1 (Nat.le_of_ble_eq_true rfl) (Nat.le_of_ble_eq_true rfl) ?_
  refine W.eq (g2 := F0 m 4 ls []) rfl ?_
  refine lv_aload_n hx hb dX4_init_4 rfl (lv_at hl 0 rfl) ?_
  refine lv_bipush (v := 6) hx hb dX4_init_5 (by decide) ?_
  refine va_newq (C := "Sowingcourt$Board") hx hb hown (hts (.classLink RX4 9 RX0) (by decide +kernel)) hE.ao1 hK hP hD hS hA (N' := 6) (by decide) (by decide +kernel) (Nat.le_of_ble_eq_true rfl) (Nat.le_of_ble_eq_true rfl) (Nat.le_of_ble_eq_true rfl) dX4_init_7 (fun q_1 cA_2 H hK hP hD hS => ?_)
  have hP : va_P D vwCl ([(h0, .inr (11, [.null, .null, .null, .int 0, .int 0, .int 0])), (q_1, .inl (cA_2, 6, .inr (.inr (.inr (.inr (fun _ => none))))))]) H := hP
  have hD : va_D A ([(h0, .inr (11, [.null, .null, .null, .int 0, .int 0, .int 0])), (q_1, .inl (cA_2, 6, .inr (.inr (.inr (.inr (fun _ => none))))))]) := hD
  have hK : va_K D vwCl [(cA_2, .object "Sowingcourt$Board")] s := hK
  refine W.widen (k := 1) (n := 6) (Nat.le_of_ble_eq_true rfl) (Nat.le_of_ble_eq_true rfl) ?_
  refine va_putF (D := D) (ci := 11) (v := .ref q_1) (ty := .array (.object "Sowingcourt$Board")) (C := RX4) (T := TX4) (N := 6) hx hb hts iRX4 tyX4 tyX4_ok nmX4 hown hK hP hD hS 0 rfl rfl 0 (by decide) (hts (.fieldLink RX4 11 "Sowingcourt$Search" "levels" "[LSowingcourt$Board;") (by decide +kernel)) (fun _ h9 => h9) rfl hin rfl (by decide +kernel) rfl rfl (Nat.le_of_ble_eq_true rfl) dX4_init_10 (fun H locs hP hD hS => ?_)
  have hP : va_P D vwCl ([(h0, .inr (11, [.ref q_1, .null, .null, .int 0, .int 0, .int 0])), (q_1, .inl (cA_2, 6, .inr (.inr (.inr (.inr (fun _ => none))))))]) H := hP
  have hD : va_D A ([(h0, .inr (11, [.ref q_1, .null, .null, .int 0, .int 0, .int 0])), (q_1, .inl (cA_2, 6, .inr (.inr (.inr (.inr (fun _ => none))))))]) := hD
  refine lv_aload_n hx hb dX4_init_13 rfl (lv_at hl 0 rfl) ?_
  refine lv_bipush (v := 10) hx hb dX4_init_14 (by decide) ?_
  refine va_newa (atype := .boolean) (ty := .boolean) (a0 := (10, .inl (fun _ => 0))) hx hb (hts (.arrayClass .boolean) (by decide +kernel)) rfl hK hP hD hS hA (fun _ => rfl) (N' := 10) (by decide) (by decide +kernel) (Nat.le_of_ble_eq_true rfl) (Nat.le_of_ble_eq_true rfl) (Nat.le_of_ble_eq_true rfl) dX4_init_16 (fun q_3 cA_4 H hK hP hD hS => ?_)
  have hP : va_P D vwCl ([(h0, .inr (11, [.ref q_1, .null, .null, .int 0, .int 0, .int 0])), (q_1, .inl (cA_2, 6, .inr (.inr (.inr (.inr (fun _ => none)))))), (q_3, .inl (cA_4, 10, .inl (fun _ => 0)))]) H := hP
  have hD : va_D A ([(h0, .inr (11, [.ref q_1, .null, .null, .int 0, .int 0, .int 0])), (q_1, .inl (cA_2, 6, .inr (.inr (.inr (.inr (fun _ => none)))))), (q_3, .inl (cA_4, 10, .inl (fun _ => 0)))]) := hD
  have hK : va_K D vwCl [(cA_2, .object "Sowingcourt$Board"), (cA_4, .boolean)] s := hK
  refine W.widen (k := 2) (n := 16) (Nat.le_of_ble_eq_true rfl) (Nat.le_of_ble_eq_true rfl) ?_
  refine va_putF (D := D) (ci := 11) (v := .ref q_3) (ty := .array .boolean) (C := RX4) (T := TX4) (N := 6) hx hb hts iRX4 tyX4 tyX4_ok nmX4 hown hK hP hD hS 0 rfl rfl 1 (by decide) (hts (.fieldLink RX4 17 "Sowingcourt$Search" "free" "[Z") (by decide +kernel)) (fun _ h9 => h9) rfl hin rfl (by decide +kernel) rfl rfl (Nat.le_of_ble_eq_true rfl) dX4_init_18 (fun H locs hP hD hS => ?_)
  have hP : va_P D vwCl ([(h0, .inr (11, [.ref q_1, .ref q_3, .null, .int 0, .int 0, .int 0])), (q_1, .inl (cA_2, 6, .inr (.inr (.inr (.inr (fun _ => none)))))), (q_3, .inl (cA_4, 10, .inl (fun _ => 0)))]) H := hP
  have hD : va_D A ([(h0, .inr (11, [.ref q_1, .ref q_3, .null, .int 0, .int 0, .int 0])), (q_1, .inl (cA_2, 6, .inr (.inr (.inr (.inr (fun _ => none)))))), (q_3, .inl (cA_4, 10, .inl (fun _ => 0)))]) := hD
  refine lv_aload_n hx hb dX4_init_21 rfl (lv_at hl 0 rfl) ?_
  refine lv_bipush (v := 10) hx hb dX4_init_22 (by decide) ?_
  refine va_newa (atype := .int) (ty := .int) (a0 := (10, .inl (fun _ => 0))) hx hb (hts (.arrayClass .int) (by decide +kernel)) rfl hK hP hD hS hA (fun _ => rfl) (N' := 10) (by decide) (by decide +kernel) (Nat.le_of_ble_eq_true rfl) (Nat.le_of_ble_eq_true rfl) (Nat.le_of_ble_eq_true rfl) dX4_init_24 (fun q_5 cA_6 H hK hP hD hS => ?_)
  have hP : va_P D vwCl ([(h0, .inr (11, [.ref q_1, .ref q_3, .null, .int 0, .int 0, .int 0])), (q_1, .inl (cA_2, 6, .inr (.inr (.inr (.inr (fun _ => none)))))), (q_3, .inl (cA_4, 10, .inl (fun _ => 0))), (q_5, .inl (cA_6, 10, .inl (fun _ => 0)))]) H := hP
  have hD : va_D A ([(h0, .inr (11, [.ref q_1, .ref q_3, .null, .int 0, .int 0, .int 0])), (q_1, .inl (cA_2, 6, .inr (.inr (.inr (.inr (fun _ => none)))))), (q_3, .inl (cA_4, 10, .inl (fun _ => 0))), (q_5, .inl (cA_6, 10, .inl (fun _ => 0)))]) := hD
  have hK : va_K D vwCl [(cA_2, .object "Sowingcourt$Board"), (cA_4, .boolean), (cA_6, .int)] s := hK
  refine W.widen (k := 3) (n := 26) (Nat.le_of_ble_eq_true rfl) (Nat.le_of_ble_eq_true rfl) ?_
  refine va_putF (D := D) (ci := 11) (v := .ref q_5) (ty := .array .int) (C := RX4) (T := TX4) (N := 6) hx hb hts iRX4 tyX4 tyX4_ok nmX4 hown hK hP hD hS 0 rfl rfl 2 (by decide) (hts (.fieldLink RX4 21 "Sowingcourt$Search" "worth" "[I") (by decide +kernel)) (fun _ h9 => h9) rfl hin rfl (by decide +kernel) rfl rfl (Nat.le_of_ble_eq_true rfl) dX4_init_26 (fun H locs hP hD hS => ?_)
  have hP : va_P D vwCl ([(h0, .inr (11, [.ref q_1, .ref q_3, .ref q_5, .int 0, .int 0, .int 0])), (q_1, .inl (cA_2, 6, .inr (.inr (.inr (.inr (fun _ => none)))))), (q_3, .inl (cA_4, 10, .inl (fun _ => 0))), (q_5, .inl (cA_6, 10, .inl (fun _ => 0)))]) H := hP
  have hD : va_D A ([(h0, .inr (11, [.ref q_1, .ref q_3, .ref q_5, .int 0, .int 0, .int 0])), (q_1, .inl (cA_2, 6, .inr (.inr (.inr (.inr (fun _ => none)))))), (q_3, .inl (cA_4, 10, .inl (fun _ => 0))), (q_5, .inl (cA_6, 10, .inl (fun _ => 0)))]) := hD
  refine lv_iconst (v := 0) hx hb dX4_init_29 (by decide) ?_
  refine lv_istore_n (lv' := [(2, .int 0), (0, .ref h0), (1, .ref k0)]) hx hb dX4_init_30 rfl hl (by decide) rfl (fun ls hl => ?_)
  refine lv_iload_n hx hb dX4_init_31 rfl (lv_at hl 0 rfl) ?_
  refine lv_iconst (v := 5) hx hb dX4_init_32 (by decide) ?_
  refine lv_icmp_gt (tgt := 56) hx hb dX4_init_33 (by decide) (fun c_33 => absurd c_33 (by decide)) (fun _ => ?_)
  refine lv_aload_n hx hb dX4_init_36 rfl (lv_at hl 1 rfl) ?_
  refine va_get (D := D) (ci := 11) (v := .ref q_1) (C := RX4) (T := TX4) (N := 6) hx hb hts iRX4 hown hK hP 0 rfl rfl 0 (by decide) (hts (.fieldLink RX4 11 "Sowingcourt$Search" "levels" "[LSowingcourt$Board;") (by decide +kernel)) (fun _ h9 => h9) rfl dX4_init_37 ?_
  refine lv_iload_n hx hb dX4_init_40 rfl (lv_at hl 0 rfl) ?_
  refine va_new (ci := 7) (fs := [.null, .null, .int 0, .int 0]) (C := RX0) (T := TX0) (N := 4) hx hb hts iRX0 tyX0 tyX0_ok hown (hts (.classLink RX4 9 RX0) (by decide +kernel)) (hts (.instantiable RX0 4) (by decide +kernel)) (hts (.initialized RX0) (by decide +kernel)) hK hP hD hS hA rfl (fun j hj => by rcases (show j = 0 ∨ j = 1 ∨ j = 2 ∨ j = 3 by omega) with rfl | rfl | rfl | rfl <;> rfl) (Nat.le_of_ble_eq_true rfl) (Nat.le_of_ble_eq_true rfl) dX4_init_41 (fun q_7 H hP hD hS => ?_)
  have hP : va_P D vwCl ([(h0, .inr (11, [.ref q_1, .ref q_3, .ref q_5, .int 0, .int 0, .int 0])), (q_1, .inl (cA_2, 6, .inr (.inr (.inr (.inr (fun _ => none)))))), (q_3, .inl (cA_4, 10, .inl (fun _ => 0))), (q_5, .inl (cA_6, 10, .inl (fun _ => 0))), (q_7, .inr (7, [.null, .null, .int 0, .int 0]))]) H := hP
  have hD : va_D A ([(h0, .inr (11, [.ref q_1, .ref q_3, .ref q_5, .int 0, .int 0, .int 0])), (q_1, .inl (cA_2, 6, .inr (.inr (.inr (.inr (fun _ => none)))))), (q_3, .inl (cA_4, 10, .inl (fun _ => 0))), (q_5, .inl (cA_6, 10, .inl (fun _ => 0))), (q_7, .inr (7, [.null, .null, .int 0, .int 0]))]) := hD
  refine W.widen (k := 4) (n := 30) (Nat.le_of_ble_eq_true rfl) (Nat.le_of_ble_eq_true rfl) ?_
  refine lv_dup hx hb dX4_init_44 rfl ?_
  refine lv_aload_n hx hb dX4_init_45 rfl (lv_at hl 2 rfl) ?_
  have hS0 := hS
  have hFc := va_free (wc := [(q_7, .inr (7, [.null, .null, .int 0, .int 0]))]) hD hS hA [4] rfl
  refine va_callv (va_runI (As := [.ref k0]) (rest := [.ref q_7, .int 0, .ref q_1]) ⟨hx, hb, hml, hown, hts⟩ (c_X0_init l κ D (H).size (q_7) (k0) ) (cwI 1 hts gd_c_X4_init_46 rfl rfl rfl (hts (.initialized RX0) (by decide +kernel)) (hts (.methodLink RX4 25 yX0_init) (by decide +kernel)) (hts (.instanceMethod yX0_init) (by decide +kernel)) rfl (by decide +kernel) ⟨(Nat.le_of_ble_eq_true rfl), (Nat.le_of_ble_eq_true rfl)⟩) (preS hE hK hP hD hS hA [4] rfl (by decide) [] rfl) rfl rfl hl.1 rfl (lv_room (Nat.le_of_ble_eq_true rfl)) dX4_init_46 ⟨(Nat.le_of_ble_eq_true rfl), (Nat.le_of_ble_eq_true rfl)⟩) hS (fun q _ h => hFc q h) hFc (fun u t H1 locs ht hvm hw hB hz1 hk1 hS => ?_)
  obtain ⟨r0_9, hB⟩ := hB
  try dsimp only at hw
  obtain ⟨hP, hD, hK⟩ := jn (wc := [(q_7, .inr (7, [.null, .null, .int 0, .int 0]))]) (wr := [(h0, .inr (11, [.ref q_1, .ref q_3, .ref q_5, .int 0, .int 0, .int 0])), (q_1, .inl (cA_2, 6, .inr (.inr (.inr (.inr (fun _ => none)))))), (q_3, .inl (cA_4, 10, .inl (fun _ => 0))), (q_5, .inl (cA_6, 10, .inl (fun _ => 0)))]) (w1 := [(q_7, .inr (7, [.ref k0, .ref r0_9, .int 0, .int 0]))]) (t1 := []) hP hD hK hS0 hA [4] [0, 1, 2, 3] rfl rfl (by decide) (by decide) ht hvm hk1 hB
  generalize H1 = H at hP hS ⊢
  have hP : va_P D vwCl ([(h0, .inr (11, [.ref q_1, .ref q_3, .ref q_5, .int 0, .int 0, .int 0])), (q_1, .inl (cA_2, 6, .inr (.inr (.inr (.inr (fun _ => none)))))), (q_3, .inl (cA_4, 10, .inl (fun _ => 0))), (q_5, .inl (cA_6, 10, .inl (fun _ => 0))), (q_7, .inr (7, [.ref k0, .ref r0_9, .int 0, .int 0]))]) H := hP
  have hD : va_D A ([(h0, .inr (11, [.ref q_1, .ref q_3, .ref q_5, .int 0, .int 0, .int 0])), (q_1, .inl (cA_2, 6, .inr (.inr (.inr (.inr (fun _ => none)))))), (q_3, .inl (cA_4, 10, .inl (fun _ => 0))), (q_5, .inl (cA_6, 10, .inl (fun _ => 0))), (q_7, .inr (7, [.ref k0, .ref r0_9, .int 0, .int 0]))]) := hD
  have hK : va_K D vwCl [(cA_2, .object "Sowingcourt$Board"), (cA_4, .boolean), (cA_6, .int)] s := hK
  refine W.widen (k := 5) (n := 43) (Nat.le_of_ble_eq_true rfl) (Nat.le_of_ble_eq_true rfl) ?_
  refine va_astq hx hb hK hP hD hS 1 0 4 7 rfl rfl rfl rfl (by unfold vp_in; decide) dX4_init_49 (fun H locs hP hD hS => ?_)
  have hP : va_P D vwCl ([(h0, .inr (11, [.ref q_1, .ref q_3, .ref q_5, .int 0, .int 0, .int 0])), (q_1, .inl (cA_2, 6, .inr (.inr (.inr (.inr (va_up (fun _ => none) 0 (some q_7))))))), (q_3, .inl (cA_4, 10, .inl (fun _ => 0))), (q_5, .inl (cA_6, 10, .inl (fun _ => 0))), (q_7, .inr (7, [.ref k0, .ref r0_9, .int 0, .int 0]))]) H := hP
  have hD : va_D A ([(h0, .inr (11, [.ref q_1, .ref q_3, .ref q_5, .int 0, .int 0, .int 0])), (q_1, .inl (cA_2, 6, .inr (.inr (.inr (.inr (va_up (fun _ => none) 0 (some q_7))))))), (q_3, .inl (cA_4, 10, .inl (fun _ => 0))), (q_5, .inl (cA_6, 10, .inl (fun _ => 0))), (q_7, .inr (7, [.ref k0, .ref r0_9, .int 0, .int 0]))]) := hD
  refine lv_iinc (v := 1) (lv' := [(2, .int 1), (0, .ref h0), (1, .ref k0)]) hx hb dX4_init_50 hl (k := 0) rfl (by decide) (by decide) rfl (fun ls hl => ?_)
  refine lv_goto (tgt := 31) hx hb dX4_init_53 (by decide) ?_
  refine lv_iload_n hx hb dX4_init_31 rfl (lv_at hl 0 rfl) ?_
  refine lv_iconst (v := 5) hx hb dX4_init_32 (by decide) ?_
  refine lv_icmp_gt (tgt := 56) hx hb dX4_init_33 (by decide) (fun c_33 => absurd c_33 (by decide)) (fun _ => ?_)
  refine lv_aload_n hx hb dX4_init_36 rfl (lv_at hl 1 rfl) ?_
  refine va_get (D := D) (ci := 11) (v := .ref q_1) (C := RX4) (T := TX4) (N := 6) hx hb hts iRX4 hown hK hP 0 rfl rfl 0 (by decide) (hts (.fieldLink RX4 11 "Sowingcourt$Search" "levels" "[LSowingcourt$Board;") (by decide +kernel)) (fun _ h9 => h9) rfl dX4_init_37 ?_
  refine lv_iload_n hx hb dX4_init_40 rfl (lv_at hl 0 rfl) ?_
  refine va_new (ci := 7) (fs := [.null, .null, .int 0, .int 0]) (C := RX0) (T := TX0) (N := 4) hx hb hts iRX0 tyX0 tyX0_ok hown (hts (.classLink RX4 9 RX0) (by decide +kernel)) (hts (.instantiable RX0 4) (by decide +kernel)) (hts (.initialized RX0) (by decide +kernel)) hK hP hD hS hA rfl (fun j hj => by rcases (show j = 0 ∨ j = 1 ∨ j = 2 ∨ j = 3 by omega) with rfl | rfl | rfl | rfl <;> rfl) (Nat.le_of_ble_eq_true rfl) (Nat.le_of_ble_eq_true rfl) dX4_init_41 (fun q_10 H hP hD hS => ?_)
  have hP : va_P D vwCl ([(h0, .inr (11, [.ref q_1, .ref q_3, .ref q_5, .int 0, .int 0, .int 0])), (q_1, .inl (cA_2, 6, .inr (.inr (.inr (.inr (va_up (fun _ => none) 0 (some q_7))))))), (q_3, .inl (cA_4, 10, .inl (fun _ => 0))), (q_5, .inl (cA_6, 10, .inl (fun _ => 0))), (q_7, .inr (7, [.ref k0, .ref r0_9, .int 0, .int 0])), (q_10, .inr (7, [.null, .null, .int 0, .int 0]))]) H := hP
  have hD : va_D A ([(h0, .inr (11, [.ref q_1, .ref q_3, .ref q_5, .int 0, .int 0, .int 0])), (q_1, .inl (cA_2, 6, .inr (.inr (.inr (.inr (va_up (fun _ => none) 0 (some q_7))))))), (q_3, .inl (cA_4, 10, .inl (fun _ => 0))), (q_5, .inl (cA_6, 10, .inl (fun _ => 0))), (q_7, .inr (7, [.ref k0, .ref r0_9, .int 0, .int 0])), (q_10, .inr (7, [.null, .null, .int 0, .int 0]))]) := hD
  refine W.widen (k := 6) (n := 47) (Nat.le_of_ble_eq_true rfl) (Nat.le_of_ble_eq_true rfl) ?_
  refine lv_dup hx hb dX4_init_44 rfl ?_
  refine lv_aload_n hx hb dX4_init_45 rfl (lv_at hl 2 rfl) ?_
  have hS0 := hS
  have hFc := va_free (wc := [(q_10, .inr (7, [.null, .null, .int 0, .int 0]))]) hD hS hA [5] rfl
  refine va_callv (va_runI (As := [.ref k0]) (rest := [.ref q_10, .int 1, .ref q_1]) ⟨hx, hb, hml, hown, hts⟩ (c_X0_init l κ D (H).size (q_10) (k0) ) (cwI 1 hts gd_c_X4_init_46 rfl rfl rfl (hts (.initialized RX0) (by decide +kernel)) (hts (.methodLink RX4 25 yX0_init) (by decide +kernel)) (hts (.instanceMethod yX0_init) (by decide +kernel)) rfl (by decide +kernel) ⟨(Nat.le_of_ble_eq_true rfl), (Nat.le_of_ble_eq_true rfl)⟩) (preS hE hK hP hD hS hA [5] rfl (by decide) [] rfl) rfl rfl hl.1 rfl (lv_room (Nat.le_of_ble_eq_true rfl)) dX4_init_46 ⟨(Nat.le_of_ble_eq_true rfl), (Nat.le_of_ble_eq_true rfl)⟩) hS (fun q _ h => hFc q h) hFc (fun u t H1 locs ht hvm hw hB hz1 hk1 hS => ?_)
  obtain ⟨r0_12, hB⟩ := hB
  try dsimp only at hw
  obtain ⟨hP, hD, hK⟩ := jn (wc := [(q_10, .inr (7, [.null, .null, .int 0, .int 0]))]) (wr := [(h0, .inr (11, [.ref q_1, .ref q_3, .ref q_5, .int 0, .int 0, .int 0])), (q_1, .inl (cA_2, 6, .inr (.inr (.inr (.inr (va_up (fun _ => none) 0 (some q_7))))))), (q_3, .inl (cA_4, 10, .inl (fun _ => 0))), (q_5, .inl (cA_6, 10, .inl (fun _ => 0))), (q_7, .inr (7, [.ref k0, .ref r0_9, .int 0, .int 0]))]) (w1 := [(q_10, .inr (7, [.ref k0, .ref r0_12, .int 0, .int 0]))]) (t1 := []) hP hD hK hS0 hA [5] [0, 1, 2, 3, 4] rfl rfl (by decide) (by decide) ht hvm hk1 hB
  generalize H1 = H at hP hS ⊢
  have hP : va_P D vwCl ([(h0, .inr (11, [.ref q_1, .ref q_3, .ref q_5, .int 0, .int 0, .int 0])), (q_1, .inl (cA_2, 6, .inr (.inr (.inr (.inr (va_up (fun _ => none) 0 (some q_7))))))), (q_3, .inl (cA_4, 10, .inl (fun _ => 0))), (q_5, .inl (cA_6, 10, .inl (fun _ => 0))), (q_7, .inr (7, [.ref k0, .ref r0_9, .int 0, .int 0])), (q_10, .inr (7, [.ref k0, .ref r0_12, .int 0, .int 0]))]) H := hP
  have hD : va_D A ([(h0, .inr (11, [.ref q_1, .ref q_3, .ref q_5, .int 0, .int 0, .int 0])), (q_1, .inl (cA_2, 6, .inr (.inr (.inr (.inr (va_up (fun _ => none) 0 (some q_7))))))), (q_3, .inl (cA_4, 10, .inl (fun _ => 0))), (q_5, .inl (cA_6, 10, .inl (fun _ => 0))), (q_7, .inr (7, [.ref k0, .ref r0_9, .int 0, .int 0])), (q_10, .inr (7, [.ref k0, .ref r0_12, .int 0, .int 0]))]) := hD
  have hK : va_K D vwCl [(cA_2, .object "Sowingcourt$Board"), (cA_4, .boolean), (cA_6, .int)] s := hK
  refine W.widen (k := 7) (n := 60) (Nat.le_of_ble_eq_true rfl) (Nat.le_of_ble_eq_true rfl) ?_
  refine va_astq hx hb hK hP hD hS 1 0 5 7 rfl rfl rfl rfl (by unfold vp_in; decide) dX4_init_49 (fun H locs hP hD hS => ?_)
  have hP : va_P D vwCl ([(h0, .inr (11, [.ref q_1, .ref q_3, .ref q_5, .int 0, .int 0, .int 0])), (q_1, .inl (cA_2, 6, .inr (.inr (.inr (.inr (va_up (va_up (fun _ => none) 0 (some q_7)) 1 (some q_10))))))), (q_3, .inl (cA_4, 10, .inl (fun _ => 0))), (q_5, .inl (cA_6, 10, .inl (fun _ => 0))), (q_7, .inr (7, [.ref k0, .ref r0_9, .int 0, .int 0])), (q_10, .inr (7, [.ref k0, .ref r0_12, .int 0, .int 0]))]) H := hP
  have hD : va_D A ([(h0, .inr (11, [.ref q_1, .ref q_3, .ref q_5, .int 0, .int 0, .int 0])), (q_1, .inl (cA_2, 6, .inr (.inr (.inr (.inr (va_up (va_up (fun _ => none) 0 (some q_7)) 1 (some q_10))))))), (q_3, .inl (cA_4, 10, .inl (fun _ => 0))), (q_5, .inl (cA_6, 10, .inl (fun _ => 0))), (q_7, .inr (7, [.ref k0, .ref r0_9, .int 0, .int 0])), (q_10, .inr (7, [.ref k0, .ref r0_12, .int 0, .int 0]))]) := hD
  refine lv_iinc (v := 2) (lv' := [(2, .int 2), (0, .ref h0), (1, .ref k0)]) hx hb dX4_init_50 hl (k := 0) rfl (by decide) (by decide) rfl (fun ls hl => ?_)
  refine lv_goto (tgt := 31) hx hb dX4_init_53 (by decide) ?_
  refine lv_iload_n hx hb dX4_init_31 rfl (lv_at hl 0 rfl) ?_
  refine lv_iconst (v := 5) hx hb dX4_init_32 (by decide) ?_
  refine lv_icmp_gt (tgt := 56) hx hb dX4_init_33 (by decide) (fun c_33 => absurd c_33 (by decide)) (fun _ => ?_)
  refine lv_aload_n hx hb dX4_init_36 rfl (lv_at hl 1 rfl) ?_
  refine va_get (D := D) (ci := 11) (v := .ref q_1) (C := RX4) (T := TX4) (N := 6) hx hb hts iRX4 hown hK hP 0 rfl rfl 0 (by decide) (hts (.fieldLink RX4 11 "Sowingcourt$Search" "levels" "[LSowingcourt$Board;") (by decide +kernel)) (fun _ h9 => h9) rfl dX4_init_37 ?_
  refine lv_iload_n hx hb dX4_init_40 rfl (lv_at hl 0 rfl) ?_
  refine va_new (ci := 7) (fs := [.null, .null, .int 0, .int 0]) (C := RX0) (T := TX0) (N := 4) hx hb hts iRX0 tyX0 tyX0_ok hown (hts (.classLink RX4 9 RX0) (by decide +kernel)) (hts (.instantiable RX0 4) (by decide +kernel)) (hts (.initialized RX0) (by decide +kernel)) hK hP hD hS hA rfl (fun j hj => by rcases (show j = 0 ∨ j = 1 ∨ j = 2 ∨ j = 3 by omega) with rfl | rfl | rfl | rfl <;> rfl) (Nat.le_of_ble_eq_true rfl) (Nat.le_of_ble_eq_true rfl) dX4_init_41 (fun q_13 H hP hD hS => ?_)
  have hP : va_P D vwCl ([(h0, .inr (11, [.ref q_1, .ref q_3, .ref q_5, .int 0, .int 0, .int 0])), (q_1, .inl (cA_2, 6, .inr (.inr (.inr (.inr (va_up (va_up (fun _ => none) 0 (some q_7)) 1 (some q_10))))))), (q_3, .inl (cA_4, 10, .inl (fun _ => 0))), (q_5, .inl (cA_6, 10, .inl (fun _ => 0))), (q_7, .inr (7, [.ref k0, .ref r0_9, .int 0, .int 0])), (q_10, .inr (7, [.ref k0, .ref r0_12, .int 0, .int 0])), (q_13, .inr (7, [.null, .null, .int 0, .int 0]))]) H := hP
  have hD : va_D A ([(h0, .inr (11, [.ref q_1, .ref q_3, .ref q_5, .int 0, .int 0, .int 0])), (q_1, .inl (cA_2, 6, .inr (.inr (.inr (.inr (va_up (va_up (fun _ => none) 0 (some q_7)) 1 (some q_10))))))), (q_3, .inl (cA_4, 10, .inl (fun _ => 0))), (q_5, .inl (cA_6, 10, .inl (fun _ => 0))), (q_7, .inr (7, [.ref k0, .ref r0_9, .int 0, .int 0])), (q_10, .inr (7, [.ref k0, .ref r0_12, .int 0, .int 0])), (q_13, .inr (7, [.null, .null, .int 0, .int 0]))]) := hD
  refine W.widen (k := 8) (n := 64) (Nat.le_of_ble_eq_true rfl) (Nat.le_of_ble_eq_true rfl) ?_
  refine lv_dup hx hb dX4_init_44 rfl ?_
  refine lv_aload_n hx hb dX4_init_45 rfl (lv_at hl 2 rfl) ?_
  have hS0 := hS
  have hFc := va_free (wc := [(q_13, .inr (7, [.null, .null, .int 0, .int 0]))]) hD hS hA [6] rfl
  refine va_callv (va_runI (As := [.ref k0]) (rest := [.ref q_13, .int 2, .ref q_1]) ⟨hx, hb, hml, hown, hts⟩ (c_X0_init l κ D (H).size (q_13) (k0) ) (cwI 1 hts gd_c_X4_init_46 rfl rfl rfl (hts (.initialized RX0) (by decide +kernel)) (hts (.methodLink RX4 25 yX0_init) (by decide +kernel)) (hts (.instanceMethod yX0_init) (by decide +kernel)) rfl (by decide +kernel) ⟨(Nat.le_of_ble_eq_true rfl), (Nat.le_of_ble_eq_true rfl)⟩) (preS hE hK hP hD hS hA [6] rfl (by decide) [] rfl) rfl rfl hl.1 rfl (lv_room (Nat.le_of_ble_eq_true rfl)) dX4_init_46 ⟨(Nat.le_of_ble_eq_true rfl), (Nat.le_of_ble_eq_true rfl)⟩) hS (fun q _ h => hFc q h) hFc (fun u t H1 locs ht hvm hw hB hz1 hk1 hS => ?_)
  obtain ⟨r0_15, hB⟩ := hB
  try dsimp only at hw
  obtain ⟨hP, hD, hK⟩ := jn (wc := [(q_13, .inr (7, [.null, .null, .int 0, .int 0]))]) (wr := [(h0, .inr (11, [.ref q_1, .ref q_3, .ref q_5, .int 0, .int 0, .int 0])), (q_1, .inl (cA_2, 6, .inr (.inr (.inr (.inr (va_up (va_up (fun _ => none) 0 (some q_7)) 1 (some q_10))))))), (q_3, .inl (cA_4, 10, .inl (fun _ => 0))), (q_5, .inl (cA_6, 10, .inl (fun _ => 0))), (q_7, .inr (7, [.ref k0, .ref r0_9, .int 0, .int 0])), (q_10, .inr (7, [.ref k0, .ref r0_12, .int 0, .int 0]))]) (w1 := [(q_13, .inr (7, [.ref k0, .ref r0_15, .int 0, .int 0]))]) (t1 := []) hP hD hK hS0 hA [6] [0, 1, 2, 3, 4, 5] rfl rfl (by decide) (by decide) ht hvm hk1 hB
  generalize H1 = H at hP hS ⊢
  have hP : va_P D vwCl ([(h0, .inr (11, [.ref q_1, .ref q_3, .ref q_5, .int 0, .int 0, .int 0])), (q_1, .inl (cA_2, 6, .inr (.inr (.inr (.inr (va_up (va_up (fun _ => none) 0 (some q_7)) 1 (some q_10))))))), (q_3, .inl (cA_4, 10, .inl (fun _ => 0))), (q_5, .inl (cA_6, 10, .inl (fun _ => 0))), (q_7, .inr (7, [.ref k0, .ref r0_9, .int 0, .int 0])), (q_10, .inr (7, [.ref k0, .ref r0_12, .int 0, .int 0])), (q_13, .inr (7, [.ref k0, .ref r0_15, .int 0, .int 0]))]) H := hP
  have hD : va_D A ([(h0, .inr (11, [.ref q_1, .ref q_3, .ref q_5, .int 0, .int 0, .int 0])), (q_1, .inl (cA_2, 6, .inr (.inr (.inr (.inr (va_up (va_up (fun _ => none) 0 (some q_7)) 1 (some q_10))))))), (q_3, .inl (cA_4, 10, .inl (fun _ => 0))), (q_5, .inl (cA_6, 10, .inl (fun _ => 0))), (q_7, .inr (7, [.ref k0, .ref r0_9, .int 0, .int 0])), (q_10, .inr (7, [.ref k0, .ref r0_12, .int 0, .int 0])), (q_13, .inr (7, [.ref k0, .ref r0_15, .int 0, .int 0]))]) := hD
  have hK : va_K D vwCl [(cA_2, .object "Sowingcourt$Board"), (cA_4, .boolean), (cA_6, .int)] s := hK
  refine W.widen (k := 9) (n := 77) (Nat.le_of_ble_eq_true rfl) (Nat.le_of_ble_eq_true rfl) ?_
  refine va_astq hx hb hK hP hD hS 1 0 6 7 rfl rfl rfl rfl (by unfold vp_in; decide) dX4_init_49 (fun H locs hP hD hS => ?_)
  have hP : va_P D vwCl ([(h0, .inr (11, [.ref q_1, .ref q_3, .ref q_5, .int 0, .int 0, .int 0])), (q_1, .inl (cA_2, 6, .inr (.inr (.inr (.inr (va_up (va_up (va_up (fun _ => none) 0 (some q_7)) 1 (some q_10)) 2 (some q_13))))))), (q_3, .inl (cA_4, 10, .inl (fun _ => 0))), (q_5, .inl (cA_6, 10, .inl (fun _ => 0))), (q_7, .inr (7, [.ref k0, .ref r0_9, .int 0, .int 0])), (q_10, .inr (7, [.ref k0, .ref r0_12, .int 0, .int 0])), (q_13, .inr (7, [.ref k0, .ref r0_15, .int 0, .int 0]))]) H := hP
  have hD : va_D A ([(h0, .inr (11, [.ref q_1, .ref q_3, .ref q_5, .int 0, .int 0, .int 0])), (q_1, .inl (cA_2, 6, .inr (.inr (.inr (.inr (va_up (va_up (va_up (fun _ => none) 0 (some q_7)) 1 (some q_10)) 2 (some q_13))))))), (q_3, .inl (cA_4, 10, .inl (fun _ => 0))), (q_5, .inl (cA_6, 10, .inl (fun _ => 0))), (q_7, .inr (7, [.ref k0, .ref r0_9, .int 0, .int 0])), (q_10, .inr (7, [.ref k0, .ref r0_12, .int 0, .int 0])), (q_13, .inr (7, [.ref k0, .ref r0_15, .int 0, .int 0]))]) := hD
  refine lv_iinc (v := 3) (lv' := [(2, .int 3), (0, .ref h0), (1, .ref k0)]) hx hb dX4_init_50 hl (k := 0) rfl (by decide) (by decide) rfl (fun ls hl => ?_)
  refine lv_goto (tgt := 31) hx hb dX4_init_53 (by decide) ?_
  refine lv_iload_n hx hb dX4_init_31 rfl (lv_at hl 0 rfl) ?_
  refine lv_iconst (v := 5) hx hb dX4_init_32 (by decide) ?_
  refine lv_icmp_gt (tgt := 56) hx hb dX4_init_33 (by decide) (fun c_33 => absurd c_33 (by decide)) (fun _ => ?_)
  refine lv_aload_n hx hb dX4_init_36 rfl (lv_at hl 1 rfl) ?_
  refine va_get (D := D) (ci := 11) (v := .ref q_1) (C := RX4) (T := TX4) (N := 6) hx hb hts iRX4 hown hK hP 0 rfl rfl 0 (by decide) (hts (.fieldLink RX4 11 "Sowingcourt$Search" "levels" "[LSowingcourt$Board;") (by decide +kernel)) (fun _ h9 => h9) rfl dX4_init_37 ?_
  refine lv_iload_n hx hb dX4_init_40 rfl (lv_at hl 0 rfl) ?_
  refine va_new (ci := 7) (fs := [.null, .null, .int 0, .int 0]) (C := RX0) (T := TX0) (N := 4) hx hb hts iRX0 tyX0 tyX0_ok hown (hts (.classLink RX4 9 RX0) (by decide +kernel)) (hts (.instantiable RX0 4) (by decide +kernel)) (hts (.initialized RX0) (by decide +kernel)) hK hP hD hS hA rfl (fun j hj => by rcases (show j = 0 ∨ j = 1 ∨ j = 2 ∨ j = 3 by omega) with rfl | rfl | rfl | rfl <;> rfl) (Nat.le_of_ble_eq_true rfl) (Nat.le_of_ble_eq_true rfl) dX4_init_41 (fun q_16 H hP hD hS => ?_)
  have hP : va_P D vwCl ([(h0, .inr (11, [.ref q_1, .ref q_3, .ref q_5, .int 0, .int 0, .int 0])), (q_1, .inl (cA_2, 6, .inr (.inr (.inr (.inr (va_up (va_up (va_up (fun _ => none) 0 (some q_7)) 1 (some q_10)) 2 (some q_13))))))), (q_3, .inl (cA_4, 10, .inl (fun _ => 0))), (q_5, .inl (cA_6, 10, .inl (fun _ => 0))), (q_7, .inr (7, [.ref k0, .ref r0_9, .int 0, .int 0])), (q_10, .inr (7, [.ref k0, .ref r0_12, .int 0, .int 0])), (q_13, .inr (7, [.ref k0, .ref r0_15, .int 0, .int 0])), (q_16, .inr (7, [.null, .null, .int 0, .int 0]))]) H := hP
  have hD : va_D A ([(h0, .inr (11, [.ref q_1, .ref q_3, .ref q_5, .int 0, .int 0, .int 0])), (q_1, .inl (cA_2, 6, .inr (.inr (.inr (.inr (va_up (va_up (va_up (fun _ => none) 0 (some q_7)) 1 (some q_10)) 2 (some q_13))))))), (q_3, .inl (cA_4, 10, .inl (fun _ => 0))), (q_5, .inl (cA_6, 10, .inl (fun _ => 0))), (q_7, .inr (7, [.ref k0, .ref r0_9, .int 0, .int 0])), (q_10, .inr (7, [.ref k0, .ref r0_12, .int 0, .int 0])), (q_13, .inr (7, [.ref k0, .ref r0_15, .int 0, .int 0])), (q_16, .inr (7, [.null, .null, .int 0, .int 0]))]) := hD
  refine W.widen (k := 10) (n := 81) (Nat.le_of_ble_eq_true rfl) (Nat.le_of_ble_eq_true rfl) ?_
  refine lv_dup hx hb dX4_init_44 rfl ?_
  refine lv_aload_n hx hb dX4_init_45 rfl (lv_at hl 2 rfl) ?_
  have hS0 := hS
  have hFc := va_free (wc := [(q_16, .inr (7, [.null, .null, .int 0, .int 0]))]) hD hS hA [7] rfl
  refine va_callv (va_runI (As := [.ref k0]) (rest := [.ref q_16, .int 3, .ref q_1]) ⟨hx, hb, hml, hown, hts⟩ (c_X0_init l κ D (H).size (q_16) (k0) ) (cwI 1 hts gd_c_X4_init_46 rfl rfl rfl (hts (.initialized RX0) (by decide +kernel)) (hts (.methodLink RX4 25 yX0_init) (by decide +kernel)) (hts (.instanceMethod yX0_init) (by decide +kernel)) rfl (by decide +kernel) ⟨(Nat.le_of_ble_eq_true rfl), (Nat.le_of_ble_eq_true rfl)⟩) (preS hE hK hP hD hS hA [7] rfl (by decide) [] rfl) rfl rfl hl.1 rfl (lv_room (Nat.le_of_ble_eq_true rfl)) dX4_init_46 ⟨(Nat.le_of_ble_eq_true rfl), (Nat.le_of_ble_eq_true rfl)⟩) hS (fun q _ h => hFc q h) hFc (fun u t H1 locs ht hvm hw hB hz1 hk1 hS => ?_)
  obtain ⟨r0_18, hB⟩ := hB
  try dsimp only at hw
  obtain ⟨hP, hD, hK⟩ := jn (wc := [(q_16, .inr (7, [.null, .null, .int 0, .int 0]))]) (wr := [(h0, .inr (11, [.ref q_1, .ref q_3, .ref q_5, .int 0, .int 0, .int 0])), (q_1, .inl (cA_2, 6, .inr (.inr (.inr (.inr (va_up (va_up (va_up (fun _ => none) 0 (some q_7)) 1 (some q_10)) 2 (some q_13))))))), (q_3, .inl (cA_4, 10, .inl (fun _ => 0))), (q_5, .inl (cA_6, 10, .inl (fun _ => 0))), (q_7, .inr (7, [.ref k0, .ref r0_9, .int 0, .int 0])), (q_10, .inr (7, [.ref k0, .ref r0_12, .int 0, .int 0])), (q_13, .inr (7, [.ref k0, .ref r0_15, .int 0, .int 0]))]) (w1 := [(q_16, .inr (7, [.ref k0, .ref r0_18, .int 0, .int 0]))]) (t1 := []) hP hD hK hS0 hA [7] [0, 1, 2, 3, 4, 5, 6] rfl rfl (by decide) (by decide) ht hvm hk1 hB
  generalize H1 = H at hP hS ⊢
  have hP : va_P D vwCl ([(h0, .inr (11, [.ref q_1, .ref q_3, .ref q_5, .int 0, .int 0, .int 0])), (q_1, .inl (cA_2, 6, .inr (.inr (.inr (.inr (va_up (va_up (va_up (fun _ => none) 0 (some q_7)) 1 (some q_10)) 2 (some q_13))))))), (q_3, .inl (cA_4, 10, .inl (fun _ => 0))), (q_5, .inl (cA_6, 10, .inl (fun _ => 0))), (q_7, .inr (7, [.ref k0, .ref r0_9, .int 0, .int 0])), (q_10, .inr (7, [.ref k0, .ref r0_12, .int 0, .int 0])), (q_13, .inr (7, [.ref k0, .ref r0_15, .int 0, .int 0])), (q_16, .inr (7, [.ref k0, .ref r0_18, .int 0, .int 0]))]) H := hP
  have hD : va_D A ([(h0, .inr (11, [.ref q_1, .ref q_3, .ref q_5, .int 0, .int 0, .int 0])), (q_1, .inl (cA_2, 6, .inr (.inr (.inr (.inr (va_up (va_up (va_up (fun _ => none) 0 (some q_7)) 1 (some q_10)) 2 (some q_13))))))), (q_3, .inl (cA_4, 10, .inl (fun _ => 0))), (q_5, .inl (cA_6, 10, .inl (fun _ => 0))), (q_7, .inr (7, [.ref k0, .ref r0_9, .int 0, .int 0])), (q_10, .inr (7, [.ref k0, .ref r0_12, .int 0, .int 0])), (q_13, .inr (7, [.ref k0, .ref r0_15, .int 0, .int 0])), (q_16, .inr (7, [.ref k0, .ref r0_18, .int 0, .int 0]))]) := hD
  have hK : va_K D vwCl [(cA_2, .object "Sowingcourt$Board"), (cA_4, .boolean), (cA_6, .int)] s := hK
  refine W.widen (k := 11) (n := 94) (Nat.le_of_ble_eq_true rfl) (Nat.le_of_ble_eq_true rfl) ?_
  refine va_astq hx hb hK hP hD hS 1 0 7 7 rfl rfl rfl rfl (by unfold vp_in; decide) dX4_init_49 (fun H locs hP hD hS => ?_)
  have hP : va_P D vwCl ([(h0, .inr (11, [.ref q_1, .ref q_3, .ref q_5, .int 0, .int 0, .int 0])), (q_1, .inl (cA_2, 6, .inr (.inr (.inr (.inr (va_up (va_up (va_up (va_up (fun _ => none) 0 (some q_7)) 1 (some q_10)) 2 (some q_13)) 3 (some q_16))))))), (q_3, .inl (cA_4, 10, .inl (fun _ => 0))), (q_5, .inl (cA_6, 10, .inl (fun _ => 0))), (q_7, .inr (7, [.ref k0, .ref r0_9, .int 0, .int 0])), (q_10, .inr (7, [.ref k0, .ref r0_12, .int 0, .int 0])), (q_13, .inr (7, [.ref k0, .ref r0_15, .int 0, .int 0])), (q_16, .inr (7, [.ref k0, .ref r0_18, .int 0, .int 0]))]) H := hP
  have hD : va_D A ([(h0, .inr (11, [.ref q_1, .ref q_3, .ref q_5, .int 0, .int 0, .int 0])), (q_1, .inl (cA_2, 6, .inr (.inr (.inr (.inr (va_up (va_up (va_up (va_up (fun _ => none) 0 (some q_7)) 1 (some q_10)) 2 (some q_13)) 3 (some q_16))))))), (q_3, .inl (cA_4, 10, .inl (fun _ => 0))), (q_5, .inl (cA_6, 10, .inl (fun _ => 0))), (q_7, .inr (7, [.ref k0, .ref r0_9, .int 0, .int 0])), (q_10, .inr (7, [.ref k0, .ref r0_12, .int 0, .int 0])), (q_13, .inr (7, [.ref k0, .ref r0_15, .int 0, .int 0])), (q_16, .inr (7, [.ref k0, .ref r0_18, .int 0, .int 0]))]) := hD
  refine lv_iinc (v := 4) (lv' := [(2, .int 4), (0, .ref h0), (1, .ref k0)]) hx hb dX4_init_50 hl (k := 0) rfl (by decide) (by decide) rfl (fun ls hl => ?_)
  refine lv_goto (tgt := 31) hx hb dX4_init_53 (by decide) ?_
  refine lv_iload_n hx hb dX4_init_31 rfl (lv_at hl 0 rfl) ?_
  refine lv_iconst (v := 5) hx hb dX4_init_32 (by decide) ?_
  refine lv_icmp_gt (tgt := 56) hx hb dX4_init_33 (by decide) (fun c_33 => absurd c_33 (by decide)) (fun _ => ?_)
  refine lv_aload_n hx hb dX4_init_36 rfl (lv_at hl 1 rfl) ?_
  refine va_get (D := D) (ci := 11) (v := .ref q_1) (C := RX4) (T := TX4) (N := 6) hx hb hts iRX4 hown hK hP 0 rfl rfl 0 (by decide) (hts (.fieldLink RX4 11 "Sowingcourt$Search" "levels" "[LSowingcourt$Board;") (by decide +kernel)) (fun _ h9 => h9) rfl dX4_init_37 ?_
  refine lv_iload_n hx hb dX4_init_40 rfl (lv_at hl 0 rfl) ?_
  refine va_new (ci := 7) (fs := [.null, .null, .int 0, .int 0]) (C := RX0) (T := TX0) (N := 4) hx hb hts iRX0 tyX0 tyX0_ok hown (hts (.classLink RX4 9 RX0) (by decide +kernel)) (hts (.instantiable RX0 4) (by decide +kernel)) (hts (.initialized RX0) (by decide +kernel)) hK hP hD hS hA rfl (fun j hj => by rcases (show j = 0 ∨ j = 1 ∨ j = 2 ∨ j = 3 by omega) with rfl | rfl | rfl | rfl <;> rfl) (Nat.le_of_ble_eq_true rfl) (Nat.le_of_ble_eq_true rfl) dX4_init_41 (fun q_19 H hP hD hS => ?_)
  have hP : va_P D vwCl ([(h0, .inr (11, [.ref q_1, .ref q_3, .ref q_5, .int 0, .int 0, .int 0])), (q_1, .inl (cA_2, 6, .inr (.inr (.inr (.inr (va_up (va_up (va_up (va_up (fun _ => none) 0 (some q_7)) 1 (some q_10)) 2 (some q_13)) 3 (some q_16))))))), (q_3, .inl (cA_4, 10, .inl (fun _ => 0))), (q_5, .inl (cA_6, 10, .inl (fun _ => 0))), (q_7, .inr (7, [.ref k0, .ref r0_9, .int 0, .int 0])), (q_10, .inr (7, [.ref k0, .ref r0_12, .int 0, .int 0])), (q_13, .inr (7, [.ref k0, .ref r0_15, .int 0, .int 0])), (q_16, .inr (7, [.ref k0, .ref r0_18, .int 0, .int 0])), (q_19, .inr (7, [.null, .null, .int 0, .int 0]))]) H := hP
  have hD : va_D A ([(h0, .inr (11, [.ref q_1, .ref q_3, .ref q_5, .int 0, .int 0, .int 0])), (q_1, .inl (cA_2, 6, .inr (.inr (.inr (.inr (va_up (va_up (va_up (va_up (fun _ => none) 0 (some q_7)) 1 (some q_10)) 2 (some q_13)) 3 (some q_16))))))), (q_3, .inl (cA_4, 10, .inl (fun _ => 0))), (q_5, .inl (cA_6, 10, .inl (fun _ => 0))), (q_7, .inr (7, [.ref k0, .ref r0_9, .int 0, .int 0])), (q_10, .inr (7, [.ref k0, .ref r0_12, .int 0, .int 0])), (q_13, .inr (7, [.ref k0, .ref r0_15, .int 0, .int 0])), (q_16, .inr (7, [.ref k0, .ref r0_18, .int 0, .int 0])), (q_19, .inr (7, [.null, .null, .int 0, .int 0]))]) := hD
  refine W.widen (k := 12) (n := 98) (Nat.le_of_ble_eq_true rfl) (Nat.le_of_ble_eq_true rfl) ?_
  refine lv_dup hx hb dX4_init_44 rfl ?_
  refine lv_aload_n hx hb dX4_init_45 rfl (lv_at hl 2 rfl) ?_
  have hS0 := hS
  have hFc := va_free (wc := [(q_19, .inr (7, [.null, .null, .int 0, .int 0]))]) hD hS hA [8] rfl
  refine va_callv (va_runI (As := [.ref k0]) (rest := [.ref q_19, .int 4, .ref q_1]) ⟨hx, hb, hml, hown, hts⟩ (c_X0_init l κ D (H).size (q_19) (k0) ) (cwI 1 hts gd_c_X4_init_46 rfl rfl rfl (hts (.initialized RX0) (by decide +kernel)) (hts (.methodLink RX4 25 yX0_init) (by decide +kernel)) (hts (.instanceMethod yX0_init) (by decide +kernel)) rfl (by decide +kernel) ⟨(Nat.le_of_ble_eq_true rfl), (Nat.le_of_ble_eq_true rfl)⟩) (preS hE hK hP hD hS hA [8] rfl (by decide) [] rfl) rfl rfl hl.1 rfl (lv_room (Nat.le_of_ble_eq_true rfl)) dX4_init_46 ⟨(Nat.le_of_ble_eq_true rfl), (Nat.le_of_ble_eq_true rfl)⟩) hS (fun q _ h => hFc q h) hFc (fun u t H1 locs ht hvm hw hB hz1 hk1 hS => ?_)
  obtain ⟨r0_21, hB⟩ := hB
  try dsimp only at hw
  obtain ⟨hP, hD, hK⟩ := jn (wc := [(q_19, .inr (7, [.null, .null, .int 0, .int 0]))]) (wr := [(h0, .inr (11, [.ref q_1, .ref q_3, .ref q_5, .int 0, .int 0, .int 0])), (q_1, .inl (cA_2, 6, .inr (.inr (.inr (.inr (va_up (va_up (va_up (va_up (fun _ => none) 0 (some q_7)) 1 (some q_10)) 2 (some q_13)) 3 (some q_16))))))), (q_3, .inl (cA_4, 10, .inl (fun _ => 0))), (q_5, .inl (cA_6, 10, .inl (fun _ => 0))), (q_7, .inr (7, [.ref k0, .ref r0_9, .int 0, .int 0])), (q_10, .inr (7, [.ref k0, .ref r0_12, .int 0, .int 0])), (q_13, .inr (7, [.ref k0, .ref r0_15, .int 0, .int 0])), (q_16, .inr (7, [.ref k0, .ref r0_18, .int 0, .int 0]))]) (w1 := [(q_19, .inr (7, [.ref k0, .ref r0_21, .int 0, .int 0]))]) (t1 := []) hP hD hK hS0 hA [8] [0, 1, 2, 3, 4, 5, 6, 7] rfl rfl (by decide) (by decide) ht hvm hk1 hB
  generalize H1 = H at hP hS ⊢
  have hP : va_P D vwCl ([(h0, .inr (11, [.ref q_1, .ref q_3, .ref q_5, .int 0, .int 0, .int 0])), (q_1, .inl (cA_2, 6, .inr (.inr (.inr (.inr (va_up (va_up (va_up (va_up (fun _ => none) 0 (some q_7)) 1 (some q_10)) 2 (some q_13)) 3 (some q_16))))))), (q_3, .inl (cA_4, 10, .inl (fun _ => 0))), (q_5, .inl (cA_6, 10, .inl (fun _ => 0))), (q_7, .inr (7, [.ref k0, .ref r0_9, .int 0, .int 0])), (q_10, .inr (7, [.ref k0, .ref r0_12, .int 0, .int 0])), (q_13, .inr (7, [.ref k0, .ref r0_15, .int 0, .int 0])), (q_16, .inr (7, [.ref k0, .ref r0_18, .int 0, .int 0])), (q_19, .inr (7, [.ref k0, .ref r0_21, .int 0, .int 0]))]) H := hP
  have hD : va_D A ([(h0, .inr (11, [.ref q_1, .ref q_3, .ref q_5, .int 0, .int 0, .int 0])), (q_1, .inl (cA_2, 6, .inr (.inr (.inr (.inr (va_up (va_up (va_up (va_up (fun _ => none) 0 (some q_7)) 1 (some q_10)) 2 (some q_13)) 3 (some q_16))))))), (q_3, .inl (cA_4, 10, .inl (fun _ => 0))), (q_5, .inl (cA_6, 10, .inl (fun _ => 0))), (q_7, .inr (7, [.ref k0, .ref r0_9, .int 0, .int 0])), (q_10, .inr (7, [.ref k0, .ref r0_12, .int 0, .int 0])), (q_13, .inr (7, [.ref k0, .ref r0_15, .int 0, .int 0])), (q_16, .inr (7, [.ref k0, .ref r0_18, .int 0, .int 0])), (q_19, .inr (7, [.ref k0, .ref r0_21, .int 0, .int 0]))]) := hD
  have hK : va_K D vwCl [(cA_2, .object "Sowingcourt$Board"), (cA_4, .boolean), (cA_6, .int)] s := hK
  refine W.widen (k := 13) (n := 111) (Nat.le_of_ble_eq_true rfl) (Nat.le_of_ble_eq_true rfl) ?_
  refine va_astq hx hb hK hP hD hS 1 0 8 7 rfl rfl rfl rfl (by unfold vp_in; decide) dX4_init_49 (fun H locs hP hD hS => ?_)
  have hP : va_P D vwCl ([(h0, .inr (11, [.ref q_1, .ref q_3, .ref q_5, .int 0, .int 0, .int 0])), (q_1, .inl (cA_2, 6, .inr (.inr (.inr (.inr (va_up (va_up (va_up (va_up (va_up (fun _ => none) 0 (some q_7)) 1 (some q_10)) 2 (some q_13)) 3 (some q_16)) 4 (some q_19))))))), (q_3, .inl (cA_4, 10, .inl (fun _ => 0))), (q_5, .inl (cA_6, 10, .inl (fun _ => 0))), (q_7, .inr (7, [.ref k0, .ref r0_9, .int 0, .int 0])), (q_10, .inr (7, [.ref k0, .ref r0_12, .int 0, .int 0])), (q_13, .inr (7, [.ref k0, .ref r0_15, .int 0, .int 0])), (q_16, .inr (7, [.ref k0, .ref r0_18, .int 0, .int 0])), (q_19, .inr (7, [.ref k0, .ref r0_21, .int 0, .int 0]))]) H := hP
  have hD : va_D A ([(h0, .inr (11, [.ref q_1, .ref q_3, .ref q_5, .int 0, .int 0, .int 0])), (q_1, .inl (cA_2, 6, .inr (.inr (.inr (.inr (va_up (va_up (va_up (va_up (va_up (fun _ => none) 0 (some q_7)) 1 (some q_10)) 2 (some q_13)) 3 (some q_16)) 4 (some q_19))))))), (q_3, .inl (cA_4, 10, .inl (fun _ => 0))), (q_5, .inl (cA_6, 10, .inl (fun _ => 0))), (q_7, .inr (7, [.ref k0, .ref r0_9, .int 0, .int 0])), (q_10, .inr (7, [.ref k0, .ref r0_12, .int 0, .int 0])), (q_13, .inr (7, [.ref k0, .ref r0_15, .int 0, .int 0])), (q_16, .inr (7, [.ref k0, .ref r0_18, .int 0, .int 0])), (q_19, .inr (7, [.ref k0, .ref r0_21, .int 0, .int 0]))]) := hD
  refine lv_iinc (v := 5) (lv' := [(2, .int 5), (0, .ref h0), (1, .ref k0)]) hx hb dX4_init_50 hl (k := 0) rfl (by decide) (by decide) rfl (fun ls hl => ?_)
  refine lv_goto (tgt := 31) hx hb dX4_init_53 (by decide) ?_
  refine lv_iload_n hx hb dX4_init_31 rfl (lv_at hl 0 rfl) ?_
  refine lv_iconst (v := 5) hx hb dX4_init_32 (by decide) ?_
  refine lv_icmp_gt (tgt := 56) hx hb dX4_init_33 (by decide) (fun c_33 => absurd c_33 (by decide)) (fun _ => ?_)
  refine lv_aload_n hx hb dX4_init_36 rfl (lv_at hl 1 rfl) ?_
  refine va_get (D := D) (ci := 11) (v := .ref q_1) (C := RX4) (T := TX4) (N := 6) hx hb hts iRX4 hown hK hP 0 rfl rfl 0 (by decide) (hts (.fieldLink RX4 11 "Sowingcourt$Search" "levels" "[LSowingcourt$Board;") (by decide +kernel)) (fun _ h9 => h9) rfl dX4_init_37 ?_
  refine lv_iload_n hx hb dX4_init_40 rfl (lv_at hl 0 rfl) ?_
  refine va_new (ci := 7) (fs := [.null, .null, .int 0, .int 0]) (C := RX0) (T := TX0) (N := 4) hx hb hts iRX0 tyX0 tyX0_ok hown (hts (.classLink RX4 9 RX0) (by decide +kernel)) (hts (.instantiable RX0 4) (by decide +kernel)) (hts (.initialized RX0) (by decide +kernel)) hK hP hD hS hA rfl (fun j hj => by rcases (show j = 0 ∨ j = 1 ∨ j = 2 ∨ j = 3 by omega) with rfl | rfl | rfl | rfl <;> rfl) (Nat.le_of_ble_eq_true rfl) (Nat.le_of_ble_eq_true rfl) dX4_init_41 (fun q_22 H hP hD hS => ?_)
  have hP : va_P D vwCl ([(h0, .inr (11, [.ref q_1, .ref q_3, .ref q_5, .int 0, .int 0, .int 0])), (q_1, .inl (cA_2, 6, .inr (.inr (.inr (.inr (va_up (va_up (va_up (va_up (va_up (fun _ => none) 0 (some q_7)) 1 (some q_10)) 2 (some q_13)) 3 (some q_16)) 4 (some q_19))))))), (q_3, .inl (cA_4, 10, .inl (fun _ => 0))), (q_5, .inl (cA_6, 10, .inl (fun _ => 0))), (q_7, .inr (7, [.ref k0, .ref r0_9, .int 0, .int 0])), (q_10, .inr (7, [.ref k0, .ref r0_12, .int 0, .int 0])), (q_13, .inr (7, [.ref k0, .ref r0_15, .int 0, .int 0])), (q_16, .inr (7, [.ref k0, .ref r0_18, .int 0, .int 0])), (q_19, .inr (7, [.ref k0, .ref r0_21, .int 0, .int 0])), (q_22, .inr (7, [.null, .null, .int 0, .int 0]))]) H := hP
  have hD : va_D A ([(h0, .inr (11, [.ref q_1, .ref q_3, .ref q_5, .int 0, .int 0, .int 0])), (q_1, .inl (cA_2, 6, .inr (.inr (.inr (.inr (va_up (va_up (va_up (va_up (va_up (fun _ => none) 0 (some q_7)) 1 (some q_10)) 2 (some q_13)) 3 (some q_16)) 4 (some q_19))))))), (q_3, .inl (cA_4, 10, .inl (fun _ => 0))), (q_5, .inl (cA_6, 10, .inl (fun _ => 0))), (q_7, .inr (7, [.ref k0, .ref r0_9, .int 0, .int 0])), (q_10, .inr (7, [.ref k0, .ref r0_12, .int 0, .int 0])), (q_13, .inr (7, [.ref k0, .ref r0_15, .int 0, .int 0])), (q_16, .inr (7, [.ref k0, .ref r0_18, .int 0, .int 0])), (q_19, .inr (7, [.ref k0, .ref r0_21, .int 0, .int 0])), (q_22, .inr (7, [.null, .null, .int 0, .int 0]))]) := hD
  refine W.widen (k := 14) (n := 115) (Nat.le_of_ble_eq_true rfl) (Nat.le_of_ble_eq_true rfl) ?_
  refine lv_dup hx hb dX4_init_44 rfl ?_
  refine lv_aload_n hx hb dX4_init_45 rfl (lv_at hl 2 rfl) ?_
  have hS0 := hS
  have hFc := va_free (wc := [(q_22, .inr (7, [.null, .null, .int 0, .int 0]))]) hD hS hA [9] rfl
  refine va_callv (va_runI (As := [.ref k0]) (rest := [.ref q_22, .int 5, .ref q_1]) ⟨hx, hb, hml, hown, hts⟩ (c_X0_init l κ D (H).size (q_22) (k0) ) (cwI 1 hts gd_c_X4_init_46 rfl rfl rfl (hts (.initialized RX0) (by decide +kernel)) (hts (.methodLink RX4 25 yX0_init) (by decide +kernel)) (hts (.instanceMethod yX0_init) (by decide +kernel)) rfl (by decide +kernel) ⟨(Nat.le_of_ble_eq_true rfl), (Nat.le_of_ble_eq_true rfl)⟩) (preS hE hK hP hD hS hA [9] rfl (by decide) [] rfl) rfl rfl hl.1 rfl (lv_room (Nat.le_of_ble_eq_true rfl)) dX4_init_46 ⟨(Nat.le_of_ble_eq_true rfl), (Nat.le_of_ble_eq_true rfl)⟩) hS (fun q _ h => hFc q h) hFc (fun u t H1 locs ht hvm hw hB hz1 hk1 hS => ?_)
  obtain ⟨r0_24, hB⟩ := hB
  try dsimp only at hw
  obtain ⟨hP, hD, hK⟩ := jn (wc := [(q_22, .inr (7, [.null, .null, .int 0, .int 0]))]) (wr := [(h0, .inr (11, [.ref q_1, .ref q_3, .ref q_5, .int 0, .int 0, .int 0])), (q_1, .inl (cA_2, 6, .inr (.inr (.inr (.inr (va_up (va_up (va_up (va_up (va_up (fun _ => none) 0 (some q_7)) 1 (some q_10)) 2 (some q_13)) 3 (some q_16)) 4 (some q_19))))))), (q_3, .inl (cA_4, 10, .inl (fun _ => 0))), (q_5, .inl (cA_6, 10, .inl (fun _ => 0))), (q_7, .inr (7, [.ref k0, .ref r0_9, .int 0, .int 0])), (q_10, .inr (7, [.ref k0, .ref r0_12, .int 0, .int 0])), (q_13, .inr (7, [.ref k0, .ref r0_15, .int 0, .int 0])), (q_16, .inr (7, [.ref k0, .ref r0_18, .int 0, .int 0])), (q_19, .inr (7, [.ref k0, .ref r0_21, .int 0, .int 0]))]) (w1 := [(q_22, .inr (7, [.ref k0, .ref r0_24, .int 0, .int 0]))]) (t1 := []) hP hD hK hS0 hA [9] [0, 1, 2, 3, 4, 5, 6, 7, 8] rfl rfl (by decide) (by decide) ht hvm hk1 hB
  generalize H1 = H at hP hS ⊢
  have hP : va_P D vwCl ([(h0, .inr (11, [.ref q_1, .ref q_3, .ref q_5, .int 0, .int 0, .int 0])), (q_1, .inl (cA_2, 6, .inr (.inr (.inr (.inr (va_up (va_up (va_up (va_up (va_up (fun _ => none) 0 (some q_7)) 1 (some q_10)) 2 (some q_13)) 3 (some q_16)) 4 (some q_19))))))), (q_3, .inl (cA_4, 10, .inl (fun _ => 0))), (q_5, .inl (cA_6, 10, .inl (fun _ => 0))), (q_7, .inr (7, [.ref k0, .ref r0_9, .int 0, .int 0])), (q_10, .inr (7, [.ref k0, .ref r0_12, .int 0, .int 0])), (q_13, .inr (7, [.ref k0, .ref r0_15, .int 0, .int 0])), (q_16, .inr (7, [.ref k0, .ref r0_18, .int 0, .int 0])), (q_19, .inr (7, [.ref k0, .ref r0_21, .int 0, .int 0])), (q_22, .inr (7, [.ref k0, .ref r0_24, .int 0, .int 0]))]) H := hP
  have hD : va_D A ([(h0, .inr (11, [.ref q_1, .ref q_3, .ref q_5, .int 0, .int 0, .int 0])), (q_1, .inl (cA_2, 6, .inr (.inr (.inr (.inr (va_up (va_up (va_up (va_up (va_up (fun _ => none) 0 (some q_7)) 1 (some q_10)) 2 (some q_13)) 3 (some q_16)) 4 (some q_19))))))), (q_3, .inl (cA_4, 10, .inl (fun _ => 0))), (q_5, .inl (cA_6, 10, .inl (fun _ => 0))), (q_7, .inr (7, [.ref k0, .ref r0_9, .int 0, .int 0])), (q_10, .inr (7, [.ref k0, .ref r0_12, .int 0, .int 0])), (q_13, .inr (7, [.ref k0, .ref r0_15, .int 0, .int 0])), (q_16, .inr (7, [.ref k0, .ref r0_18, .int 0, .int 0])), (q_19, .inr (7, [.ref k0, .ref r0_21, .int 0, .int 0])), (q_22, .inr (7, [.ref k0, .ref r0_24, .int 0, .int 0]))]) := hD
  have hK : va_K D vwCl [(cA_2, .object "Sowingcourt$Board"), (cA_4, .boolean), (cA_6, .int)] s := hK
  refine W.widen (k := 15) (n := 128) (Nat.le_of_ble_eq_true rfl) (Nat.le_of_ble_eq_true rfl) ?_
  refine va_astq hx hb hK hP hD hS 1 0 9 7 rfl rfl rfl rfl (by unfold vp_in; decide) dX4_init_49 (fun H locs hP hD hS => ?_)
  have hP : va_P D vwCl ([(h0, .inr (11, [.ref q_1, .ref q_3, .ref q_5, .int 0, .int 0, .int 0])), (q_1, .inl (cA_2, 6, .inr (.inr (.inr (.inr (va_up (va_up (va_up (va_up (va_up (va_up (fun _ => none) 0 (some q_7)) 1 (some q_10)) 2 (some q_13)) 3 (some q_16)) 4 (some q_19)) 5 (some q_22))))))), (q_3, .inl (cA_4, 10, .inl (fun _ => 0))), (q_5, .inl (cA_6, 10, .inl (fun _ => 0))), (q_7, .inr (7, [.ref k0, .ref r0_9, .int 0, .int 0])), (q_10, .inr (7, [.ref k0, .ref r0_12, .int 0, .int 0])), (q_13, .inr (7, [.ref k0, .ref r0_15, .int 0, .int 0])), (q_16, .inr (7, [.ref k0, .ref r0_18, .int 0, .int 0])), (q_19, .inr (7, [.ref k0, .ref r0_21, .int 0, .int 0])), (q_22, .inr (7, [.ref k0, .ref r0_24, .int 0, .int 0]))]) H := hP
  have hD : va_D A ([(h0, .inr (11, [.ref q_1, .ref q_3, .ref q_5, .int 0, .int 0, .int 0])), (q_1, .inl (cA_2, 6, .inr (.inr (.inr (.inr (va_up (va_up (va_up (va_up (va_up (va_up (fun _ => none) 0 (some q_7)) 1 (some q_10)) 2 (some q_13)) 3 (some q_16)) 4 (some q_19)) 5 (some q_22))))))), (q_3, .inl (cA_4, 10, .inl (fun _ => 0))), (q_5, .inl (cA_6, 10, .inl (fun _ => 0))), (q_7, .inr (7, [.ref k0, .ref r0_9, .int 0, .int 0])), (q_10, .inr (7, [.ref k0, .ref r0_12, .int 0, .int 0])), (q_13, .inr (7, [.ref k0, .ref r0_15, .int 0, .int 0])), (q_16, .inr (7, [.ref k0, .ref r0_18, .int 0, .int 0])), (q_19, .inr (7, [.ref k0, .ref r0_21, .int 0, .int 0])), (q_22, .inr (7, [.ref k0, .ref r0_24, .int 0, .int 0]))]) := hD
  refine lv_iinc (v := 6) (lv' := [(2, .int 6), (0, .ref h0), (1, .ref k0)]) hx hb dX4_init_50 hl (k := 0) rfl (by decide) (by decide) rfl (fun ls hl => ?_)
  refine lv_goto (tgt := 31) hx hb dX4_init_53 (by decide) ?_
  refine lv_iload_n hx hb dX4_init_31 rfl (lv_at hl 0 rfl) ?_
  refine lv_iconst (v := 5) hx hb dX4_init_32 (by decide) ?_
  refine lv_icmp_gt (tgt := 56) hx hb dX4_init_33 (by decide) (fun _ => ?_) (fun c_33 => absurd (by decide) c_33)
  refine W.widen (k := 15) (n := 128) (Nat.le_of_ble_eq_true rfl) (Nat.le_of_ble_eq_true rfl) ?_
  exact W.vret hx hb hr (fun t ht hW => ⟨⟨(), rfl, trivial, PB.at hP hK hD hW.alike ht [] rfl (by decide) [] rfl⟩, hS.F ht⟩) hS.2.2 dX4_init_56
