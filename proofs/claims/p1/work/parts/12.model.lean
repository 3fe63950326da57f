def wm_c_JAC_init : List Cond := .code yJxa1e45_init_da8c8 cJxa1e45_init_da8c8 1 none :: ([.methodLink RJxa1e45 1 objectInit, .instanceMethod objectInit, .code objectInit ⟨#[0xb1]⟩ 1 none])
set_option maxHeartbeats 4000000 in
set_option maxRecDepth 100000 in
theorem c_JAC_init (l : Launch) (κ : Nat → Nat) (D : va_G) (sz : Nat) (h0 : Nat)  : Met l yJxa1e45_init_da8c8 wm_c_JAC_init ({ frames := 8, cells := 0, slots := 0, locals := 200 }) (va_Pc [.ref h0] (PC κ D [] [(h0, .inr (6, [.int 0, .null, .int 0]))] sz)) (va_Qv (fun _ : Unit => True) (fun _ t => PB D [] [(h0, .inr (6, [.int 0, .null, .int 0]))] (va_A [(h0, .inr (6, [.int 0, .null, .int 0]))] sz) t) (va_A [(h0, .inr (6, [.int 0, .null, .int 0]))] sz)) 0 0 (va_A [(h0, .inr (6, [.int 0, .null, .int 0]))] sz) := by
  refine Met.ofW (cc := cJxa1e45_init_da8c8) (maxL := 1) (ret := none) (by decide +kernel) rfl ?_
  intro p e s m args below meth c s₁ B hml hv
  obtain ⟨rfl, hsz, hP, hK, hD0, hE⟩ := hv
  have hx := B.exec
  have hb := B.bytes
  have hr := B.returns
  have hts := atoms_spec (ws := wm_c_JAC_init) B.pre
  have hown : s.vm.findClass RJxa1e45 = some m.cls := findClass_of_methodNamed B.named
  have hlocks := B.notSynchronized
  have hin : meth.name = "<init>" := (name_of_methodNamed B.named B.method).1
  subst hsz
  have hD := hD0.self (sz := s.heap.size)
  generalize hAe : va_A [(h0, .inr (6, [.int 0, .null, .int 0]))] s.heap.size = A at hD hE ⊢
  have hA : ∀ q : Nat, s.heap.size ≤ q → A q := fun q h => by rw [← hAe]; exact Or.inr h
  have hS : va_S A s.heap s.heap [] := va_S.rf
  have hl := lv_entry ([.ref h0]) (n := 1) (Nat.le_of_ble_eq_true rfl)
  rw [lg_entry_eq]
  generalize (lg_sl ([.ref h0]) ++ List.replicate (1 - (lg_sl ([.ref h0])).length) Slot.unset).toArray = ls at hl ⊢
  have hl : lv_has ls 1 [(0, .ref h0)] := hl
  refine lv_aload_n hx hb dJxa1e45_init_da8c8_0 rfl (lv_at hl 0 rfl) ?_
  refine W.objInit hx hb hown (hts (.methodLink RJxa1e45 1 objectInit) (by decide +kernel)) (hts (.instanceMethod objectInit) (by decide +kernel)) (hts (.code objectInit ⟨#[0xb1]⟩ 1 none) (by decide +kernel)) rfl (by rw [hml]; exact hl.1) rfl dJxa1e45_init_da8c8_1 (Nat.le_of_ble_eq_true rfl) (Nat.le_of_ble_eq_true rfl) ?_
  refine W.eq (g2 := F0 m 4 ls []) rfl ?_
  refine W.widen (k := 0) (n := 0) (Nat.le_of_ble_eq_true rfl) (Nat.le_of_ble_eq_true rfl) ?_
  exact W.vret hx hb hr (fun t ht hW => ⟨⟨(), rfl, trivial, PB.at hP hK hD hW.alike ht [0] rfl (by decide) [] rfl⟩, hS.F ht⟩) hS.2.2 dJxa1e45_init_da8c8_4

def wm_c_JAb_init : List Cond := .code yJxc12de_init_da8c8 cJxc12de_init_da8c8 1 none :: ([.code yJxa1e45_init_da8c8 cJxa1e45_init_da8c8 1 none, .methodLink RJxa1e45 1 objectInit, .instanceMethod objectInit, .code objectInit ⟨#[0xb1]⟩ 1 none, .initialized RJxa1e45, .methodLink RJxc12de 1 yJxa1e45_init_da8c8, .instanceMethod yJxa1e45_init_da8c8, .fieldLink RJxc12de 7 "java/util/AbstractList" "modCount" "I"] ++ wsJx4a65c0)
set_option maxRecDepth 20000 in
theorem gd_c_JAb_init_1 : GoodIn wm_c_JAb_init wm_c_JAC_init := goodIn_of _ (by decide +kernel)
set_option maxHeartbeats 4000000 in
set_option maxRecDepth 100000 in
theorem c_JAb_init (l : Launch) (κ : Nat → Nat) (D : va_G) (sz : Nat) (h0 : Nat)  : Met l yJxc12de_init_da8c8 wm_c_JAb_init ({ frames := 9, cells := 0, slots := 0, locals := 260 }) (va_Pc [.ref h0] (PC κ D [] [(h0, .inr (6, [.int 0, .null, .int 0]))] sz)) (va_Qv (fun _ : Unit => True) (fun _ t => PB D [] [(h0, .inr (6, [.int 0, .null, .int 0]))] (va_A [(h0, .inr (6, [.int 0, .null, .int 0]))] sz) t) (va_A [(h0, .inr (6, [.int 0, .null, .int 0]))] sz)) 0 0 (va_A [(h0, .inr (6, [.int 0, .null, .int 0]))] sz) := by
  refine Met.ofW (cc := cJxc12de_init_da8c8) (maxL := 1) (ret := none) (by decide +kernel) rfl ?_
  intro p e s m args below meth c s₁ B hml hv
  obtain ⟨rfl, hsz, hP, hK, hD0, hE⟩ := hv
  have hx := B.exec
  have hb := B.bytes
  have hr := B.returns
  have hts := atoms_spec (ws := wm_c_JAb_init) B.pre
  have hown : s.vm.findClass RJxc12de = some m.cls := findClass_of_methodNamed B.named
  have hlocks := B.notSynchronized
  have hin : meth.name = "<init>" := (name_of_methodNamed B.named B.method).1
  have iRJx4a65c : ∀ w ∈ u_ws RJx4a65c TJx4a65c 3, w ∈ wm_c_JAb_init := by decide +kernel
  subst hsz
  have hD := hD0.self (sz := s.heap.size)
  generalize hAe : va_A [(h0, .inr (6, [.int 0, .null, .int 0]))] s.heap.size = A at hD hE ⊢
  have hA : ∀ q : Nat, s.heap.size ≤ q → A q := fun q h => by rw [← hAe]; exact Or.inr h
  have hS : va_S A s.heap s.heap [] := va_S.rf
  have hl := lv_entry ([.ref h0]) (n := 1) (Nat.le_of_ble_eq_true rfl)
  rw [lg_entry_eq]
  generalize (lg_sl ([.ref h0]) ++ List.replicate (1 - (lg_sl ([.ref h0])).length) Slot.unset).toArray = ls at hl ⊢
  have hl : lv_has ls 1 [(0, .ref h0)] := hl
  refine lv_aload_n hx hb dJxc12de_init_da8c8_0 rfl (lv_at hl 0 rfl) ?_
  have hS0 := hS
  have hFc := va_free (wc := [(h0, .inr (6, [.int 0, .null, .int 0]))]) hD hS hA [0] rfl
  refine va_callv (va_runI (As := []) (rest := []) ⟨hx, hb, hml, hown, hts⟩ (c_JAC_init l κ D (s.heap).size (h0) ) (cwI 0 hts gd_c_JAb_init_1 rfl rfl rfl (hts (.initialized RJxa1e45) (by decide +kernel)) (hts (.methodLink RJxc12de 1 yJxa1e45_init_da8c8) (by decide +kernel)) (hts (.instanceMethod yJxa1e45_init_da8c8) (by decide +kernel)) rfl (by decide +kernel) ⟨(Nat.le_of_ble_eq_true rfl), (Nat.le_of_ble_eq_true rfl)⟩) (preS hE hK hP hD hS hA [0] rfl (by decide) [] rfl) rfl rfl hl.1 rfl (lv_room (Nat.le_of_ble_eq_true rfl)) dJxc12de_init_da8c8_1 ⟨(Nat.le_of_ble_eq_true rfl), (Nat.le_of_ble_eq_true rfl)⟩) hS (fun q _ h => hFc q h) hFc (fun u t H1 locs ht hvm hw hB hz1 hk1 hS => ?_)
  try dsimp only at hw
  obtain ⟨hP, hD, hK⟩ := jn (wc := [(h0, .inr (6, [.int 0, .null, .int 0]))]) (wr := []) (w1 := [(h0, .inr (6, [.int 0, .null, .int 0]))]) (t1 := []) hP hD hK hS0 hA [0] [] rfl rfl (by decide) (by decide) ht hvm hk1 hB
  generalize H1 = H at hP hS ⊢
  have hP : va_P D vwCl ([(h0, .inr (6, [.int 0, .null, .int 0]))]) H := hP
  have hD : va_D A ([(h0, .inr (6, [.int 0, .null, .int 0]))]) := hD
  have hK : va_K D vwCl [] s := hK
  refine W.widen (k := 0) (n := 0) (Nat.le_of_ble_eq_true rfl) (Nat.le_of_ble_eq_true rfl) ?_
  refine lv_aload_n hx hb dJxc12de_init_da8c8_4 rfl (lv_at hl 0 rfl) ?_
  refine lv_iconst (v := 0) hx hb dJxc12de_init_da8c8_5 (by decide) ?_
  refine va_put (D := D) (ci := 6) (v := .int 0) (ty := .int) (C := RJx4a65c) (T := TJx4a65c) (N := 3) hx hb hts iRJx4a65c tyJx4a65c tyJx4a65c_ok nmJx4a65c hown hK hP hD hS 0 rfl rfl 0 (by decide) (hts (.fieldLink RJxc12de 7 "java/util/AbstractList" "modCount" "I") (by decide +kernel)) (fun _ h9 => h9) rfl (by decide +kernel) rfl rfl (Nat.le_of_ble_eq_true rfl) dJxc12de_init_da8c8_6 (fun H locs hP hD hS => ?_)
  have hP : va_P D vwCl ([(h0, .inr (6, [.int 0, .null, .int 0]))]) H := hP
  have hD : va_D A ([(h0, .inr (6, [.int 0, .null, .int 0]))]) := hD
  refine W.widen (k := 0) (n := 0) (Nat.le_of_ble_eq_true rfl) (Nat.le_of_ble_eq_true rfl) ?_
  exact W.vret hx hb hr (fun t ht hW => ⟨⟨(), rfl, trivial, PB.at hP hK hD hW.alike ht [0] rfl (by decide) [] rfl⟩, hS.F ht⟩) hS.2.2 dJxc12de_init_da8c8_9

def wm_c_JAL_init : List Cond := .code yJx4a65c_init_da8c8 cJx4a65c_init_da8c8 1 none :: ([.code yJxc12de_init_da8c8 cJxc12de_init_da8c8 1 none, .code yJxa1e45_init_da8c8 cJxa1e45_init_da8c8 1 none, .methodLink RJxa1e45 1 objectInit, .instanceMethod objectInit, .code objectInit ⟨#[0xb1]⟩ 1 none, .initialized RJxa1e45, .methodLink RJxc12de 1 yJxa1e45_init_da8c8, .instanceMethod yJxa1e45_init_da8c8, .fieldLink RJxc12de 7 "java/util/AbstractList" "modCount" "I", .initialized RJxc12de, .methodLink RJx4a65c 1 yJxc12de_init_da8c8, .instanceMethod yJxc12de_init_da8c8, .fieldLink RJx4a65c 39 "java/util/ArrayList" "DEFAULTCAPACITY_EMPTY_ELEMENTDATA" "[Ljava/lang/Object;", .fieldLink RJx4a65c 9 "java/util/ArrayList" "elementData" "[Ljava/lang/Object;"] ++ wsJx4a65c0)
set_option maxRecDepth 20000 in
theorem gd_c_JAL_init_1 : GoodIn wm_c_JAL_init wm_c_JAb_init := goodIn_of _ (by decide +kernel)
set_option maxHeartbeats 4000000 in
set_option maxRecDepth 100000 in
theorem c_JAL_init (l : Launch) (κ : Nat → Nat) (D : va_G) (sz : Nat) (h0 : Nat)  : Met l yJx4a65c_init_da8c8 wm_c_JAL_init ({ frames := 10, cells := 0, slots := 0, locals := 320 }) (va_Pc [.ref h0] (PC κ D [] [(h0, .inr (6, [.int 0, .null, .int 0]))] sz)) (va_Qv (fun _ : Unit => True) (fun _ t => PB D [] [(h0, .inr (6, [.int 0, .ref (κ 0), .int 0]))] (va_A [(h0, .inr (6, [.int 0, .null, .int 0]))] sz) t) (va_A [(h0, .inr (6, [.int 0, .null, .int 0]))] sz)) 0 0 (va_A [(h0, .inr (6, [.int 0, .null, .int 0]))] sz) := by
  refine Met.ofW (cc := cJx4a65c_init_da8c8) (maxL := 1) (ret := none) (by decide +kernel) rfl ?_
  intro p e s m args below meth c s₁ B hml hv
  obtain ⟨rfl, hsz, hP, hK, hD0, hE⟩ := hv
  have hx := B.exec
  have hb := B.bytes
  have hr := B.returns
  have hts := atoms_spec (ws := wm_c_JAL_init) B.pre
  have hown : s.vm.findClass RJx4a65c = some m.cls := findClass_of_methodNamed B.named
  have hlocks := B.notSynchronized
  have hin : meth.name = "<init>" := (name_of_methodNamed B.named B.method).1
  have iRJx4a65c : ∀ w ∈ u_ws RJx4a65c TJx4a65c 3, w ∈ wm_c_JAL_init := by decide +kernel
  subst hsz
  have hD := hD0.self (sz := s.heap.size)
  generalize hAe : va_A [(h0, .inr (6, [.int 0, .null, .int 0]))] s.heap.size = A at hD hE ⊢
  have hA : ∀ q : Nat, s.heap.size ≤ q → A q := fun q h => by rw [← hAe]; exact Or.inr h
  have hS : va_S A s.heap s.heap [] := va_S.rf
  have hl := lv_entry ([.ref h0]) (n := 1) (Nat.le_of_ble_eq_true rfl)
  rw [lg_entry_eq]
  generalize (lg_sl ([.ref h0]) ++ List.replicate (1 - (lg_sl ([.ref h0])).length) Slot.unset).toArray = ls at hl ⊢
  have hl : lv_has ls 1 [(0, .ref h0)] := hl
  refine lv_aload_n hx hb dJx4a65c_init_da8c8_0 rfl (lv_at hl 0 rfl) ?_
  have hS0 := hS
  have hFc := va_free (wc := [(h0, .inr (6, [.int 0, .null, .int 0]))]) hD hS hA [0] rfl
  refine va_callv (va_runI (As := []) (rest := []) ⟨hx, hb, hml, hown, hts⟩ (c_JAb_init l κ D (s.heap).size (h0) ) (cwI 0 hts gd_c_JAL_init_1 rfl rfl rfl (hts (.initialized RJxc12de) (by decide +kernel)) (hts (.methodLink RJx4a65c 1 yJxc12de_init_da8c8) (by decide +kernel)) (hts (.instanceMethod yJxc12de_init_da8c8) (by decide +kernel)) rfl (by decide +kernel) ⟨(Nat.le_of_ble_eq_true rfl), (Nat.le_of_ble_eq_true rfl)⟩) (preS hE hK hP hD hS hA [0] rfl (by decide) [] rfl) rfl rfl hl.1 rfl (lv_room (Nat.le_of_ble_eq_true rfl)) dJx4a65c_init_da8c8_1 ⟨(Nat.le_of_ble_eq_true rfl), (Nat.le_of_ble_eq_true rfl)⟩) hS (fun q _ h => hFc q h) hFc (fun u t H1 locs ht hvm hw hB hz1 hk1 hS => ?_)
  try dsimp only at hw
  obtain ⟨hP, hD, hK⟩ := jn (wc := [(h0, .inr (6, [.int 0, .null, .int 0]))]) (wr := []) (w1 := [(h0, .inr (6, [.int 0, .null, .int 0]))]) (t1 := []) hP hD hK hS0 hA [0] [] rfl rfl (by decide) (by decide) ht hvm hk1 hB
  generalize H1 = H at hP hS ⊢
  have hP : va_P D vwCl ([(h0, .inr (6, [.int 0, .null, .int 0]))]) H := hP
  have hD : va_D A ([(h0, .inr (6, [.int 0, .null, .int 0]))]) := hD
  have hK : va_K D vwCl [] s := hK
  refine W.widen (k := 0) (n := 0) (Nat.le_of_ble_eq_true rfl) (Nat.le_of_ble_eq_true rfl) ?_
  refine lv_aload_n hx hb dJx4a65c_init_da8c8_4 rfl (lv_at hl 0 rfl) ?_
  refine va_gets hx hb hE.de hS hown (hts (.fieldLink RJx4a65c 39 "java/util/ArrayList" "DEFAULTCAPACITY_EMPTY_ELEMENTDATA" "[Ljava/lang/Object;") (by decide +kernel)) (fun _ h9 => h9) dJx4a65c_init_da8c8_5 ?_
  refine va_put (D := D) (ci := 6) (v := .ref (κ 0)) (ty := .array (.object "java/lang/Object")) (C := RJx4a65c) (T := TJx4a65c) (N := 3) hx hb hts iRJx4a65c tyJx4a65c tyJx4a65c_ok nmJx4a65c hown hK hP hD hS 0 rfl rfl 1 (by decide) (hts (.fieldLink RJx4a65c 9 "java/util/ArrayList" "elementData" "[Ljava/lang/Object;") (by decide +kernel)) (fun _ h9 => h9) rfl (by decide +kernel) rfl rfl (Nat.le_of_ble_eq_true rfl) dJx4a65c_init_da8c8_8 (fun H locs hP hD hS => ?_)
  have hP : va_P D vwCl ([(h0, .inr (6, [.int 0, .ref (κ 0), .int 0]))]) H := hP
  have hD : va_D A ([(h0, .inr (6, [.int 0, .ref (κ 0), .int 0]))]) := hD
  refine W.widen (k := 0) (n := 0) (Nat.le_of_ble_eq_true rfl) (Nat.le_of_ble_eq_true rfl) ?_
  exact W.vret hx hb hr (fun t ht hW => ⟨⟨(), rfl, trivial, PB.at hP hK hD hW.alike ht [0] rfl (by decide) [] rfl⟩, hS.F ht⟩) hS.2.2 dJx4a65c_init_da8c8_11

def wm_c_JAL_size : List Cond := .code yJx4a65c_size_8abf5 cJx4a65c_size_8abf5 1 (some .int) :: ([.fieldLink RJx4a65c 48 "java/util/ArrayList" "size" "I"] ++ wsJx4a65c0)
set_option maxHeartbeats 4000000 in
set_option maxRecDepth 100000 in
theorem c_JAL_size (l : Launch) (κ : Nat → Nat) (D : va_G) (sz : Nat) (h0 : Nat) (mk : Int32) (nn : Int32) (ed : Nat)  : Met l yJx4a65c_size_8abf5 wm_c_JAL_size ({ frames := 8, cells := 0, slots := 0, locals := 200 }) (va_Pc [.ref h0] (PC κ D [] [(h0, .inr (6, [.int mk, .ref ed, .int nn]))] sz)) (va_Qi (fun (r : Int32) (_ : Unit) => r = nn) (fun _ t => PB D [] [(h0, .inr (6, [.int mk, .ref ed, .int nn]))] (va_A [(h0, .inr (6, [.int mk, .ref ed, .int nn]))] sz) t) (va_A [(h0, .inr (6, [.int mk, .ref ed, .int nn]))] sz)) 0 0 (va_A [(h0, .inr (6, [.int mk, .ref ed, .int nn]))] sz) := by
  refine Met.ofW (cc := cJx4a65c_size_8abf5) (maxL := 1) (ret := (some .int)) (by decide +kernel) rfl ?_
  intro p e s m args below meth c s₁ B hml hv
  obtain ⟨rfl, hsz, hP, hK, hD0, hE⟩ := hv
  have hx := B.exec
  have hb := B.bytes
  have hr := B.returns
  have hts := atoms_spec (ws := wm_c_JAL_size) B.pre
  have hown : s.vm.findClass RJx4a65c = some m.cls := findClass_of_methodNamed B.named
  have hlocks := B.notSynchronized
  have iRJx4a65c : ∀ w ∈ u_ws RJx4a65c TJx4a65c 3, w ∈ wm_c_JAL_size := by decide +kernel
  subst hsz
  have hD := hD0.self (sz := s.heap.size)
  generalize hAe : va_A [(h0, .inr (6, [.int mk, .ref ed, .int nn]))] s.heap.size = A at hD hE ⊢
  have hA : ∀ q : Nat, s.heap.size ≤ q → A q := fun q h => by rw [← hAe]; exact Or.inr h
  have hS : va_S A s.heap s.heap [] := va_S.rf
  have hl := lv_entry ([.ref h0]) (n := 1) (Nat.le_of_ble_eq_true rfl)
  rw [lg_entry_eq]
  generalize (lg_sl ([.ref h0]) ++ List.replicate (1 - (lg_sl ([.ref h0])).length) Slot.unset).toArray = ls at hl ⊢
  have hl : lv_has ls 1 [(0, .ref h0)] := hl
  refine lv_aload_n hx hb dJx4a65c_size_8abf5_0 rfl (lv_at hl 0 rfl) ?_
  refine va_get (D := D) (ci := 6) (v := .int nn) (C := RJx4a65c) (T := TJx4a65c) (N := 3) hx hb hts iRJx4a65c hown hK hP 0 rfl rfl 2 (by decide) (hts (.fieldLink RJx4a65c 48 "java/util/ArrayList" "size" "I") (by decide +kernel)) (fun _ h9 => h9) rfl dJx4a65c_size_8abf5_1 ?_
  refine W.widen (k := 0) (n := 0) (Nat.le_of_ble_eq_true rfl) (Nat.le_of_ble_eq_true rfl) ?_
  exact W.iret (v := nn) hx hb hr (fun t ht hW => ⟨⟨nn, (), rfl, rfl, PB.at hP hK hD hW.alike ht [0] rfl (by decide) [] rfl⟩, hS.F ht⟩) hS.2.2 dJx4a65c_size_8abf5_4

def wm_c_JAL_isEmpty : List Cond := .code yJx4a65c_isEmpty_aae02 cJx4a65c_isEmpty_aae02 1 (some .boolean) :: ([.fieldLink RJx4a65c 48 "java/util/ArrayList" "size" "I"] ++ wsJx4a65c0)
set_option maxHeartbeats 4000000 in
set_option maxRecDepth 100000 in
theorem c_JAL_isEmpty (l : Launch) (κ : Nat → Nat) (D : va_G) (sz : Nat) (h0 : Nat) (mk : Int32) (ed : Nat)  : Met l yJx4a65c_isEmpty_aae02 wm_c_JAL_isEmpty ({ frames := 8, cells := 0, slots := 0, locals := 200 }) (va_Pc [.ref h0] (PC κ D [] [(h0, .inr (6, [.int mk, .ref ed, .int 0]))] sz)) (va_Qi (fun (r : Int32) (_ : Unit) => r = 1) (fun _ t => PB D [] [(h0, .inr (6, [.int mk, .ref ed, .int 0]))] (va_A [(h0, .inr (6, [.int mk, .ref ed, .int 0]))] sz) t) (va_A [(h0, .inr (6, [.int mk, .ref ed, .int 0]))] sz)) 0 0 (va_A [(h0, .inr (6, [.int mk, .ref ed, .int 0]))] sz) := by
  refine Met.ofW (cc := cJx4a65c_isEmpty_aae02) (maxL := 1) (ret := (some .boolean)) (by decide +kernel) rfl ?_
  intro p e s m args below meth c s₁ B hml hv
  obtain ⟨rfl, hsz, hP, hK, hD0, hE⟩ := hv
  have hx := B.exec
  have hb := B.bytes
  have hr := B.returns
  have hts := atoms_spec (ws := wm_c_JAL_isEmpty) B.pre
  have hown : s.vm.findClass RJx4a65c = some m.cls := findClass_of_methodNamed B.named
  have hlocks := B.notSynchronized
  have iRJx4a65c : ∀ w ∈ u_ws RJx4a65c TJx4a65c 3, w ∈ wm_c_JAL_isEmpty := by decide +kernel
  subst hsz
  have hD := hD0.self (sz := s.heap.size)
  generalize hAe : va_A [(h0, .inr (6, [.int mk, .ref ed, .int 0]))] s.heap.size = A at hD hE ⊢
  have hA : ∀ q : Nat, s.heap.size ≤ q → A q := fun q h => by rw [← hAe]; exact Or.inr h
  have hS : va_S A s.heap s.heap [] := va_S.rf
  have hl := lv_entry ([.ref h0]) (n := 1) (Nat.le_of_ble_eq_true rfl)
  rw [lg_entry_eq]
  generalize (lg_sl ([.ref h0]) ++ List.replicate (1 - (lg_sl ([.ref h0])).length) Slot.unset).toArray = ls at hl ⊢
  have hl : lv_has ls 1 [(0, .ref h0)] := hl
  refine lv_aload_n hx hb dJx4a65c_isEmpty_aae02_0 rfl (lv_at hl 0 rfl) ?_
  refine va_get (D := D) (ci := 6) (v := .int 0) (C := RJx4a65c) (T := TJx4a65c) (N := 3) hx hb hts iRJx4a65c hown hK hP 0 rfl rfl 2 (by decide) (hts (.fieldLink RJx4a65c 48 "java/util/ArrayList" "size" "I") (by decide +kernel)) (fun _ h9 => h9) rfl dJx4a65c_isEmpty_aae02_1 ?_
  refine lv_if_ne (tgt := 11) hx hb dJx4a65c_isEmpty_aae02_4 (by decide) (fun c_4 => absurd c_4 (by decide)) (fun _ => ?_)
  refine lv_iconst (v := 1) hx hb dJx4a65c_isEmpty_aae02_7 (by decide) ?_
  refine lv_goto (tgt := 12) hx hb dJx4a65c_isEmpty_aae02_8 (by decide) ?_
  refine W.widen (k := 0) (n := 0) (Nat.le_of_ble_eq_true rfl) (Nat.le_of_ble_eq_true rfl) ?_
  exact W.zret (v := 1) hx hb hr (by decide) (fun t ht hW => ⟨⟨1, (), rfl, rfl, PB.at hP hK hD hW.alike ht [0] rfl (by decide) [] rfl⟩, hS.F ht⟩) hS.2.2 dJx4a65c_isEmpty_aae02_12

def wm_c_JAL_clear : List Cond := .code yJx4a65c_clear_da8c8 cJx4a65c_clear_da8c8 4 none :: ([.sameField "java/util/ArrayList" "java/util/AbstractList" "modCount" "I", .fieldLink RJx4a65c 63 "java/util/ArrayList" "modCount" "I", .fieldLink RJx4a65c 9 "java/util/ArrayList" "elementData" "[Ljava/lang/Object;", .fieldLink RJx4a65c 48 "java/util/ArrayList" "size" "I"] ++ wsJx4a65c0)
set_option maxHeartbeats 4000000 in
set_option maxRecDepth 100000 in
theorem c_JAL_clear (l : Launch) (κ : Nat → Nat) (D : va_G) (sz : Nat) (h0 : Nat) (mk : Int32) (ed : Nat)  : Met l yJx4a65c_clear_da8c8 wm_c_JAL_clear ({ frames := 8, cells := 0, slots := 0, locals := 200 }) (va_Pc [.ref h0] (PC κ D [] [(h0, .inr (6, [.int mk, .ref ed, .int 0]))] sz)) (va_Qv (fun _ : Unit => True) (fun _ t => PB D [] [] (va_A [(h0, .inr (6, [.int mk, .ref ed, .int 0]))] sz) t) (va_A [(h0, .inr (6, [.int mk, .ref ed, .int 0]))] sz)) 0 0 (va_A [(h0, .inr (6, [.int mk, .ref ed, .int 0]))] sz) := by
  refine Met.ofW (cc := cJx4a65c_clear_da8c8) (maxL := 4) (ret := none) (by decide +kernel) rfl ?_
  intro p e s m args below meth c s₁ B hml hv
  obtain ⟨rfl, hsz, hP, hK, hD0, hE⟩ := hv
  have hx := B.exec
  have hb := B.bytes
  have hr := B.returns
  have hts := atoms_spec (ws := wm_c_JAL_clear) B.pre
  have hown : s.vm.findClass RJx4a65c = some m.cls := findClass_of_methodNamed B.named
  have hlocks := B.notSynchronized
  have iRJx4a65c : ∀ w ∈ u_ws RJx4a65c TJx4a65c 3, w ∈ wm_c_JAL_clear := by decide +kernel
  subst hsz
  have hD := hD0.self (sz := s.heap.size)
  generalize hAe : va_A [(h0, .inr (6, [.int mk, .ref ed, .int 0]))] s.heap.size = A at hD hE ⊢
  have hA : ∀ q : Nat, s.heap.size ≤ q → A q := fun q h => by rw [← hAe]; exact Or.inr h
  have hS : va_S A s.heap s.heap [] := va_S.rf
  have hl := lv_entry ([.ref h0]) (n := 4) (Nat.le_of_ble_eq_true rfl)
  rw [lg_entry_eq]
  generalize (lg_sl ([.ref h0]) ++ List.replicate (4 - (lg_sl ([.ref h0])).length) Slot.unset).toArray = ls at hl ⊢
  have hl : lv_has ls 4 [(0, .ref h0)] := hl
  refine lv_aload_n hx hb dJx4a65c_clear_da8c8_0 rfl (lv_at hl 0 rfl) ?_
  refine lv_dup hx hb dJx4a65c_clear_da8c8_1 rfl ?_
  refine va_get (D := D) (ci := 6) (v := .int mk) (C := RJx4a65c) (T := TJx4a65c) (N := 3) hx hb hts iRJx4a65c hown hK hP 0 rfl rfl 0 (by decide) (hts (.fieldLink RJx4a65c 63 "java/util/ArrayList" "modCount" "I") (by decide +kernel)) (fun x9 h9 => u_same (hts (.sameField "java/util/ArrayList" "java/util/AbstractList" "modCount" "I") (by decide +kernel)) x9 h9) rfl dJx4a65c_clear_da8c8_2 ?_
  refine lv_iconst (v := 1) hx hb dJx4a65c_clear_da8c8_5 (by decide) ?_
  refine lv_iadd hx hb dJx4a65c_clear_da8c8_6 ?_
  refine lv_topi (fun v_1 ev_1 => ?_)
  refine va_put (D := D) (ci := 6) (v := .int v_1) (ty := .int) (C := RJx4a65c) (T := TJx4a65c) (N := 3) hx hb hts iRJx4a65c tyJx4a65c tyJx4a65c_ok nmJx4a65c hown hK hP hD hS 0 rfl rfl 0 (by decide) (hts (.fieldLink RJx4a65c 63 "java/util/ArrayList" "modCount" "I") (by decide +kernel)) (fun x9 h9 => u_same (hts (.sameField "java/util/ArrayList" "java/util/AbstractList" "modCount" "I") (by decide +kernel)) x9 h9) rfl (by decide +kernel) rfl rfl (Nat.le_of_ble_eq_true rfl) dJx4a65c_clear_da8c8_7 (fun H locs hP hD hS => ?_)
  have hP : va_P D vwCl ([(h0, .inr (6, [.int v_1, .ref ed, .int 0]))]) H := hP
  have hD : va_D A ([(h0, .inr (6, [.int v_1, .ref ed, .int 0]))]) := hD
  refine lv_aload_n hx hb dJx4a65c_clear_da8c8_10 rfl (lv_at hl 0 rfl) ?_
  refine va_get (D := D) (ci := 6) (v := .ref ed) (C := RJx4a65c) (T := TJx4a65c) (N := 3) hx hb hts iRJx4a65c hown hK hP 0 rfl rfl 1 (by decide) (hts (.fieldLink RJx4a65c 9 "java/util/ArrayList" "elementData" "[Ljava/lang/Object;") (by decide +kernel)) (fun _ h9 => h9) rfl dJx4a65c_clear_da8c8_11 ?_
  refine lv_astore_n (lv' := [(1, .ref ed), (0, .ref h0)]) hx hb dJx4a65c_clear_da8c8_14 rfl hl (by decide) rfl (fun ls hl => ?_)
  refine lv_aload_n hx hb dJx4a65c_clear_da8c8_15 rfl (lv_at hl 1 rfl) ?_
  refine va_get (D := D) (ci := 6) (v := .int 0) (C := RJx4a65c) (T := TJx4a65c) (N := 3) hx hb hts iRJx4a65c hown hK hP 0 rfl rfl 2 (by decide) (hts (.fieldLink RJx4a65c 48 "java/util/ArrayList" "size" "I") (by decide +kernel)) (fun _ h9 => h9) rfl dJx4a65c_clear_da8c8_16 ?_
  refine lv_istore_n (lv' := [(2, .int 0), (1, .ref ed), (0, .ref h0)]) hx hb dJx4a65c_clear_da8c8_19 rfl hl (by decide) rfl (fun ls hl => ?_)
  refine lv_aload_n hx hb dJx4a65c_clear_da8c8_20 rfl (lv_at hl 2 rfl) ?_
  refine lv_iconst (v := 0) hx hb dJx4a65c_clear_da8c8_21 (by decide) ?_
  refine lv_dup_x1 hx hb dJx4a65c_clear_da8c8_22 rfl rfl ?_
  refine va_put (D := D) (ci := 6) (v := .int 0) (ty := .int) (C := RJx4a65c) (T := TJx4a65c) (N := 3) hx hb hts iRJx4a65c tyJx4a65c tyJx4a65c_ok nmJx4a65c hown hK hP hD hS 0 rfl rfl 2 (by decide) (hts (.fieldLink RJx4a65c 48 "java/util/ArrayList" "size" "I") (by decide +kernel)) (fun _ h9 => h9) rfl (by decide +kernel) rfl rfl (Nat.le_of_ble_eq_true rfl) dJx4a65c_clear_da8c8_23 (fun H locs hP hD hS => ?_)
  have hP : va_P D vwCl ([(h0, .inr (6, [.int v_1, .ref ed, .int 0]))]) H := hP
  have hD : va_D A ([(h0, .inr (6, [.int v_1, .ref ed, .int 0]))]) := hD
  refine lv_istore_n (lv' := [(3, .int 0), (2, .int 0), (1, .ref ed), (0, .ref h0)]) hx hb dJx4a65c_clear_da8c8_26 rfl hl (by decide) rfl (fun ls hl => ?_)
  refine lv_iload_n hx hb dJx4a65c_clear_da8c8_27 rfl (lv_at hl 0 rfl) ?_
  refine lv_iload_n hx hb dJx4a65c_clear_da8c8_28 rfl (lv_at hl 1 rfl) ?_
  refine lv_icmp_ge (tgt := 42) hx hb dJx4a65c_clear_da8c8_29 (by decide) (fun _ => ?_) (fun c_29 => absurd c_29 (by decide))
  refine W.widen (k := 0) (n := 0) (Nat.le_of_ble_eq_true rfl) (Nat.le_of_ble_eq_true rfl) ?_
  exact W.vret hx hb hr (fun t ht hW => ⟨⟨(), rfl, trivial, PB.at hP hK hD hW.alike ht [] rfl (by decide) [] rfl⟩, hS.F ht⟩) hS.2.2 dJx4a65c_clear_da8c8_42

def wm_c_X9_init : List Cond := .code yX9_init cX9_init 1 none :: ([.methodLink RX9 1 objectInit, .instanceMethod objectInit, .code objectInit ⟨#[0xb1]⟩ 1 none, .classLink RX9 7 RJx4a65c, .instantiable RJx4a65c 3, .initialized RJx4a65c, .code yJx4a65c_init_da8c8 cJx4a65c_init_da8c8 1 none, .code yJxc12de_init_da8c8 cJxc12de_init_da8c8 1 none, .code yJxa1e45_init_da8c8 cJxa1e45_init_da8c8 1 none, .methodLink RJxa1e45 1 objectInit, .initialized RJxa1e45, .methodLink RJxc12de 1 yJxa1e45_init_da8c8, .instanceMethod yJxa1e45_init_da8c8, .fieldLink RJxc12de 7 "java/util/AbstractList" "modCount" "I", .initialized RJxc12de, .methodLink RJx4a65c 1 yJxc12de_init_da8c8, .instanceMethod yJxc12de_init_da8c8, .fieldLink RJx4a65c 39 "java/util/ArrayList" "DEFAULTCAPACITY_EMPTY_ELEMENTDATA" "[Ljava/lang/Object;", .fieldLink RJx4a65c 9 "java/util/ArrayList" "elementData" "[Ljava/lang/Object;", .methodLink RX9 9 yJx4a65c_init_da8c8, .instanceMethod yJx4a65c_init_da8c8, .fieldLink RX9 10 "SowingcourtModel" "kinds" "Ljava/util/List;", .fieldLink RX9 16 "SowingcourtModel" "typed" "Ljava/util/List;"] ++ wsJx4a65c0 ++ wsX90)
set_option maxRecDepth 20000 in
theorem gd_c_X9_init_9 : GoodIn wm_c_X9_init wm_c_JAL_init := goodIn_of _ (by decide +kernel)
set_option maxRecDepth 20000 in
theorem gd_c_X9_init_20 : GoodIn wm_c_X9_init wm_c_JAL_init := goodIn_of _ (by decide +kernel)
set_option maxHeartbeats 4000000 in
set_option maxRecDepth 100000 in
theorem c_X9_init (l : Launch) (κ : Nat → Nat) (D : va_G) (sz : Nat) (m0 : Nat)  : Met l yX9_init wm_c_X9_init ({ frames := 11, cells := 2, slots := 6, locals := 380 }) (va_Pc [.ref m0] (PC κ D [] [(m0, .inr (16, [.int 0, .null, .null, .null]))] sz)) (va_Qv (fun _ : Unit => True) (fun _ t => ∃ (kl : Nat) (tl : Nat), PB D [] [(m0, .inr (16, [.int 0, .ref kl, .null, .ref tl])), (kl, .inr (6, [.int 0, .ref (κ 0), .int 0])), (tl, .inr (6, [.int 0, .ref (κ 0), .int 0]))] (va_A [(m0, .inr (16, [.int 0, .null, .null, .null]))] sz) t) (va_A [(m0, .inr (16, [.int 0, .null, .null, .null]))] sz)) 2 6 (va_A [(m0, .inr (16, [.int 0, .null, .null, .null]))] sz) := by
  refine Met.ofW (cc := cX9_init) (maxL := 1) (ret := none) (by decide +kernel) rfl ?_
  intro p e s m args below meth c s₁ B hml hv
  obtain ⟨rfl, hsz, hP, hK, hD0, hE⟩ := hv
  have hx := B.exec
  have hb := B.bytes
  have hr := B.returns
  have hts := atoms_spec (ws := wm_c_X9_init) B.pre
  have hown : s.vm.findClass RX9 = some m.cls := findClass_of_methodNamed B.named
  have hlocks := B.notSynchronized
  have hin : meth.name = "<init>" := (name_of_methodNamed B.named B.method).1
  have iRJx4a65c : ∀ w ∈ u_ws RJx4a65c TJx4a65c 3, w ∈ wm_c_X9_init := by decide +kernel
  have iRX9 : ∀ w ∈ u_ws RX9 TX9 4, w ∈ wm_c_X9_init := by decide +kernel
  subst hsz
  have hD := hD0.self (sz := s.heap.size)
  generalize hAe : va_A [(m0, .inr (16, [.int 0, .null, .null, .null]))] s.heap.size = A at hD hE ⊢
  have hA : ∀ q : Nat, s.heap.size ≤ q → A q := fun q h => by rw [← hAe]; exact Or.inr h
  have hS : va_S A s.heap s.heap [] := va_S.rf
  have hl := lv_entry ([.ref m0]) (n := 1) (Nat.le_of_ble_eq_true rfl)
  rw [lg_entry_eq]
  generalize (lg_sl ([.ref m0]) ++ List.replicate (1 - (lg_sl ([.ref m0])).length) Slot.unset).toArray = ls at hl ⊢
  have hl : lv_has ls 1 [(0, .ref m0)] := hl
  refine lv_aload_n hx hb dX9_init_0 rfl (lv_at hl 0 rfl) ?_
  refine W.objInit hx hb hown (hts (.methodLink RX9 1 objectInit) (by decide +kernel)) (hts (.instanceMethod objectInit) (by decide +kernel)) (hts (.code objectInit ⟨#[0xb1]⟩ 1 none) (by decide +kernel)) rfl (by rw [hml]; exact hl.1) rfl dX9_init_1 (Nat.le_of_ble_eq_true rfl) (Nat.le_of_ble_eq_true rfl) ?_
  refine W.eq (g2 := F0 m 4 ls []) rfl ?_
  refine lv_aload_n hx hb dX9_init_4 rfl (lv_at hl 0 rfl) ?_
  refine va_new (ci := 6) (fs := [.int 0, .null, .int 0]) (C := RJx4a65c) (T := TJx4a65c) (N := 3) hx hb hts iRJx4a65c tyJx4a65c tyJx4a65c_ok hown (hts (.classLink RX9 7 RJx4a65c) (by decide +kernel)) (hts (.instantiable RJx4a65c 3) (by decide +kernel)) (hts (.initialized RJx4a65c) (by decide +kernel)) hK hP hD hS hA rfl (fun j hj => by rcases (show j = 0 ∨ j = 1 ∨ j = 2 by omega) with rfl | rfl | rfl <;> rfl) (Nat.le_of_ble_eq_true rfl) (Nat.le_of_ble_eq_true rfl) dX9_init_5 (fun q_1 H hP hD hS => ?_)
  have hP : va_P D vwCl ([(m0, .inr (16, [.int 0, .null, .null, .null])), (q_1, .inr (6, [.int 0, .null, .int 0]))]) H := hP
  have hD : va_D A ([(m0, .inr (16, [.int 0, .null, .null, .null])), (q_1, .inr (6, [.int 0, .null, .int 0]))]) := hD
  refine W.widen (k := 1) (n := 3) (Nat.le_of_ble_eq_true rfl) (Nat.le_of_ble_eq_true rfl) ?_
  refine lv_dup hx hb dX9_init_8 rfl ?_
  have hS0 := hS
  have hFc := va_free (wc := [(q_1, .inr (6, [.int 0, .null, .int 0]))]) hD hS hA [1] rfl
  refine va_callv (va_runI (As := []) (rest := [.ref q_1, .ref m0]) ⟨hx, hb, hml, hown, hts⟩ (c_JAL_init l κ D (H).size (q_1) ) (cwI 0 hts gd_c_X9_init_9 rfl rfl rfl (hts (.initialized RJx4a65c) (by decide +kernel)) (hts (.methodLink RX9 9 yJx4a65c_init_da8c8) (by decide +kernel)) (hts (.instanceMethod yJx4a65c_init_da8c8) (by decide +kernel)) rfl (by decide +kernel) ⟨(Nat.le_of_ble_eq_true rfl), (Nat.le_of_ble_eq_true rfl)⟩) (preS hE hK hP hD hS hA [1] rfl (by decide) [] rfl) rfl rfl hl.1 rfl (lv_room (Nat.le_of_ble_eq_true rfl)) dX9_init_9 ⟨(Nat.le_of_ble_eq_true rfl), (Nat.le_of_ble_eq_true rfl)⟩) hS (fun q _ h => hFc q h) hFc (fun u t H1 locs ht hvm hw hB hz1 hk1 hS => ?_)
  try dsimp only at hw
  obtain ⟨hP, hD, hK⟩ := jn (wc := [(q_1, .inr (6, [.int 0, .null, .int 0]))]) (wr := [(m0, .inr (16, [.int 0, .null, .null, .null]))]) (w1 := [(q_1, .inr (6, [.int 0, .ref (κ 0), .int 0]))]) (t1 := []) hP hD hK hS0 hA [1] [0] rfl rfl (by decide) (by decide) ht hvm hk1 hB
  generalize H1 = H at hP hS ⊢
  have hP : va_P D vwCl ([(m0, .inr (16, [.int 0, .null, .null, .null])), (q_1, .inr (6, [.int 0, .ref (κ 0), .int 0]))]) H := hP
  have hD : va_D A ([(m0, .inr (16, [.int 0, .null, .null, .null])), (q_1, .inr (6, [.int 0, .ref (κ 0), .int 0]))]) := hD
  have hK : va_K D vwCl [] s := hK
  refine W.widen (k := 1) (n := 3) (Nat.le_of_ble_eq_true rfl) (Nat.le_of_ble_eq_true rfl) ?_
  refine va_putF (D := D) (ci := 16) (v := .ref q_1) (ty := .object "java/util/List") (C := RX9) (T := TX9) (N := 4) hx hb hts iRX9 tyX9 tyX9_ok nmX9 hown hK hP hD hS 0 rfl rfl 1 (by decide) (hts (.fieldLink RX9 10 "SowingcourtModel" "kinds" "Ljava/util/List;") (by decide +kernel)) (fun _ h9 => h9) rfl hin rfl (by decide +kernel) rfl rfl (Nat.le_of_ble_eq_true rfl) dX9_init_12 (fun H locs hP hD hS => ?_)
  have hP : va_P D vwCl ([(m0, .inr (16, [.int 0, .ref q_1, .null, .null])), (q_1, .inr (6, [.int 0, .ref (κ 0), .int 0]))]) H := hP
  have hD : va_D A ([(m0, .inr (16, [.int 0, .ref q_1, .null, .null])), (q_1, .inr (6, [.int 0, .ref (κ 0), .int 0]))]) := hD
  refine lv_aload_n hx hb dX9_init_15 rfl (lv_at hl 0 rfl) ?_
  refine va_new (ci := 6) (fs := [.int 0, .null, .int 0]) (C := RJx4a65c) (T := TJx4a65c) (N := 3) hx hb hts iRJx4a65c tyJx4a65c tyJx4a65c_ok hown (hts (.classLink RX9 7 RJx4a65c) (by decide +kernel)) (hts (.instantiable RJx4a65c 3) (by decide +kernel)) (hts (.initialized RJx4a65c) (by decide +kernel)) hK hP hD hS hA rfl (fun j hj => by rcases (show j = 0 ∨ j = 1 ∨ j = 2 by omega) with rfl | rfl | rfl <;> rfl) (Nat.le_of_ble_eq_true rfl) (Nat.le_of_ble_eq_true rfl) dX9_init_16 (fun q_3 H hP hD hS => ?_)
  have hP : va_P D vwCl ([(m0, .inr (16, [.int 0, .ref q_1, .null, .null])), (q_1, .inr (6, [.int 0, .ref (κ 0), .int 0])), (q_3, .inr (6, [.int 0, .null, .int 0]))]) H := hP
  have hD : va_D A ([(m0, .inr (16, [.int 0, .ref q_1, .null, .null])), (q_1, .inr (6, [.int 0, .ref (κ 0), .int 0])), (q_3, .inr (6, [.int 0, .null, .int 0]))]) := hD
  refine W.widen (k := 2) (n := 6) (Nat.le_of_ble_eq_true rfl) (Nat.le_of_ble_eq_true rfl) ?_
  refine lv_dup hx hb dX9_init_19 rfl ?_
  have hS0 := hS
  have hFc := va_free (wc := [(q_3, .inr (6, [.int 0, .null, .int 0]))]) hD hS hA [2] rfl
  refine va_callv (va_runI (As := []) (rest := [.ref q_3, .ref m0]) ⟨hx, hb, hml, hown, hts⟩ (c_JAL_init l κ D (H).size (q_3) ) (cwI 0 hts gd_c_X9_init_20 rfl rfl rfl (hts (.initialized RJx4a65c) (by decide +kernel)) (hts (.methodLink RX9 9 yJx4a65c_init_da8c8) (by decide +kernel)) (hts (.instanceMethod yJx4a65c_init_da8c8) (by decide +kernel)) rfl (by decide +kernel) ⟨(Nat.le_of_ble_eq_true rfl), (Nat.le_of_ble_eq_true rfl)⟩) (preS hE hK hP hD hS hA [2] rfl (by decide) [] rfl) rfl rfl hl.1 rfl (lv_room (Nat.le_of_ble_eq_true rfl)) dX9_init_20 ⟨(Nat.le_of_ble_eq_true rfl), (Nat.le_of_ble_eq_true rfl)⟩) hS (fun q _ h => hFc q h) hFc (fun u t H1 locs ht hvm hw hB hz1 hk1 hS => ?_)
  try dsimp only at hw
  obtain ⟨hP, hD, hK⟩ := jn (wc := [(q_3, .inr (6, [.int 0, .null, .int 0]))]) (wr := [(m0, .inr (16, [.int 0, .ref q_1, .null, .null])), (q_1, .inr (6, [.int 0, .ref (κ 0), .int 0]))]) (w1 := [(q_3, .inr (6, [.int 0, .ref (κ 0), .int 0]))]) (t1 := []) hP hD hK hS0 hA [2] [0, 1] rfl rfl (by decide) (by decide) ht hvm hk1 hB
  generalize H1 = H at hP hS ⊢
  have hP : va_P D vwCl ([(m0, .inr (16, [.int 0, .ref q_1, .null, .null])), (q_1, .inr (6, [.int 0, .ref (κ 0), .int 0])), (q_3, .inr (6, [.int 0, .ref (κ 0), .int 0]))]) H := hP
  have hD : va_D A ([(m0, .inr (16, [.int 0, .ref q_1, .null, .null])), (q_1, .inr (6, [.int 0, .ref (κ 0), .int 0])), (q_3, .inr (6, [.int 0, .ref (κ 0), .int 0]))]) := hD
  have hK : va_K D vwCl [] s := hK
  refine W.widen (k := 2) (n := 6) (Nat.le_of_ble_eq_true rfl) (Nat.le_of_ble_eq_true rfl) ?_
  refine va_putF (D := D) (ci := 16) (v := .ref q_3) (ty := .object "java/util/List") (C := RX9) (T := TX9) (N := 4) hx hb hts iRX9 tyX9 tyX9_ok nmX9 hown hK hP hD hS 0 rfl rfl 3 (by decide) (hts (.fieldLink RX9 16 "SowingcourtModel" "typed" "Ljava/util/List;") (by decide +kernel)) (fun _ h9 => h9) rfl hin rfl (by decide +kernel) rfl rfl (Nat.le_of_ble_eq_true rfl) dX9_init_23 (fun H locs hP hD hS => ?_)
  have hP : va_P D vwCl ([(m0, .inr (16, [.int 0, .ref q_1, .null, .ref q_3])), (q_1, .inr (6, [.int 0, .ref (κ 0), .int 0])), (q_3, .inr (6, [.int 0, .ref (κ 0), .int 0]))]) H := hP
  have hD : va_D A ([(m0, .inr (16, [.int 0, .ref q_1, .null, .ref q_3])), (q_1, .inr (6, [.int 0, .ref (κ 0), .int 0])), (q_3, .inr (6, [.int 0, .ref (κ 0), .int 0]))]) := hD
  refine W.widen (k := 2) (n := 6) (Nat.le_of_ble_eq_true rfl) (Nat.le_of_ble_eq_true rfl) ?_
  exact W.vret hx hb hr (fun t ht hW => ⟨⟨(), rfl, trivial, q_1, q_3, PB.at hP hK hD hW.alike ht [0, 1, 2] rfl (by decide) [] rfl⟩, hS.F ht⟩) hS.2.2 dX9_init_26

def wm_c_X9_begins : List Cond := .code yX9_begins cX9_begins 1 none :: ([.fieldLink RX9 19 "SowingcourtModel" "thrown" "I"] ++ wsX90)
set_option maxHeartbeats 4000000 in
set_option maxRecDepth 100000 in
theorem c_X9_begins (l : Launch) (κ : Nat → Nat) (D : va_G) (sz : Nat) (m0 : Nat) (kl : Nat) (tl : Nat) (t0 : Int32)  : Met l yX9_begins wm_c_X9_begins ({ frames := 8, cells := 0, slots := 0, locals := 200 }) (va_Pc [.ref m0] (PC κ D [] [(m0, .inr (16, [.int t0, .ref kl, .null, .ref tl]))] sz)) (va_Qv (fun _ : Unit => True) (fun _ t => PB D [] [(m0, .inr (16, [.int 0, .ref kl, .null, .ref tl]))] (va_A [(m0, .inr (16, [.int t0, .ref kl, .null, .ref tl]))] sz) t) (va_A [(m0, .inr (16, [.int t0, .ref kl, .null, .ref tl]))] sz)) 0 0 (va_A [(m0, .inr (16, [.int t0, .ref kl, .null, .ref tl]))] sz) := by
  refine Met.ofW (cc := cX9_begins) (maxL := 1) (ret := none) (by decide +kernel) rfl ?_
  intro p e s m args below meth c s₁ B hml hv
  obtain ⟨rfl, hsz, hP, hK, hD0, hE⟩ := hv
  have hx := B.exec
  have hb := B.bytes
  have hr := B.returns
  have hts := atoms_spec (ws := wm_c_X9_begins) B.pre
  have hown : s.vm.findClass RX9 = some m.cls := findClass_of_methodNamed B.named
  have hlocks := B.notSynchronized
  have iRX9 : ∀ w ∈ u_ws RX9 TX9 4, w ∈ wm_c_X9_begins := by decide +kernel
  subst hsz
  have hD := hD0.self (sz := s.heap.size)
  generalize hAe : va_A [(m0, .inr (16, [.int t0, .ref kl, .null, .ref tl]))] s.heap.size = A at hD hE ⊢
  have hA : ∀ q : Nat, s.heap.size ≤ q → A q := fun q h => by rw [← hAe]; exact Or.inr h
  have hS : va_S A s.heap s.heap [] := va_S.rf
  have hl := lv_entry ([.ref m0]) (n := 1) (Nat.le_of_ble_eq_true rfl)
  rw [lg_entry_eq]
  generalize (lg_sl ([.ref m0]) ++ List.replicate (1 - (lg_sl ([.ref m0])).length) Slot.unset).toArray = ls at hl ⊢
  have hl : lv_has ls 1 [(0, .ref m0)] := hl
  refine lv_aload_n hx hb dX9_begins_0 rfl (lv_at hl 0 rfl) ?_
  refine lv_iconst (v := 0) hx hb dX9_begins_1 (by decide) ?_
  refine va_put (D := D) (ci := 16) (v := .int 0) (ty := .int) (C := RX9) (T := TX9) (N := 4) hx hb hts iRX9 tyX9 tyX9_ok nmX9 hown hK hP hD hS 0 rfl rfl 0 (by decide) (hts (.fieldLink RX9 19 "SowingcourtModel" "thrown" "I") (by decide +kernel)) (fun _ h9 => h9) rfl (by decide +kernel) rfl rfl (Nat.le_of_ble_eq_true rfl) dX9_begins_2 (fun H locs hP hD hS => ?_)
  have hP : va_P D vwCl ([(m0, .inr (16, [.int 0, .ref kl, .null, .ref tl]))]) H := hP
  have hD : va_D A ([(m0, .inr (16, [.int 0, .ref kl, .null, .ref tl]))]) := hD
  refine W.widen (k := 0) (n := 0) (Nat.le_of_ble_eq_true rfl) (Nat.le_of_ble_eq_true rfl) ?_
  exact W.vret hx hb hr (fun t ht hW => ⟨⟨(), rfl, trivial, PB.at hP hK hD hW.alike ht [0] rfl (by decide) [] rfl⟩, hS.F ht⟩) hS.2.2 dX9_begins_5

def wm_c_X9_thrown : List Cond := .code yX9_thrown cX9_thrown 1 (some .int) :: ([.fieldLink RX9 19 "SowingcourtModel" "thrown" "I"] ++ wsX90)
set_option maxHeartbeats 4000000 in
set_option maxRecDepth 100000 in
theorem c_X9_thrown (l : Launch) (κ : Nat → Nat) (D : va_G) (sz : Nat) (m0 : Nat) (kl : Nat) (tl : Nat) (t0 : Int32)  : Met l yX9_thrown wm_c_X9_thrown ({ frames := 8, cells := 0, slots := 0, locals := 200 }) (va_Pc [.ref m0] (PC κ D [] [(m0, .inr (16, [.int t0, .ref kl, .null, .ref tl]))] sz)) (va_Qi (fun (r : Int32) (_ : Unit) => r = t0) (fun _ t => PB D [] [(m0, .inr (16, [.int t0, .ref kl, .null, .ref tl]))] (va_A [(m0, .inr (16, [.int t0, .ref kl, .null, .ref tl]))] sz) t) (va_A [(m0, .inr (16, [.int t0, .ref kl, .null, .ref tl]))] sz)) 0 0 (va_A [(m0, .inr (16, [.int t0, .ref kl, .null, .ref tl]))] sz) := by
  refine Met.ofW (cc := cX9_thrown) (maxL := 1) (ret := (some .int)) (by decide +kernel) rfl ?_
  intro p e s m args below meth c s₁ B hml hv
  obtain ⟨rfl, hsz, hP, hK, hD0, hE⟩ := hv
  have hx := B.exec
  have hb := B.bytes
  have hr := B.returns
  have hts := atoms_spec (ws := wm_c_X9_thrown) B.pre
  have hown : s.vm.findClass RX9 = some m.cls := findClass_of_methodNamed B.named
  have hlocks := B.notSynchronized
  have iRX9 : ∀ w ∈ u_ws RX9 TX9 4, w ∈ wm_c_X9_thrown := by decide +kernel
  subst hsz
  have hD := hD0.self (sz := s.heap.size)
  generalize hAe : va_A [(m0, .inr (16, [.int t0, .ref kl, .null, .ref tl]))] s.heap.size = A at hD hE ⊢
  have hA : ∀ q : Nat, s.heap.size ≤ q → A q := fun q h => by rw [← hAe]; exact Or.inr h
  have hS : va_S A s.heap s.heap [] := va_S.rf
  have hl := lv_entry ([.ref m0]) (n := 1) (Nat.le_of_ble_eq_true rfl)
  rw [lg_entry_eq]
  generalize (lg_sl ([.ref m0]) ++ List.replicate (1 - (lg_sl ([.ref m0])).length) Slot.unset).toArray = ls at hl ⊢
  have hl : lv_has ls 1 [(0, .ref m0)] := hl
  refine lv_aload_n hx hb dX9_thrown_0 rfl (lv_at hl 0 rfl) ?_
  refine va_get (D := D) (ci := 16) (v := .int t0) (C := RX9) (T := TX9) (N := 4) hx hb hts iRX9 hown hK hP 0 rfl rfl 0 (by decide) (hts (.fieldLink RX9 19 "SowingcourtModel" "thrown" "I") (by decide +kernel)) (fun _ h9 => h9) rfl dX9_thrown_1 ?_
  refine W.widen (k := 0) (n := 0) (Nat.le_of_ble_eq_true rfl) (Nat.le_of_ble_eq_true rfl) ?_
  exact W.iret (v := t0) hx hb hr (fun t ht hW => ⟨⟨t0, (), rfl, rfl, PB.at hP hK hD hW.alike ht [0] rfl (by decide) [] rfl⟩, hS.F ht⟩) hS.2.2 dX9_thrown_4

def wm_c_X9_fails_1 : List Cond := .code yX9_fails cX9_fails 3 (some .boolean) :: ([.fieldLink RX9 19 "SowingcourtModel" "thrown" "I"] ++ wsX90)
set_option maxHeartbeats 4000000 in
set_option maxRecDepth 100000 in
theorem c_X9_fails_1 (l : Launch) (κ : Nat → Nat) (D : va_G) (sz : Nat) (m0 : Nat) (kl : Nat) (tl : Nat)  : Met l yX9_fails wm_c_X9_fails_1 ({ frames := 8, cells := 0, slots := 0, locals := 200 }) (va_Pc [.ref m0, .int 1, .int 1] (PC κ D [] [(m0, .inr (16, [.int 0, .ref kl, .null, .ref tl]))] sz)) (va_Qi (fun (r : Int32) (_ : Unit) => r = 1) (fun _ t => PB D [] [(m0, .inr (16, [.int 1, .ref kl, .null, .ref tl]))] (va_A [(m0, .inr (16, [.int 0, .ref kl, .null, .ref tl]))] sz) t) (va_A [(m0, .inr (16, [.int 0, .ref kl, .null, .ref tl]))] sz)) 0 0 (va_A [(m0, .inr (16, [.int 0, .ref kl, .null, .ref tl]))] sz) := by
  refine Met.ofW (cc := cX9_fails) (maxL := 3) (ret := (some .boolean)) (by decide +kernel) rfl ?_
  intro p e s m args below meth c s₁ B hml hv
  obtain ⟨rfl, hsz, hP, hK, hD0, hE⟩ := hv
  have hx := B.exec
  have hb := B.bytes
  have hr := B.returns
  have hts := atoms_spec (ws := wm_c_X9_fails_1) B.pre
  have hown : s.vm.findClass RX9 = some m.cls := findClass_of_methodNamed B.named
  have hlocks := B.notSynchronized
  have iRX9 : ∀ w ∈ u_ws RX9 TX9 4, w ∈ wm_c_X9_fails_1 := by decide +kernel
  subst hsz
  have hD := hD0.self (sz := s.heap.size)
  generalize hAe : va_A [(m0, .inr (16, [.int 0, .ref kl, .null, .ref tl]))] s.heap.size = A at hD hE ⊢
  have hA : ∀ q : Nat, s.heap.size ≤ q → A q := fun q h => by rw [← hAe]; exact Or.inr h
  have hS : va_S A s.heap s.heap [] := va_S.rf
  have hl := lv_entry ([.ref m0, .int 1, .int 1]) (n := 3) (Nat.le_of_ble_eq_true rfl)
  rw [lg_entry_eq]
  generalize (lg_sl ([.ref m0, .int 1, .int 1]) ++ List.replicate (3 - (lg_sl ([.ref m0, .int 1, .int 1])).length) Slot.unset).toArray = ls at hl ⊢
  have hl : lv_has ls 3 [(0, .ref m0), (1, .int 1), (2, .int 1)] := hl
  refine lv_aload_n hx hb dX9_fails_0 rfl (lv_at hl 0 rfl) ?_
  refine va_get (D := D) (ci := 16) (v := .int 0) (C := RX9) (T := TX9) (N := 4) hx hb hts iRX9 hown hK hP 0 rfl rfl 0 (by decide) (hts (.fieldLink RX9 19 "SowingcourtModel" "thrown" "I") (by decide +kernel)) (fun _ h9 => h9) rfl dX9_fails_1 ?_
  refine lv_if_ne (tgt := 16) hx hb dX9_fails_4 (by decide) (fun c_4 => absurd c_4 (by decide)) (fun _ => ?_)
  refine lv_iload_n hx hb dX9_fails_7 rfl (lv_at hl 1 rfl) ?_
  refine lv_if_eq (tgt := 16) hx hb dX9_fails_8 (by decide) (fun c_8 => absurd c_8 (by decide)) (fun _ => ?_)
  refine lv_aload_n hx hb dX9_fails_11 rfl (lv_at hl 0 rfl) ?_
  refine lv_iload_n hx hb dX9_fails_12 rfl (lv_at hl 2 rfl) ?_
  refine va_put (D := D) (ci := 16) (v := .int 1) (ty := .int) (C := RX9) (T := TX9) (N := 4) hx hb hts iRX9 tyX9 tyX9_ok nmX9 hown hK hP hD hS 0 rfl rfl 0 (by decide) (hts (.fieldLink RX9 19 "SowingcourtModel" "thrown" "I") (by decide +kernel)) (fun _ h9 => h9) rfl (by decide +kernel) rfl rfl (Nat.le_of_ble_eq_true rfl) dX9_fails_13 (fun H locs hP hD hS => ?_)
  have hP : va_P D vwCl ([(m0, .inr (16, [.int 1, .ref kl, .null, .ref tl]))]) H := hP
  have hD : va_D A ([(m0, .inr (16, [.int 1, .ref kl, .null, .ref tl]))]) := hD
  refine lv_aload_n hx hb dX9_fails_16 rfl (lv_at hl 0 rfl) ?_
  refine va_get (D := D) (ci := 16) (v := .int 1) (C := RX9) (T := TX9) (N := 4) hx hb hts iRX9 hown hK hP 0 rfl rfl 0 (by decide) (hts (.fieldLink RX9 19 "SowingcourtModel" "thrown" "I") (by decide +kernel)) (fun _ h9 => h9) rfl dX9_fails_17 ?_
  refine lv_if_le (tgt := 27) hx hb dX9_fails_20 (by decide) (fun c_20 => absurd c_20 (by decide)) (fun _ => ?_)
  refine lv_iconst (v := 1) hx hb dX9_fails_23 (by decide) ?_
  refine lv_goto (tgt := 28) hx hb dX9_fails_24 (by decide) ?_
  refine W.widen (k := 0) (n := 0) (Nat.le_of_ble_eq_true rfl) (Nat.le_of_ble_eq_true rfl) ?_
  exact W.zret (v := 1) hx hb hr (by decide) (fun t ht hW => ⟨⟨1, (), rfl, rfl, PB.at hP hK hD hW.alike ht [0] rfl (by decide) [] rfl⟩, hS.F ht⟩) hS.2.2 dX9_fails_28

def wm_c_X9_fails_2 : List Cond := .code yX9_fails cX9_fails 3 (some .boolean) :: ([.fieldLink RX9 19 "SowingcourtModel" "thrown" "I"] ++ wsX90)
set_option maxHeartbeats 4000000 in
set_option maxRecDepth 100000 in
theorem c_X9_fails_2 (l : Launch) (κ : Nat → Nat) (D : va_G) (sz : Nat) (m0 : Nat) (kl : Nat) (tl : Nat)  : Met l yX9_fails wm_c_X9_fails_2 ({ frames := 8, cells := 0, slots := 0, locals := 200 }) (va_Pc [.ref m0, .int 1, .int 2] (PC κ D [] [(m0, .inr (16, [.int 0, .ref kl, .null, .ref tl]))] sz)) (va_Qi (fun (r : Int32) (_ : Unit) => r = 1) (fun _ t => PB D [] [(m0, .inr (16, [.int 2, .ref kl, .null, .ref tl]))] (va_A [(m0, .inr (16, [.int 0, .ref kl, .null, .ref tl]))] sz) t) (va_A [(m0, .inr (16, [.int 0, .ref kl, .null, .ref tl]))] sz)) 0 0 (va_A [(m0, .inr (16, [.int 0, .ref kl, .null, .ref tl]))] sz) := by
  refine Met.ofW (cc := cX9_fails) (maxL := 3) (ret := (some .boolean)) (by decide +kernel) rfl ?_
  intro p e s m args below meth c s₁ B hml hv
  obtain ⟨rfl, hsz, hP, hK, hD0, hE⟩ := hv
  have hx := B.exec
  have hb := B.bytes
  have hr := B.returns
  have hts := atoms_spec (ws := wm_c_X9_fails_2) B.pre
  have hown : s.vm.findClass RX9 = some m.cls := findClass_of_methodNamed B.named
  have hlocks := B.notSynchronized
  have iRX9 : ∀ w ∈ u_ws RX9 TX9 4, w ∈ wm_c_X9_fails_2 := by decide +kernel
  subst hsz
  have hD := hD0.self (sz := s.heap.size)
  generalize hAe : va_A [(m0, .inr (16, [.int 0, .ref kl, .null, .ref tl]))] s.heap.size = A at hD hE ⊢
  have hA : ∀ q : Nat, s.heap.size ≤ q → A q := fun q h => by rw [← hAe]; exact Or.inr h
  have hS : va_S A s.heap s.heap [] := va_S.rf
  have hl := lv_entry ([.ref m0, .int 1, .int 2]) (n := 3) (Nat.le_of_ble_eq_true rfl)
  rw [lg_entry_eq]
  generalize (lg_sl ([.ref m0, .int 1, .int 2]) ++ List.replicate (3 - (lg_sl ([.ref m0, .int 1, .int 2])).length) Slot.unset).toArray = ls at hl ⊢
  have hl : lv_has ls 3 [(0, .ref m0), (1, .int 1), (2, .int 2)] := hl
  refine lv_aload_n hx hb dX9_fails_0 rfl (lv_at hl 0 rfl) ?_
  refine va_get (D := D) (ci := 16) (v := .int 0) (C := RX9) (T := TX9) (N := 4) hx hb hts iRX9 hown hK hP 0 rfl rfl 0 (by decide) (hts (.fieldLink RX9 19 "SowingcourtModel" "thrown" "I") (by decide +kernel)) (fun _ h9 => h9) rfl dX9_fails_1 ?_
  refine lv_if_ne (tgt := 16) hx hb dX9_fails_4 (by decide) (fun c_4 => absurd c_4 (by decide)) (fun _ => ?_)
  refine lv_iload_n hx hb dX9_fails_7 rfl (lv_at hl 1 rfl) ?_
  refine lv_if_eq (tgt := 16) hx hb dX9_fails_8 (by decide) (fun c_8 => absurd c_8 (by decide)) (fun _ => ?_)
  refine lv_aload_n hx hb dX9_fails_11 rfl (lv_at hl 0 rfl) ?_
  refine lv_iload_n hx hb dX9_fails_12 rfl (lv_at hl 2 rfl) ?_
  refine va_put (D := D) (ci := 16) (v := .int 2) (ty := .int) (C := RX9) (T := TX9) (N := 4) hx hb hts iRX9 tyX9 tyX9_ok nmX9 hown hK hP hD hS 0 rfl rfl 0 (by decide) (hts (.fieldLink RX9 19 "SowingcourtModel" "thrown" "I") (by decide +kernel)) (fun _ h9 => h9) rfl (by decide +kernel) rfl rfl (Nat.le_of_ble_eq_true rfl) dX9_fails_13 (fun H locs hP hD hS => ?_)
  have hP : va_P D vwCl ([(m0, .inr (16, [.int 2, .ref kl, .null, .ref tl]))]) H := hP
  have hD : va_D A ([(m0, .inr (16, [.int 2, .ref kl, .null, .ref tl]))]) := hD
  refine lv_aload_n hx hb dX9_fails_16 rfl (lv_at hl 0 rfl) ?_
  refine va_get (D := D) (ci := 16) (v := .int 2) (C := RX9) (T := TX9) (N := 4) hx hb hts iRX9 hown hK hP 0 rfl rfl 0 (by decide) (hts (.fieldLink RX9 19 "SowingcourtModel" "thrown" "I") (by decide +kernel)) (fun _ h9 => h9) rfl dX9_fails_17 ?_
  refine lv_if_le (tgt := 27) hx hb dX9_fails_20 (by decide) (fun c_20 => absurd c_20 (by decide)) (fun _ => ?_)
  refine lv_iconst (v := 1) hx hb dX9_fails_23 (by decide) ?_
  refine lv_goto (tgt := 28) hx hb dX9_fails_24 (by decide) ?_
  refine W.widen (k := 0) (n := 0) (Nat.le_of_ble_eq_true rfl) (Nat.le_of_ble_eq_true rfl) ?_
  exact W.zret (v := 1) hx hb hr (by decide) (fun t ht hW => ⟨⟨1, (), rfl, rfl, PB.at hP hK hD hW.alike ht [0] rfl (by decide) [] rfl⟩, hS.F ht⟩) hS.2.2 dX9_fails_28

def wm_c_X9_fails_n : List Cond := .code yX9_fails cX9_fails 3 (some .boolean) :: ([.fieldLink RX9 19 "SowingcourtModel" "thrown" "I"] ++ wsX90)
set_option maxHeartbeats 4000000 in
set_option maxRecDepth 100000 in
theorem c_X9_fails_n (l : Launch) (κ : Nat → Nat) (D : va_G) (sz : Nat) (m0 : Nat) (kl : Nat) (tl : Nat) (n0 : Int32)  : Met l yX9_fails wm_c_X9_fails_n ({ frames := 8, cells := 0, slots := 0, locals := 200 }) (va_Pc [.ref m0, .int 0, .int n0] (PC κ D [] [(m0, .inr (16, [.int 0, .ref kl, .null, .ref tl]))] sz)) (va_Qi (fun (r : Int32) (_ : Unit) => r = 0) (fun _ t => PB D [] [(m0, .inr (16, [.int 0, .ref kl, .null, .ref tl]))] (va_A [(m0, .inr (16, [.int 0, .ref kl, .null, .ref tl]))] sz) t) (va_A [(m0, .inr (16, [.int 0, .ref kl, .null, .ref tl]))] sz)) 0 0 (va_A [(m0, .inr (16, [.int 0, .ref kl, .null, .ref tl]))] sz) := by
  refine Met.ofW (cc := cX9_fails) (maxL := 3) (ret := (some .boolean)) (by decide +kernel) rfl ?_
  intro p e s m args below meth c s₁ B hml hv
  obtain ⟨rfl, hsz, hP, hK, hD0, hE⟩ := hv
  have hx := B.exec
  have hb := B.bytes
  have hr := B.returns
  have hts := atoms_spec (ws := wm_c_X9_fails_n) B.pre
  have hown : s.vm.findClass RX9 = some m.cls := findClass_of_methodNamed B.named
  have hlocks := B.notSynchronized
  have iRX9 : ∀ w ∈ u_ws RX9 TX9 4, w ∈ wm_c_X9_fails_n := by decide +kernel
  subst hsz
  have hD := hD0.self (sz := s.heap.size)
  generalize hAe : va_A [(m0, .inr (16, [.int 0, .ref kl, .null, .ref tl]))] s.heap.size = A at hD hE ⊢
  have hA : ∀ q : Nat, s.heap.size ≤ q → A q := fun q h => by rw [← hAe]; exact Or.inr h
  have hS : va_S A s.heap s.heap [] := va_S.rf
  have hl := lv_entry ([.ref m0, .int 0, .int n0]) (n := 3) (Nat.le_of_ble_eq_true rfl)
  rw [lg_entry_eq]
  generalize (lg_sl ([.ref m0, .int 0, .int n0]) ++ List.replicate (3 - (lg_sl ([.ref m0, .int 0, .int n0])).length) Slot.unset).toArray = ls at hl ⊢
  have hl : lv_has ls 3 [(0, .ref m0), (1, .int 0), (2, .int n0)] := hl
  refine lv_aload_n hx hb dX9_fails_0 rfl (lv_at hl 0 rfl) ?_
  refine va_get (D := D) (ci := 16) (v := .int 0) (C := RX9) (T := TX9) (N := 4) hx hb hts iRX9 hown hK hP 0 rfl rfl 0 (by decide) (hts (.fieldLink RX9 19 "SowingcourtModel" "thrown" "I") (by decide +kernel)) (fun _ h9 => h9) rfl dX9_fails_1 ?_
  refine lv_if_ne (tgt := 16) hx hb dX9_fails_4 (by decide) (fun c_4 => absurd c_4 (by decide)) (fun _ => ?_)
  refine lv_iload_n hx hb dX9_fails_7 rfl (lv_at hl 1 rfl) ?_
  refine lv_if_eq (tgt := 16) hx hb dX9_fails_8 (by decide) (fun _ => ?_) (fun c_8 => absurd c_8 (by decide))
  refine lv_aload_n hx hb dX9_fails_16 rfl (lv_at hl 0 rfl) ?_
  refine va_get (D := D) (ci := 16) (v := .int 0) (C := RX9) (T := TX9) (N := 4) hx hb hts iRX9 hown hK hP 0 rfl rfl 0 (by decide) (hts (.fieldLink RX9 19 "SowingcourtModel" "thrown" "I") (by decide +kernel)) (fun _ h9 => h9) rfl dX9_fails_17 ?_
  refine lv_if_le (tgt := 27) hx hb dX9_fails_20 (by decide) (fun _ => ?_) (fun c_20 => absurd c_20 (by decide))
  refine lv_iconst (v := 0) hx hb dX9_fails_27 (by decide) ?_
  refine W.widen (k := 0) (n := 0) (Nat.le_of_ble_eq_true rfl) (Nat.le_of_ble_eq_true rfl) ?_
  exact W.zret (v := 0) hx hb hr (by decide) (fun t ht hW => ⟨⟨0, (), rfl, rfl, PB.at hP hK hD hW.alike ht [0] rfl (by decide) [] rfl⟩, hS.F ht⟩) hS.2.2 dX9_fails_28

def wm_c_X9_in : List Cond := .code yX9_in cX9_in 6 (some .boolean) :: ([])
set_option maxHeartbeats 4000000 in
set_option maxRecDepth 100000 in
theorem c_X9_in (l : Launch) (κ : Nat → Nat) (D : va_G) (sz : Nat) (a : Int64) (b : Int64) (d : Int64)  : Met l yX9_in wm_c_X9_in ({ frames := 8, cells := 0, slots := 0, locals := 200 }) (va_Pc [.long a, .long b, .long d] (PC κ D [] [] sz)) (va_Qi (fun (r : Int32) (_ : Unit) => r = if b.toInt ≤ a.toInt ∧ a.toInt ≤ d.toInt then 1 else 0) (fun _ t => PB D [] [] (va_A [] sz) t) (va_A [] sz)) 0 0 (va_A [] sz) := by
  refine Met.ofW (cc := cX9_in) (maxL := 6) (ret := (some .boolean)) (by decide +kernel) rfl ?_
  intro p e s m args below meth c s₁ B hml hv
  obtain ⟨rfl, hsz, hP, hK, hD0, hE⟩ := hv
  have hx := B.exec
  have hb := B.bytes
  have hr := B.returns
  have hts := atoms_spec (ws := wm_c_X9_in) B.pre
  have hown : s.vm.findClass RX9 = some m.cls := findClass_of_methodNamed B.named
  have hlocks := B.notSynchronized
  subst hsz
  have hD := hD0.self (sz := s.heap.size)
  generalize hAe : va_A [] s.heap.size = A at hD hE ⊢
  have hA : ∀ q : Nat, s.heap.size ≤ q → A q := fun q h => by rw [← hAe]; exact Or.inr h
  have hS : va_S A s.heap s.heap [] := va_S.rf
  have hl := lv_entry ([.long a, .long b, .long d]) (n := 6) (Nat.le_of_ble_eq_true rfl)
  rw [lg_entry_eq]
  generalize (lg_sl ([.long a, .long b, .long d]) ++ List.replicate (6 - (lg_sl ([.long a, .long b, .long d])).length) Slot.unset).toArray = ls at hl ⊢
  have hl : lv_has ls 6 [(0, .long a), (2, .long b), (4, .long d)] := hl
  refine lv_lload_n hx hb dX9_in_0 rfl (lv_at hl 0 rfl) ?_
  refine lv_lload_n hx hb dX9_in_1 rfl (lv_at hl 1 rfl) ?_
  refine W.lcmp hx hb dX9_in_2 ?_
  refine lv_if_lt (tgt := 17) hx hb dX9_in_3 (by decide) (fun c_3 => ?_) (fun c_3 => ?_)
  · refine lv_iconst (v := 0) hx hb dX9_in_17 (by decide) ?_
    refine W.widen (k := 0) (n := 0) (Nat.le_of_ble_eq_true rfl) (Nat.le_of_ble_eq_true rfl) ?_
    exact W.zret (v := 0) hx hb hr (by decide) (fun t ht hW => ⟨⟨0, (), rfl, (if_neg (fun h => absurd (Int64.lt_iff_toInt_lt.mp ((lg_cmp_lt _ _).mp c_3)) (by omega))).symm, PB.at hP hK hD hW.alike ht [] rfl (by decide) [] rfl⟩, hS.F ht⟩) hS.2.2 dX9_in_18
  · refine lv_lload_n hx hb dX9_in_6 rfl (lv_at hl 0 rfl) ?_
    refine lv_lload hx hb dX9_in_7 (lv_at hl 2 rfl) ?_
    refine W.lcmp hx hb dX9_in_9 ?_
    refine lv_if_gt (tgt := 17) hx hb dX9_in_10 (by decide) (fun c_10 => ?_) (fun c_10 => ?_)
    · refine lv_iconst (v := 0) hx hb dX9_in_17 (by decide) ?_
      refine W.widen (k := 0) (n := 0) (Nat.le_of_ble_eq_true rfl) (Nat.le_of_ble_eq_true rfl) ?_
      exact W.zret (v := 0) hx hb hr (by decide) (fun t ht hW => ⟨⟨0, (), rfl, (if_neg (fun h => absurd (Int64.lt_iff_toInt_lt.mp ((lg_cmp_gt _ _).mp c_10)) (by omega))).symm, PB.at hP hK hD hW.alike ht [] rfl (by decide) [] rfl⟩, hS.F ht⟩) hS.2.2 dX9_in_18
    · refine lv_iconst (v := 1) hx hb dX9_in_13 (by decide) ?_
      refine lv_goto (tgt := 18) hx hb dX9_in_14 (by decide) ?_
      refine W.widen (k := 0) (n := 0) (Nat.le_of_ble_eq_true rfl) (Nat.le_of_ble_eq_true rfl) ?_
      exact W.zret (v := 1) hx hb hr (by decide) (fun t ht hW => ⟨⟨1, (), rfl, (if_pos ⟨Int.not_lt.mp (fun h => c_3 ((lg_cmp_lt _ _).mpr (Int64.lt_iff_toInt_lt.mpr h))), Int.not_lt.mp (fun h => c_10 ((lg_cmp_gt _ _).mpr (Int64.lt_iff_toInt_lt.mpr h)))⟩).symm, PB.at hP hK hD hW.alike ht [] rfl (by decide) [] rfl⟩, hS.F ht⟩) hS.2.2 dX9_in_18

def wm_c_X9_isOf : List Cond := .code yX9_isOf cX9_isOf 2 (some .boolean) :: ([.code yJx4a65c_size_8abf5 cJx4a65c_size_8abf5 1 (some .int), .fieldLink RJx4a65c 48 "java/util/ArrayList" "size" "I", .methodLink RX9 23 ⟨"java/util/List", "size", "()I"⟩, .selects RJx4a65c ⟨"java/util/List", "size", "()I"⟩ yJx4a65c_size_8abf5, .instanceMethod yJx4a65c_size_8abf5, .initialized RJx4a65c, .code yX9_in cX9_in 6 (some .boolean), .methodLink RX9 29 yX9_in, .static yX9_in, .initialized RX9] ++ wsJx4a65c0)
set_option maxRecDepth 20000 in
theorem gd_c_X9_isOf_4 : GoodIn wm_c_X9_isOf (va_wsF RX9 23 RJx4a65c ⟨"java/util/List", "size", "()I"⟩ yJx4a65c_size_8abf5 wm_c_JAL_size) := goodIn_of _ (by decide +kernel)
set_option maxRecDepth 20000 in
theorem gd_c_X9_isOf_12 : GoodIn wm_c_X9_isOf (va_wsS RX9 29 yX9_in wm_c_X9_in) := goodIn_of _ (by decide +kernel)
set_option maxHeartbeats 4000000 in
set_option maxRecDepth 100000 in
theorem c_X9_isOf (l : Launch) (κ : Nat → Nat) (D : va_G) (sz : Nat) (kl : Nat) (k0 : Int32)  : Met l yX9_isOf wm_c_X9_isOf ({ frames := 9, cells := 0, slots := 0, locals := 260 }) (va_Pc [.ref kl, .int k0] (PC κ D [] [(kl, .inr (6, [.int 0, .ref (κ 0), .int 0]))] sz)) (va_Qi (fun (r : Int32) (_ : Unit) => r = 0) (fun _ t => PB D [] [(kl, .inr (6, [.int 0, .ref (κ 0), .int 0]))] (va_A [(kl, .inr (6, [.int 0, .ref (κ 0), .int 0]))] sz) t) (va_A [(kl, .inr (6, [.int 0, .ref (κ 0), .int 0]))] sz)) 0 0 (va_A [(kl, .inr (6, [.int 0, .ref (κ 0), .int 0]))] sz) := by
  refine Met.ofW (cc := cX9_isOf) (maxL := 2) (ret := (some .boolean)) (by decide +kernel) rfl ?_
  intro p e s m args below meth c s₁ B hml hv
  obtain ⟨rfl, hsz, hP, hK, hD0, hE⟩ := hv
  have hx := B.exec
  have hb := B.bytes
  have hr := B.returns
  have hts := atoms_spec (ws := wm_c_X9_isOf) B.pre
  have hown : s.vm.findClass RX9 = some m.cls := findClass_of_methodNamed B.named
  have hlocks := B.notSynchronized
  have iRJx4a65c : ∀ w ∈ u_ws RJx4a65c TJx4a65c 3, w ∈ wm_c_X9_isOf := by decide +kernel
  subst hsz
  have hD := hD0.self (sz := s.heap.size)
  generalize hAe : va_A [(kl, .inr (6, [.int 0, .ref (κ 0), .int 0]))] s.heap.size = A at hD hE ⊢
  have hA : ∀ q : Nat, s.heap.size ≤ q → A q := fun q h => by rw [← hAe]; exact Or.inr h
  have hS : va_S A s.heap s.heap [] := va_S.rf
  have hl := lv_entry ([.ref kl, .int k0]) (n := 2) (Nat.le_of_ble_eq_true rfl)
  rw [lg_entry_eq]
  generalize (lg_sl ([.ref kl, .int k0]) ++ List.replicate (2 - (lg_sl ([.ref kl, .int k0])).length) Slot.unset).toArray = ls at hl ⊢
  have hl : lv_has ls 2 [(0, .ref kl), (1, .int k0)] := hl
  refine lv_iload_n hx hb dX9_isOf_0 rfl (lv_at hl 1 rfl) ?_
  refine lv_i2l (v := (k0).toInt64) hx hb dX9_isOf_1 rfl ?_
  refine lv_lconst (v := 0) hx hb dX9_isOf_2 (by decide) ?_
  refine lv_aload_n hx hb dX9_isOf_3 rfl (lv_at hl 0 rfl) ?_
  have hS0 := hS
  have hFc := va_free (wc := [(kl, .inr (6, [.int 0, .ref (κ 0), .int 0]))]) hD hS hA [0] rfl
  refine va_callFi (va_runF (hK.1 6 _ rfl).2 (As := []) (rest := [.long 0, .long ((k0).toInt64)]) ⟨hx, hb, hml, hown, hts⟩ (c_JAL_size l κ D (s.heap).size (kl) (0) (0) ((κ 0)) ) (va_cwF 0 hts gd_c_X9_isOf_4 rfl rfl rfl hE.fw0 (by decide +kernel) ⟨(Nat.le_of_ble_eq_true rfl), (Nat.le_of_ble_eq_true rfl)⟩) (preV hE hK hP hD hS hA [0] rfl (by decide) [] rfl (va_recv hK hP (ci := 6) (q0 := 0) rfl rfl)) rfl rfl hl.1 rfl (lv_room (Nat.le_of_ble_eq_true rfl)) dX9_isOf_4 ⟨(Nat.le_of_ble_eq_true rfl), (Nat.le_of_ble_eq_true rfl)⟩) hS (fun q _ h => hFc q h) hFc (fun r_1 u t H1 locs ht hvm hw hB hz1 hk1 hS => ?_)
  try dsimp only at hw
  obtain ⟨hP, hD, hK⟩ := jn (wc := [(kl, .inr (6, [.int 0, .ref (κ 0), .int 0]))]) (wr := []) (w1 := [(kl, .inr (6, [.int 0, .ref (κ 0), .int 0]))]) (t1 := []) hP hD hK hS0 hA [0] [] rfl rfl (by decide) (by decide) ht hvm hk1 hB
  generalize H1 = H at hP hS ⊢
  have hP : va_P D vwCl ([(kl, .inr (6, [.int 0, .ref (κ 0), .int 0]))]) H := hP
  have hD : va_D A ([(kl, .inr (6, [.int 0, .ref (κ 0), .int 0]))]) := hD
  have hK : va_K D vwCl [] s := hK
  refine W.widen (k := 0) (n := 0) (Nat.le_of_ble_eq_true rfl) (Nat.le_of_ble_eq_true rfl) ?_
  subst hw
  refine lv_iconst (v := 1) hx hb dX9_isOf_9 (by decide) ?_
  refine lv_isub hx hb dX9_isOf_10 ?_
  refine lv_topi (fun v_2 ev_2 => ?_)
  have ev_2 : v_2 = (-1) := ev_2.trans (by decide)
  subst ev_2
  refine lv_i2l (v := (-1)) hx hb dX9_isOf_11 (by decide) ?_
  have hS0 := hS
  have hFc := va_free (wc := []) hD hS hA [] rfl
  refine va_calli (va_runS (As := [.long ((k0).toInt64), .long 0, .long (-1)]) (rest := []) ⟨hx, hb, hml, hown, hts⟩ (c_X9_in l κ D (H).size (((k0).toInt64)) (0) ((-1)) ) (va_cwS 3 hts gd_c_X9_isOf_12 rfl rfl rfl (by decide +kernel) ⟨(Nat.le_of_ble_eq_true rfl), (Nat.le_of_ble_eq_true rfl)⟩) (preS hE hK hP hD hS hA [] rfl (by decide) [] rfl) rfl rfl hl.1 rfl (lv_room (Nat.le_of_ble_eq_true rfl)) dX9_isOf_12 ⟨(Nat.le_of_ble_eq_true rfl), (Nat.le_of_ble_eq_true rfl)⟩) hS (fun q _ h => hFc q h) hFc (fun r_3 u t H1 locs ht hvm hw hB hz1 hk1 hS => ?_)
  try dsimp only at hw
  obtain ⟨hP, hD, hK⟩ := jn (wc := []) (wr := [(kl, .inr (6, [.int 0, .ref (κ 0), .int 0]))]) (w1 := []) (t1 := []) hP hD hK hS0 hA [] [0] rfl rfl (by decide) (by decide) ht hvm hk1 hB
  generalize H1 = H at hP hS ⊢
  have hP : va_P D vwCl ([(kl, .inr (6, [.int 0, .ref (κ 0), .int 0]))]) H := hP
  have hD : va_D A ([(kl, .inr (6, [.int 0, .ref (κ 0), .int 0]))]) := hD
  have hK : va_K D vwCl [] s := hK
  refine W.widen (k := 0) (n := 0) (Nat.le_of_ble_eq_true rfl) (Nat.le_of_ble_eq_true rfl) ?_
  have hw : r_3 = 0 := hw.trans (if_neg (fun h => absurd (Int.le_trans h.1 h.2) (by decide)))
  subst hw
  refine W.widen (k := 0) (n := 0) (Nat.le_of_ble_eq_true rfl) (Nat.le_of_ble_eq_true rfl) ?_
  exact W.zret (v := 0) hx hb hr (by decide) (fun t ht hW => ⟨⟨0, (), rfl, rfl, PB.at hP hK hD hW.alike ht [0] rfl (by decide) [] rfl⟩, hS.F ht⟩) hS.2.2 dX9_isOf_15

def wm_c_X9_noThing : List Cond := .code yX9_noThing cX9_noThing 3 (some .boolean) :: ([.fieldLink RX9 10 "SowingcourtModel" "kinds" "Ljava/util/List;", .code yX9_isOf cX9_isOf 2 (some .boolean), .code yJx4a65c_size_8abf5 cJx4a65c_size_8abf5 1 (some .int), .fieldLink RJx4a65c 48 "java/util/ArrayList" "size" "I", .methodLink RX9 23 ⟨"java/util/List", "size", "()I"⟩, .selects RJx4a65c ⟨"java/util/List", "size", "()I"⟩ yJx4a65c_size_8abf5, .instanceMethod yJx4a65c_size_8abf5, .initialized RJx4a65c, .code yX9_in cX9_in 6 (some .boolean), .methodLink RX9 29 yX9_in, .static yX9_in, .initialized RX9, .methodLink RX9 74 yX9_isOf, .static yX9_isOf, .code yX9_fails cX9_fails 3 (some .boolean), .fieldLink RX9 19 "SowingcourtModel" "thrown" "I", .methodLink RX9 50 yX9_fails, .instanceMethod yX9_fails, .selects RX9 yX9_fails yX9_fails] ++ wsX90 ++ wsJx4a65c0)
set_option maxRecDepth 20000 in
theorem gd_c_X9_noThing_6 : GoodIn wm_c_X9_noThing (va_wsS RX9 74 yX9_isOf wm_c_X9_isOf) := goodIn_of _ (by decide +kernel)
set_option maxRecDepth 20000 in
theorem gd_c_X9_noThing_18 : GoodIn wm_c_X9_noThing (wsV RX9 50 RX9 yX9_fails wm_c_X9_fails_1) := goodIn_of _ (by decide +kernel)
set_option maxHeartbeats 4000000 in
set_option maxRecDepth 100000 in
theorem c_X9_noThing (l : Launch) (κ : Nat → Nat) (D : va_G) (sz : Nat) (m0 : Nat) (kl : Nat) (tl : Nat) (k0 : Int32) (c0 : Int32)  : Met l yX9_noThing wm_c_X9_noThing ({ frames := 10, cells := 0, slots := 0, locals := 320 }) (va_Pc [.ref m0, .int k0, .int c0] (PC κ D [] [(m0, .inr (16, [.int 0, .ref kl, .null, .ref tl])), (kl, .inr (6, [.int 0, .ref (κ 0), .int 0]))] sz)) (va_Qi (fun (r : Int32) (_ : Unit) => r = 1) (fun _ t => PB D [] [(m0, .inr (16, [.int 1, .ref kl, .null, .ref tl]))] (va_A [(m0, .inr (16, [.int 0, .ref kl, .null, .ref tl])), (kl, .inr (6, [.int 0, .ref (κ 0), .int 0]))] sz) t) (va_A [(m0, .inr (16, [.int 0, .ref kl, .null, .ref tl])), (kl, .inr (6, [.int 0, .ref (κ 0), .int 0]))] sz)) 0 0 (va_A [(m0, .inr (16, [.int 0, .ref kl, .null, .ref tl])), (kl, .inr (6, [.int 0, .ref (κ 0), .int 0]))] sz) := by
  refine Met.ofW (cc := cX9_noThing) (maxL := 3) (ret := (some .boolean)) (by decide +kernel) rfl ?_
  intro p e s m args below meth c s₁ B hml hv
  obtain ⟨rfl, hsz, hP, hK, hD0, hE⟩ := hv
  have hx := B.exec
  have hb := B.bytes
  have hr := B.returns
  have hts := atoms_spec (ws := wm_c_X9_noThing) B.pre
  have hown : s.vm.findClass RX9 = some m.cls := findClass_of_methodNamed B.named
  have hlocks := B.notSynchronized
  have iRX9 : ∀ w ∈ u_ws RX9 TX9 4, w ∈ wm_c_X9_noThing := by decide +kernel
  have iRJx4a65c : ∀ w ∈ u_ws RJx4a65c TJx4a65c 3, w ∈ wm_c_X9_noThing := by decide +kernel
  subst hsz
  have hD := hD0.self (sz := s.heap.size)
  generalize hAe : va_A [(m0, .inr (16, [.int 0, .ref kl, .null, .ref tl])), (kl, .inr (6, [.int 0, .ref (κ 0), .int 0]))] s.heap.size = A at hD hE ⊢
  have hA : ∀ q : Nat, s.heap.size ≤ q → A q := fun q h => by rw [← hAe]; exact Or.inr h
  have hS : va_S A s.heap s.heap [] := va_S.rf
  have hl := lv_entry ([.ref m0, .int k0, .int c0]) (n := 3) (Nat.le_of_ble_eq_true rfl)
  rw [lg_entry_eq]
  generalize (lg_sl ([.ref m0, .int k0, .int c0]) ++ List.replicate (3 - (lg_sl ([.ref m0, .int k0, .int c0])).length) Slot.unset).toArray = ls at hl ⊢
  have hl : lv_has ls 3 [(0, .ref m0), (1, .int k0), (2, .int c0)] := hl
  refine lv_aload_n hx hb dX9_noThing_0 rfl (lv_at hl 0 rfl) ?_
  refine lv_aload_n hx hb dX9_noThing_1 rfl (lv_at hl 0 rfl) ?_
  refine va_get (D := D) (ci := 16) (v := .ref kl) (C := RX9) (T := TX9) (N := 4) hx hb hts iRX9 hown hK hP 0 rfl rfl 1 (by decide) (hts (.fieldLink RX9 10 "SowingcourtModel" "kinds" "Ljava/util/List;") (by decide +kernel)) (fun _ h9 => h9) rfl dX9_noThing_2 ?_
  refine lv_iload_n hx hb dX9_noThing_5 rfl (lv_at hl 1 rfl) ?_
  have hS0 := hS
  have hFc := va_free (wc := [(kl, .inr (6, [.int 0, .ref (κ 0), .int 0]))]) hD hS hA [1] rfl
  refine va_calli (va_runS (As := [.ref kl, .int k0]) (rest := [.ref m0]) ⟨hx, hb, hml, hown, hts⟩ (c_X9_isOf l κ D (s.heap).size (kl) (k0) ) (va_cwS 2 hts gd_c_X9_noThing_6 rfl rfl rfl (by decide +kernel) ⟨(Nat.le_of_ble_eq_true rfl), (Nat.le_of_ble_eq_true rfl)⟩) (preS hE hK hP hD hS hA [1] rfl (by decide) [] rfl) rfl rfl hl.1 rfl (lv_room (Nat.le_of_ble_eq_true rfl)) dX9_noThing_6 ⟨(Nat.le_of_ble_eq_true rfl), (Nat.le_of_ble_eq_true rfl)⟩) hS (fun q _ h => hFc q h) hFc (fun r_1 u t H1 locs ht hvm hw hB hz1 hk1 hS => ?_)
  try dsimp only at hw
  obtain ⟨hP, hD, hK⟩ := jn (wc := [(kl, .inr (6, [.int 0, .ref (κ 0), .int 0]))]) (wr := [(m0, .inr (16, [.int 0, .ref kl, .null, .ref tl]))]) (w1 := [(kl, .inr (6, [.int 0, .ref (κ 0), .int 0]))]) (t1 := []) hP hD hK hS0 hA [1] [0] rfl rfl (by decide) (by decide) ht hvm hk1 hB
  generalize H1 = H at hP hS ⊢
  have hP : va_P D vwCl ([(m0, .inr (16, [.int 0, .ref kl, .null, .ref tl])), (kl, .inr (6, [.int 0, .ref (κ 0), .int 0]))]) H := hP
  have hD : va_D A ([(m0, .inr (16, [.int 0, .ref kl, .null, .ref tl])), (kl, .inr (6, [.int 0, .ref (κ 0), .int 0]))]) := hD
  have hK : va_K D vwCl [] s := hK
  refine W.widen (k := 0) (n := 0) (Nat.le_of_ble_eq_true rfl) (Nat.le_of_ble_eq_true rfl) ?_
  subst hw
  refine lv_if_ne (tgt := 16) hx hb dX9_noThing_9 (by decide) (fun c_9 => absurd c_9 (by decide)) (fun _ => ?_)
  refine lv_iconst (v := 1) hx hb dX9_noThing_12 (by decide) ?_
  refine lv_goto (tgt := 17) hx hb dX9_noThing_13 (by decide) ?_
  refine lv_iconst (v := 1) hx hb dX9_noThing_17 (by decide) ?_
  have hS0 := hS
  have hFc := va_free (wc := [(m0, .inr (16, [.int 0, .ref kl, .null, .ref tl]))]) hD hS hA [0] rfl
  refine va_calli (va_runV (As := [.int 1, .int 1]) (rest := []) ⟨hx, hb, hml, hown, hts⟩ (c_X9_fails_1 l κ D (H).size (m0) (kl) (tl) ) (cwV 2 hts gd_c_X9_noThing_18 rfl rfl rfl (by decide +kernel) ⟨(Nat.le_of_ble_eq_true rfl), (Nat.le_of_ble_eq_true rfl)⟩) (preV hE hK hP hD hS hA [0] rfl (by decide) [] rfl (va_recv hK hP (ci := 16) (q0 := 0) rfl rfl)) rfl rfl hl.1 rfl (lv_room (Nat.le_of_ble_eq_true rfl)) dX9_noThing_18 ⟨(Nat.le_of_ble_eq_true rfl), (Nat.le_of_ble_eq_true rfl)⟩) hS (fun q _ h => hFc q h) hFc (fun r_2 u t H1 locs ht hvm hw hB hz1 hk1 hS => ?_)
  try dsimp only at hw
  obtain ⟨hP, hD, hK⟩ := jn (wc := [(m0, .inr (16, [.int 0, .ref kl, .null, .ref tl]))]) (wr := [(kl, .inr (6, [.int 0, .ref (κ 0), .int 0]))]) (w1 := [(m0, .inr (16, [.int 1, .ref kl, .null, .ref tl]))]) (t1 := []) hP hD hK hS0 hA [0] [1] rfl rfl (by decide) (by decide) ht hvm hk1 hB
  generalize H1 = H at hP hS ⊢
  have hP : va_P D vwCl ([(kl, .inr (6, [.int 0, .ref (κ 0), .int 0])), (m0, .inr (16, [.int 1, .ref kl, .null, .ref tl]))]) H := hP
  have hD : va_D A ([(kl, .inr (6, [.int 0, .ref (κ 0), .int 0])), (m0, .inr (16, [.int 1, .ref kl, .null, .ref tl]))]) := hD
  have hK : va_K D vwCl [] s := hK
  refine W.widen (k := 0) (n := 0) (Nat.le_of_ble_eq_true rfl) (Nat.le_of_ble_eq_true rfl) ?_
  subst hw
  refine lv_if_ne (tgt := 46) hx hb dX9_noThing_21 (by decide) (fun _ => ?_) (fun c_21 => absurd c_21 (by decide))
  refine lv_iconst (v := 1) hx hb dX9_noThing_46 (by decide) ?_
  refine lv_goto (tgt := 51) hx hb dX9_noThing_47 (by decide) ?_
  refine W.widen (k := 0) (n := 0) (Nat.le_of_ble_eq_true rfl) (Nat.le_of_ble_eq_true rfl) ?_
  exact W.zret (v := 1) hx hb hr (by decide) (fun t ht hW => ⟨⟨1, (), rfl, rfl, PB.at hP hK hD hW.alike ht [1] rfl (by decide) [] rfl⟩, hS.F ht⟩) hS.2.2 dX9_noThing_51

def wm_c_X9_noGame : List Cond := .code yX9_noGame cX9_noGame 1 (some .boolean) :: ([.fieldLink RX9 106 "SowingcourtModel" "game" "LSowingcourtModel$Game;", .code yX9_fails cX9_fails 3 (some .boolean), .fieldLink RX9 19 "SowingcourtModel" "thrown" "I", .methodLink RX9 50 yX9_fails, .instanceMethod yX9_fails, .selects RX9 yX9_fails yX9_fails, .initialized RX9] ++ wsX90)
set_option maxRecDepth 20000 in
theorem gd_c_X9_noGame_14 : GoodIn wm_c_X9_noGame (wsV RX9 50 RX9 yX9_fails wm_c_X9_fails_1) := goodIn_of _ (by decide +kernel)
set_option maxHeartbeats 4000000 in
set_option maxRecDepth 100000 in
theorem c_X9_noGame (l : Launch) (κ : Nat → Nat) (D : va_G) (sz : Nat) (m0 : Nat) (kl : Nat) (tl : Nat)  : Met l yX9_noGame wm_c_X9_noGame ({ frames := 9, cells := 0, slots := 0, locals := 260 }) (va_Pc [.ref m0] (PC κ D [] [(m0, .inr (16, [.int 0, .ref kl, .null, .ref tl]))] sz)) (va_Qi (fun (r : Int32) (_ : Unit) => r = 1) (fun _ t => PB D [] [(m0, .inr (16, [.int 1, .ref kl, .null, .ref tl]))] (va_A [(m0, .inr (16, [.int 0, .ref kl, .null, .ref tl]))] sz) t) (va_A [(m0, .inr (16, [.int 0, .ref kl, .null, .ref tl]))] sz)) 0 0 (va_A [(m0, .inr (16, [.int 0, .ref kl, .null, .ref tl]))] sz) := by
  refine Met.ofW (cc := cX9_noGame) (maxL := 1) (ret := (some .boolean)) (by decide +kernel) rfl ?_
  intro p e s m args below meth c s₁ B hml hv
  obtain ⟨rfl, hsz, hP, hK, hD0, hE⟩ := hv
  have hx := B.exec
  have hb := B.bytes
  have hr := B.returns
  have hts := atoms_spec (ws := wm_c_X9_noGame) B.pre
  have hown : s.vm.findClass RX9 = some m.cls := findClass_of_methodNamed B.named
  have hlocks := B.notSynchronized
  have iRX9 : ∀ w ∈ u_ws RX9 TX9 4, w ∈ wm_c_X9_noGame := by decide +kernel
  subst hsz
  have hD := hD0.self (sz := s.heap.size)
  generalize hAe : va_A [(m0, .inr (16, [.int 0, .ref kl, .null, .ref tl]))] s.heap.size = A at hD hE ⊢
  have hA : ∀ q : Nat, s.heap.size ≤ q → A q := fun q h => by rw [← hAe]; exact Or.inr h
  have hS : va_S A s.heap s.heap [] := va_S.rf
  have hl := lv_entry ([.ref m0]) (n := 1) (Nat.le_of_ble_eq_true rfl)
  rw [lg_entry_eq]
  generalize (lg_sl ([.ref m0]) ++ List.replicate (1 - (lg_sl ([.ref m0])).length) Slot.unset).toArray = ls at hl ⊢
  have hl : lv_has ls 1 [(0, .ref m0)] := hl
  refine lv_aload_n hx hb dX9_noGame_0 rfl (lv_at hl 0 rfl) ?_
  refine lv_aload_n hx hb dX9_noGame_1 rfl (lv_at hl 0 rfl) ?_
  refine va_get (D := D) (ci := 16) (v := .null) (C := RX9) (T := TX9) (N := 4) hx hb hts iRX9 hown hK hP 0 rfl rfl 2 (by decide) (hts (.fieldLink RX9 106 "SowingcourtModel" "game" "LSowingcourtModel$Game;") (by decide +kernel)) (fun _ h9 => h9) rfl dX9_noGame_2 ?_
  refine lv_ifnonnullN hx hb dX9_noGame_5 ?_
  refine lv_iconst (v := 1) hx hb dX9_noGame_8 (by decide) ?_
  refine lv_goto (tgt := 13) hx hb dX9_noGame_9 (by decide) ?_
  refine lv_iconst (v := 1) hx hb dX9_noGame_13 (by decide) ?_
  have hS0 := hS
  have hFc := va_free (wc := [(m0, .inr (16, [.int 0, .ref kl, .null, .ref tl]))]) hD hS hA [0] rfl
  refine va_calli (va_runV (As := [.int 1, .int 1]) (rest := []) ⟨hx, hb, hml, hown, hts⟩ (c_X9_fails_1 l κ D (s.heap).size (m0) (kl) (tl) ) (cwV 2 hts gd_c_X9_noGame_14 rfl rfl rfl (by decide +kernel) ⟨(Nat.le_of_ble_eq_true rfl), (Nat.le_of_ble_eq_true rfl)⟩) (preV hE hK hP hD hS hA [0] rfl (by decide) [] rfl (va_recv hK hP (ci := 16) (q0 := 0) rfl rfl)) rfl rfl hl.1 rfl (lv_room (Nat.le_of_ble_eq_true rfl)) dX9_noGame_14 ⟨(Nat.le_of_ble_eq_true rfl), (Nat.le_of_ble_eq_true rfl)⟩) hS (fun q _ h => hFc q h) hFc (fun r_1 u t H1 locs ht hvm hw hB hz1 hk1 hS => ?_)
  try dsimp only at hw
  obtain ⟨hP, hD, hK⟩ := jn (wc := [(m0, .inr (16, [.int 0, .ref kl, .null, .ref tl]))]) (wr := []) (w1 := [(m0, .inr (16, [.int 1, .ref kl, .null, .ref tl]))]) (t1 := []) hP hD hK hS0 hA [0] [] rfl rfl (by decide) (by decide) ht hvm hk1 hB
  generalize H1 = H at hP hS ⊢
  have hP : va_P D vwCl ([(m0, .inr (16, [.int 1, .ref kl, .null, .ref tl]))]) H := hP
  have hD : va_D A ([(m0, .inr (16, [.int 1, .ref kl, .null, .ref tl]))]) := hD
  have hK : va_K D vwCl [] s := hK
  refine W.widen (k := 0) (n := 0) (Nat.le_of_ble_eq_true rfl) (Nat.le_of_ble_eq_true rfl) ?_
  subst hw
  refine W.widen (k := 0) (n := 0) (Nat.le_of_ble_eq_true rfl) (Nat.le_of_ble_eq_true rfl) ?_
  exact W.zret (v := 1) hx hb hr (by decide) (fun t ht hW => ⟨⟨1, (), rfl, rfl, PB.at hP hK hD hW.alike ht [0] rfl (by decide) [] rfl⟩, hS.F ht⟩) hS.2.2 dX9_noGame_17

def wm_c_X9_notOn : List Cond := .code yX9_notOn cX9_notOn 1 (some .boolean) :: ([.fieldLink RX9 106 "SowingcourtModel" "game" "LSowingcourtModel$Game;", .code yX9_fails cX9_fails 3 (some .boolean), .fieldLink RX9 19 "SowingcourtModel" "thrown" "I", .methodLink RX9 50 yX9_fails, .instanceMethod yX9_fails, .selects RX9 yX9_fails yX9_fails, .initialized RX9] ++ wsX90)
set_option maxRecDepth 20000 in
theorem gd_c_X9_notOn_27 : GoodIn wm_c_X9_notOn (wsV RX9 50 RX9 yX9_fails wm_c_X9_fails_1) := goodIn_of _ (by decide +kernel)
set_option maxHeartbeats 4000000 in
set_option maxRecDepth 100000 in
theorem c_X9_notOn (l : Launch) (κ : Nat → Nat) (D : va_G) (sz : Nat) (m0 : Nat) (kl : Nat) (tl : Nat)  : Met l yX9_notOn wm_c_X9_notOn ({ frames := 9, cells := 0, slots := 0, locals := 260 }) (va_Pc [.ref m0] (PC κ D [] [(m0, .inr (16, [.int 0, .ref kl, .null, .ref tl]))] sz)) (va_Qi (fun (r : Int32) (_ : Unit) => r = 1) (fun _ t => PB D [] [(m0, .inr (16, [.int 1, .ref kl, .null, .ref tl]))] (va_A [(m0, .inr (16, [.int 0, .ref kl, .null, .ref tl]))] sz) t) (va_A [(m0, .inr (16, [.int 0, .ref kl, .null, .ref tl]))] sz)) 0 0 (va_A [(m0, .inr (16, [.int 0, .ref kl, .null, .ref tl]))] sz) := by
  refine Met.ofW (cc := cX9_notOn) (maxL := 1) (ret := (some .boolean)) (by decide +kernel) rfl ?_
  intro p e s m args below meth c s₁ B hml hv
  obtain ⟨rfl, hsz, hP, hK, hD0, hE⟩ := hv
  have hx := B.exec
  have hb := B.bytes
  have hr := B.returns
  have hts := atoms_spec (ws := wm_c_X9_notOn) B.pre
  have hown : s.vm.findClass RX9 = some m.cls := findClass_of_methodNamed B.named
  have hlocks := B.notSynchronized
  have iRX9 : ∀ w ∈ u_ws RX9 TX9 4, w ∈ wm_c_X9_notOn := by decide +kernel
  subst hsz
  have hD := hD0.self (sz := s.heap.size)
  generalize hAe : va_A [(m0, .inr (16, [.int 0, .ref kl, .null, .ref tl]))] s.heap.size = A at hD hE ⊢
  have hA : ∀ q : Nat, s.heap.size ≤ q → A q := fun q h => by rw [← hAe]; exact Or.inr h
  have hS : va_S A s.heap s.heap [] := va_S.rf
  have hl := lv_entry ([.ref m0]) (n := 1) (Nat.le_of_ble_eq_true rfl)
  rw [lg_entry_eq]
  generalize (lg_sl ([.ref m0]) ++ List.replicate (1 - (lg_sl ([.ref m0])).length) Slot.unset).toArray = ls at hl ⊢
  have hl : lv_has ls 1 [(0, .ref m0)] := hl
  refine lv_aload_n hx hb dX9_notOn_0 rfl (lv_at hl 0 rfl) ?_
  refine lv_aload_n hx hb dX9_notOn_1 rfl (lv_at hl 0 rfl) ?_
  refine va_get (D := D) (ci := 16) (v := .null) (C := RX9) (T := TX9) (N := 4) hx hb hts iRX9 hown hK hP 0 rfl rfl 2 (by decide) (hts (.fieldLink RX9 106 "SowingcourtModel" "game" "LSowingcourtModel$Game;") (by decide +kernel)) (fun _ h9 => h9) rfl dX9_notOn_2 ?_
  refine lv_ifnullN (tgt := 21) hx hb dX9_notOn_5 (by decide) ?_
  refine lv_iconst (v := 1) hx hb dX9_notOn_21 (by decide) ?_
  refine lv_goto (tgt := 26) hx hb dX9_notOn_22 (by decide) ?_
  refine lv_iconst (v := 1) hx hb dX9_notOn_26 (by decide) ?_
  have hS0 := hS
  have hFc := va_free (wc := [(m0, .inr (16, [.int 0, .ref kl, .null, .ref tl]))]) hD hS hA [0] rfl
  refine va_calli (va_runV (As := [.int 1, .int 1]) (rest := []) ⟨hx, hb, hml, hown, hts⟩ (c_X9_fails_1 l κ D (s.heap).size (m0) (kl) (tl) ) (cwV 2 hts gd_c_X9_notOn_27 rfl rfl rfl (by decide +kernel) ⟨(Nat.le_of_ble_eq_true rfl), (Nat.le_of_ble_eq_true rfl)⟩) (preV hE hK hP hD hS hA [0] rfl (by decide) [] rfl (va_recv hK hP (ci := 16) (q0 := 0) rfl rfl)) rfl rfl hl.1 rfl (lv_room (Nat.le_of_ble_eq_true rfl)) dX9_notOn_27 ⟨(Nat.le_of_ble_eq_true rfl), (Nat.le_of_ble_eq_true rfl)⟩) hS (fun q _ h => hFc q h) hFc (fun r_1 u t H1 locs ht hvm hw hB hz1 hk1 hS => ?_)
  try dsimp only at hw
  obtain ⟨hP, hD, hK⟩ := jn (wc := [(m0, .inr (16, [.int 0, .ref kl, .null, .ref tl]))]) (wr := []) (w1 := [(m0, .inr (16, [.int 1, .ref kl, .null, .ref tl]))]) (t1 := []) hP hD hK hS0 hA [0] [] rfl rfl (by decide) (by decide) ht hvm hk1 hB
  generalize H1 = H at hP hS ⊢
  have hP : va_P D vwCl ([(m0, .inr (16, [.int 1, .ref kl, .null, .ref tl]))]) H := hP
  have hD : va_D A ([(m0, .inr (16, [.int 1, .ref kl, .null, .ref tl]))]) := hD
  have hK : va_K D vwCl [] s := hK
  refine W.widen (k := 0) (n := 0) (Nat.le_of_ble_eq_true rfl) (Nat.le_of_ble_eq_true rfl) ?_
  subst hw
  refine W.widen (k := 0) (n := 0) (Nat.le_of_ble_eq_true rfl) (Nat.le_of_ble_eq_true rfl) ?_
  exact W.zret (v := 1) hx hb hr (by decide) (fun t ht hW => ⟨⟨1, (), rfl, rfl, PB.at hP hK hD hW.alike ht [0] rfl (by decide) [] rfl⟩, hS.F ht⟩) hS.2.2 dX9_notOn_30

def wm_c_X9_rule : List Cond := .code yX9_rule cX9_rule 7 (some .boolean) :: ([.code yX9_begins cX9_begins 1 none, .fieldLink RX9 19 "SowingcourtModel" "thrown" "I", .methodLink RX9 33 yX9_begins, .instanceMethod yX9_begins, .selects RX9 yX9_begins yX9_begins, .initialized RX9, .code yX9_noThing cX9_noThing 3 (some .boolean), .fieldLink RX9 10 "SowingcourtModel" "kinds" "Ljava/util/List;", .code yX9_isOf cX9_isOf 2 (some .boolean), .code yJx4a65c_size_8abf5 cJx4a65c_size_8abf5 1 (some .int), .fieldLink RJx4a65c 48 "java/util/ArrayList" "size" "I", .methodLink RX9 23 ⟨"java/util/List", "size", "()I"⟩, .selects RJx4a65c ⟨"java/util/List", "size", "()I"⟩ yJx4a65c_size_8abf5, .instanceMethod yJx4a65c_size_8abf5, .initialized RJx4a65c, .code yX9_in cX9_in 6 (some .boolean), .methodLink RX9 29 yX9_in, .static yX9_in, .methodLink RX9 74 yX9_isOf, .static yX9_isOf, .code yX9_fails cX9_fails 3 (some .boolean), .methodLink RX9 50 yX9_fails, .instanceMethod yX9_fails, .selects RX9 yX9_fails yX9_fails, .methodLink RX9 80 yX9_noThing, .instanceMethod yX9_noThing, .selects RX9 yX9_noThing yX9_noThing] ++ wsX90 ++ wsJx4a65c0)
set_option maxRecDepth 20000 in
theorem gd_c_X9_rule_1 : GoodIn wm_c_X9_rule (wsV RX9 33 RX9 yX9_begins wm_c_X9_begins) := goodIn_of _ (by decide +kernel)
set_option maxRecDepth 20000 in
theorem gd_c_X9_rule_7 : GoodIn wm_c_X9_rule (wsV RX9 80 RX9 yX9_noThing wm_c_X9_noThing) := goodIn_of _ (by decide +kernel)
set_option maxHeartbeats 4000000 in
set_option maxRecDepth 100000 in
theorem c_X9_rule (l : Launch) (κ : Nat → Nat) (D : va_G) (sz : Nat) (m0 : Nat) (kl : Nat) (tl : Nat) (p0 : Int32) (p1 : Int32) (p2 : Int32)  : Met l yX9_rule wm_c_X9_rule ({ frames := 11, cells := 0, slots := 0, locals := 380 }) (va_Pc [.ref m0, .int p0, .int p1, .int p2] (PC κ D [] [(m0, .inr (16, [.int 0, .ref kl, .null, .ref tl])), (kl, .inr (6, [.int 0, .ref (κ 0), .int 0]))] sz)) (va_Qi (fun (r : Int32) (_ : Unit) => True) (fun _ t => PB D [] [(m0, .inr (16, [.int 1, .ref kl, .null, .ref tl]))] (va_A [(m0, .inr (16, [.int 0, .ref kl, .null, .ref tl])), (kl, .inr (6, [.int 0, .ref (κ 0), .int 0]))] sz) t) (va_A [(m0, .inr (16, [.int 0, .ref kl, .null, .ref tl])), (kl, .inr (6, [.int 0, .ref (κ 0), .int 0]))] sz)) 0 0 (va_A [(m0, .inr (16, [.int 0, .ref kl, .null, .ref tl])), (kl, .inr (6, [.int 0, .ref (κ 0), .int 0]))] sz) := by
  refine Met.ofW (cc := cX9_rule) (maxL := 7) (ret := (some .boolean)) (by decide +kernel) rfl ?_
  intro p e s m args below meth c s₁ B hml hv
  obtain ⟨rfl, hsz, hP, hK, hD0, hE⟩ := hv
  have hx := B.exec
  have hb := B.bytes
  have hr := B.returns
  have hts := atoms_spec (ws := wm_c_X9_rule) B.pre
  have hown : s.vm.findClass RX9 = some m.cls := findClass_of_methodNamed B.named
  have hlocks := B.notSynchronized
  have iRX9 : ∀ w ∈ u_ws RX9 TX9 4, w ∈ wm_c_X9_rule := by decide +kernel
  have iRJx4a65c : ∀ w ∈ u_ws RJx4a65c TJx4a65c 3, w ∈ wm_c_X9_rule := by decide +kernel
  subst hsz
  have hD := hD0.self (sz := s.heap.size)
  generalize hAe : va_A [(m0, .inr (16, [.int 0, .ref kl, .null, .ref tl])), (kl, .inr (6, [.int 0, .ref (κ 0), .int 0]))] s.heap.size = A at hD hE ⊢
  have hA : ∀ q : Nat, s.heap.size ≤ q → A q := fun q h => by rw [← hAe]; exact Or.inr h
  have hS : va_S A s.heap s.heap [] := va_S.rf
  have hl := lv_entry ([.ref m0, .int p0, .int p1, .int p2]) (n := 7) (Nat.le_of_ble_eq_true rfl)
  rw [lg_entry_eq]
  generalize (lg_sl ([.ref m0, .int p0, .int p1, .int p2]) ++ List.replicate (7 - (lg_sl ([.ref m0, .int p0, .int p1, .int p2])).length) Slot.unset).toArray = ls at hl ⊢
  have hl : lv_has ls 7 [(0, .ref m0), (1, .int p0), (2, .int p1), (3, .int p2)] := hl
  refine lv_aload_n hx hb dX9_rule_0 rfl (lv_at hl 0 rfl) ?_
  have hS0 := hS
  have hFc := va_free (wc := [(m0, .inr (16, [.int 0, .ref kl, .null, .ref tl]))]) hD hS hA [0] rfl
  refine va_callv (va_runV (As := []) (rest := []) ⟨hx, hb, hml, hown, hts⟩ (c_X9_begins l κ D (s.heap).size (m0) (kl) (tl) (0) ) (cwV 0 hts gd_c_X9_rule_1 rfl rfl rfl (by decide +kernel) ⟨(Nat.le_of_ble_eq_true rfl), (Nat.le_of_ble_eq_true rfl)⟩) (preV hE hK hP hD hS hA [0] rfl (by decide) [] rfl (va_recv hK hP (ci := 16) (q0 := 0) rfl rfl)) rfl rfl hl.1 rfl (lv_room (Nat.le_of_ble_eq_true rfl)) dX9_rule_1 ⟨(Nat.le_of_ble_eq_true rfl), (Nat.le_of_ble_eq_true rfl)⟩) hS (fun q _ h => hFc q h) hFc (fun u t H1 locs ht hvm hw hB hz1 hk1 hS => ?_)
  try dsimp only at hw
  obtain ⟨hP, hD, hK⟩ := jn (wc := [(m0, .inr (16, [.int 0, .ref kl, .null, .ref tl]))]) (wr := [(kl, .inr (6, [.int 0, .ref (κ 0), .int 0]))]) (w1 := [(m0, .inr (16, [.int 0, .ref kl, .null, .ref tl]))]) (t1 := []) hP hD hK hS0 hA [0] [1] rfl rfl (by decide) (by decide) ht hvm hk1 hB
  generalize H1 = H at hP hS ⊢
  have hP : va_P D vwCl ([(kl, .inr (6, [.int 0, .ref (κ 0), .int 0])), (m0, .inr (16, [.int 0, .ref kl, .null, .ref tl]))]) H := hP
  have hD : va_D A ([(kl, .inr (6, [.int 0, .ref (κ 0), .int 0])), (m0, .inr (16, [.int 0, .ref kl, .null, .ref tl]))]) := hD
  have hK : va_K D vwCl [] s := hK
  refine W.widen (k := 0) (n := 0) (Nat.le_of_ble_eq_true rfl) (Nat.le_of_ble_eq_true rfl) ?_
  refine lv_aload_n hx hb dX9_rule_4 rfl (lv_at hl 0 rfl) ?_
  refine lv_iload_n hx hb dX9_rule_5 rfl (lv_at hl 1 rfl) ?_
  refine lv_iload_n hx hb dX9_rule_6 rfl (lv_at hl 2 rfl) ?_
  have hS0 := hS
  have hFc := va_free (wc := [(m0, .inr (16, [.int 0, .ref kl, .null, .ref tl])), (kl, .inr (6, [.int 0, .ref (κ 0), .int 0]))]) hD hS hA [1, 0] rfl
  refine va_calli (va_runV (As := [.int p0, .int p1]) (rest := []) ⟨hx, hb, hml, hown, hts⟩ (c_X9_noThing l κ D (H).size (m0) (kl) (tl) (p0) (p1) ) (cwV 2 hts gd_c_X9_rule_7 rfl rfl rfl (by decide +kernel) ⟨(Nat.le_of_ble_eq_true rfl), (Nat.le_of_ble_eq_true rfl)⟩) (preV hE hK hP hD hS hA [1, 0] rfl (by decide) [] rfl (va_recv hK hP (ci := 16) (q0 := 1) rfl rfl)) rfl rfl hl.1 rfl (lv_room (Nat.le_of_ble_eq_true rfl)) dX9_rule_7 ⟨(Nat.le_of_ble_eq_true rfl), (Nat.le_of_ble_eq_true rfl)⟩) hS (fun q _ h => hFc q h) hFc (fun r_2 u t H1 locs ht hvm hw hB hz1 hk1 hS => ?_)
  try dsimp only at hw
  obtain ⟨hP, hD, hK⟩ := jn (wc := [(m0, .inr (16, [.int 0, .ref kl, .null, .ref tl])), (kl, .inr (6, [.int 0, .ref (κ 0), .int 0]))]) (wr := []) (w1 := [(m0, .inr (16, [.int 1, .ref kl, .null, .ref tl]))]) (t1 := []) hP hD hK hS0 hA [1, 0] [] rfl rfl (by decide) (by decide) ht hvm hk1 hB
  generalize H1 = H at hP hS ⊢
  have hP : va_P D vwCl ([(m0, .inr (16, [.int 1, .ref kl, .null, .ref tl]))]) H := hP
  have hD : va_D A ([(m0, .inr (16, [.int 1, .ref kl, .null, .ref tl]))]) := hD
  have hK : va_K D vwCl [] s := hK
  refine W.widen (k := 0) (n := 0) (Nat.le_of_ble_eq_true rfl) (Nat.le_of_ble_eq_true rfl) ?_
  subst hw
  refine lv_if_eq (tgt := 15) hx hb dX9_rule_10 (by decide) (fun c_10 => absurd c_10 (by decide)) (fun _ => ?_)
  refine lv_iconst (v := 0) hx hb dX9_rule_13 (by decide) ?_
  refine W.widen (k := 0) (n := 0) (Nat.le_of_ble_eq_true rfl) (Nat.le_of_ble_eq_true rfl) ?_
  exact W.zret (v := 0) hx hb hr (by decide) (fun t ht hW => ⟨⟨0, (), rfl, trivial, PB.at hP hK hD hW.alike ht [0] rfl (by decide) [] rfl⟩, hS.F ht⟩) hS.2.2 dX9_rule_14

def wm_c_X9_holds : List Cond := .code yX9_holds cX9_holds 3 (some .boolean) :: ([.code yX9_begins cX9_begins 1 none, .fieldLink RX9 19 "SowingcourtModel" "thrown" "I", .methodLink RX9 33 yX9_begins, .instanceMethod yX9_begins, .selects RX9 yX9_begins yX9_begins, .initialized RX9, .code yX9_noThing cX9_noThing 3 (some .boolean), .fieldLink RX9 10 "SowingcourtModel" "kinds" "Ljava/util/List;", .code yX9_isOf cX9_isOf 2 (some .boolean), .code yJx4a65c_size_8abf5 cJx4a65c_size_8abf5 1 (some .int), .fieldLink RJx4a65c 48 "java/util/ArrayList" "size" "I", .methodLink RX9 23 ⟨"java/util/List", "size", "()I"⟩, .selects RJx4a65c ⟨"java/util/List", "size", "()I"⟩ yJx4a65c_size_8abf5, .instanceMethod yJx4a65c_size_8abf5, .initialized RJx4a65c, .code yX9_in cX9_in 6 (some .boolean), .methodLink RX9 29 yX9_in, .static yX9_in, .methodLink RX9 74 yX9_isOf, .static yX9_isOf, .code yX9_fails cX9_fails 3 (some .boolean), .methodLink RX9 50 yX9_fails, .instanceMethod yX9_fails, .selects RX9 yX9_fails yX9_fails, .methodLink RX9 80 yX9_noThing, .instanceMethod yX9_noThing, .selects RX9 yX9_noThing yX9_noThing] ++ wsX90 ++ wsJx4a65c0)
set_option maxRecDepth 20000 in
theorem gd_c_X9_holds_1 : GoodIn wm_c_X9_holds (wsV RX9 33 RX9 yX9_begins wm_c_X9_begins) := goodIn_of _ (by decide +kernel)
set_option maxRecDepth 20000 in
theorem gd_c_X9_holds_7 : GoodIn wm_c_X9_holds (wsV RX9 80 RX9 yX9_noThing wm_c_X9_noThing) := goodIn_of _ (by decide +kernel)
set_option maxHeartbeats 4000000 in
set_option maxRecDepth 100000 in
theorem c_X9_holds (l : Launch) (κ : Nat → Nat) (D : va_G) (sz : Nat) (m0 : Nat) (kl : Nat) (tl : Nat) (p0 : Int32) (p1 : Int32)  : Met l yX9_holds wm_c_X9_holds ({ frames := 11, cells := 0, slots := 0, locals := 380 }) (va_Pc [.ref m0, .int p0, .int p1] (PC κ D [] [(m0, .inr (16, [.int 0, .ref kl, .null, .ref tl])), (kl, .inr (6, [.int 0, .ref (κ 0), .int 0]))] sz)) (va_Qi (fun (r : Int32) (_ : Unit) => True) (fun _ t => PB D [] [(m0, .inr (16, [.int 1, .ref kl, .null, .ref tl]))] (va_A [(m0, .inr (16, [.int 0, .ref kl, .null, .ref tl])), (kl, .inr (6, [.int 0, .ref (κ 0), .int 0]))] sz) t) (va_A [(m0, .inr (16, [.int 0, .ref kl, .null, .ref tl])), (kl, .inr (6, [.int 0, .ref (κ 0), .int 0]))] sz)) 0 0 (va_A [(m0, .inr (16, [.int 0, .ref kl, .null, .ref tl])), (kl, .inr (6, [.int 0, .ref (κ 0), .int 0]))] sz) := by
  refine Met.ofW (cc := cX9_holds) (maxL := 3) (ret := (some .boolean)) (by decide +kernel) rfl ?_
  intro p e s m args below meth c s₁ B hml hv
  obtain ⟨rfl, hsz, hP, hK, hD0, hE⟩ := hv
  have hx := B.exec
  have hb := B.bytes
  have hr := B.returns
  have hts := atoms_spec (ws := wm_c_X9_holds) B.pre
  have hown : s.vm.findClass RX9 = some m.cls := findClass_of_methodNamed B.named
  have hlocks := B.notSynchronized
  have iRX9 : ∀ w ∈ u_ws RX9 TX9 4, w ∈ wm_c_X9_holds := by decide +kernel
  have iRJx4a65c : ∀ w ∈ u_ws RJx4a65c TJx4a65c 3, w ∈ wm_c_X9_holds := by decide +kernel
  subst hsz
  have hD := hD0.self (sz := s.heap.size)
  generalize hAe : va_A [(m0, .inr (16, [.int 0, .ref kl, .null, .ref tl])), (kl, .inr (6, [.int 0, .ref (κ 0), .int 0]))] s.heap.size = A at hD hE ⊢
  have hA : ∀ q : Nat, s.heap.size ≤ q → A q := fun q h => by rw [← hAe]; exact Or.inr h
  have hS : va_S A s.heap s.heap [] := va_S.rf
  have hl := lv_entry ([.ref m0, .int p0, .int p1]) (n := 3) (Nat.le_of_ble_eq_true rfl)
  rw [lg_entry_eq]
  generalize (lg_sl ([.ref m0, .int p0, .int p1]) ++ List.replicate (3 - (lg_sl ([.ref m0, .int p0, .int p1])).length) Slot.unset).toArray = ls at hl ⊢
  have hl : lv_has ls 3 [(0, .ref m0), (1, .int p0), (2, .int p1)] := hl
  refine lv_aload_n hx hb dX9_holds_0 rfl (lv_at hl 0 rfl) ?_
  have hS0 := hS
  have hFc := va_free (wc := [(m0, .inr (16, [.int 0, .ref kl, .null, .ref tl]))]) hD hS hA [0] rfl
  refine va_callv (va_runV (As := []) (rest := []) ⟨hx, hb, hml, hown, hts⟩ (c_X9_begins l κ D (s.heap).size (m0) (kl) (tl) (0) ) (cwV 0 hts gd_c_X9_holds_1 rfl rfl rfl (by decide +kernel) ⟨(Nat.le_of_ble_eq_true rfl), (Nat.le_of_ble_eq_true rfl)⟩) (preV hE hK hP hD hS hA [0] rfl (by decide) [] rfl (va_recv hK hP (ci := 16) (q0 := 0) rfl rfl)) rfl rfl hl.1 rfl (lv_room (Nat.le_of_ble_eq_true rfl)) dX9_holds_1 ⟨(Nat.le_of_ble_eq_true rfl), (Nat.le_of_ble_eq_true rfl)⟩) hS (fun q _ h => hFc q h) hFc (fun u t H1 locs ht hvm hw hB hz1 hk1 hS => ?_)
  try dsimp only at hw
  obtain ⟨hP, hD, hK⟩ := jn (wc := [(m0, .inr (16, [.int 0, .ref kl, .null, .ref tl]))]) (wr := [(kl, .inr (6, [.int 0, .ref (κ 0), .int 0]))]) (w1 := [(m0, .inr (16, [.int 0, .ref kl, .null, .ref tl]))]) (t1 := []) hP hD hK hS0 hA [0] [1] rfl rfl (by decide) (by decide) ht hvm hk1 hB
  generalize H1 = H at hP hS ⊢
  have hP : va_P D vwCl ([(kl, .inr (6, [.int 0, .ref (κ 0), .int 0])), (m0, .inr (16, [.int 0, .ref kl, .null, .ref tl]))]) H := hP
  have hD : va_D A ([(kl, .inr (6, [.int 0, .ref (κ 0), .int 0])), (m0, .inr (16, [.int 0, .ref kl, .null, .ref tl]))]) := hD
  have hK : va_K D vwCl [] s := hK
  refine W.widen (k := 0) (n := 0) (Nat.le_of_ble_eq_true rfl) (Nat.le_of_ble_eq_true rfl) ?_
  refine lv_aload_n hx hb dX9_holds_4 rfl (lv_at hl 0 rfl) ?_
  refine lv_iload_n hx hb dX9_holds_5 rfl (lv_at hl 1 rfl) ?_
  refine lv_iload_n hx hb dX9_holds_6 rfl (lv_at hl 2 rfl) ?_
  have hS0 := hS
  have hFc := va_free (wc := [(m0, .inr (16, [.int 0, .ref kl, .null, .ref tl])), (kl, .inr (6, [.int 0, .ref (κ 0), .int 0]))]) hD hS hA [1, 0] rfl
  refine va_calli (va_runV (As := [.int p0, .int p1]) (rest := []) ⟨hx, hb, hml, hown, hts⟩ (c_X9_noThing l κ D (H).size (m0) (kl) (tl) (p0) (p1) ) (cwV 2 hts gd_c_X9_holds_7 rfl rfl rfl (by decide +kernel) ⟨(Nat.le_of_ble_eq_true rfl), (Nat.le_of_ble_eq_true rfl)⟩) (preV hE hK hP hD hS hA [1, 0] rfl (by decide) [] rfl (va_recv hK hP (ci := 16) (q0 := 1) rfl rfl)) rfl rfl hl.1 rfl (lv_room (Nat.le_of_ble_eq_true rfl)) dX9_holds_7 ⟨(Nat.le_of_ble_eq_true rfl), (Nat.le_of_ble_eq_true rfl)⟩) hS (fun q _ h => hFc q h) hFc (fun r_2 u t H1 locs ht hvm hw hB hz1 hk1 hS => ?_)
  try dsimp only at hw
  obtain ⟨hP, hD, hK⟩ := jn (wc := [(m0, .inr (16, [.int 0, .ref kl, .null, .ref tl])), (kl, .inr (6, [.int 0, .ref (κ 0), .int 0]))]) (wr := []) (w1 := [(m0, .inr (16, [.int 1, .ref kl, .null, .ref tl]))]) (t1 := []) hP hD hK hS0 hA [1, 0] [] rfl rfl (by decide) (by decide) ht hvm hk1 hB
  generalize H1 = H at hP hS ⊢
  have hP : va_P D vwCl ([(m0, .inr (16, [.int 1, .ref kl, .null, .ref tl]))]) H := hP
  have hD : va_D A ([(m0, .inr (16, [.int 1, .ref kl, .null, .ref tl]))]) := hD
  have hK : va_K D vwCl [] s := hK
  refine W.widen (k := 0) (n := 0) (Nat.le_of_ble_eq_true rfl) (Nat.le_of_ble_eq_true rfl) ?_
  subst hw
  refine lv_if_ne (tgt := 37) hx hb dX9_holds_10 (by decide) (fun _ => ?_) (fun c_10 => absurd c_10 (by decide))
  refine lv_iconst (v := 0) hx hb dX9_holds_37 (by decide) ?_
  refine W.widen (k := 0) (n := 0) (Nat.le_of_ble_eq_true rfl) (Nat.le_of_ble_eq_true rfl) ?_
  exact W.zret (v := 0) hx hb hr (by decide) (fun t ht hW => ⟨⟨0, (), rfl, trivial, PB.at hP hK hD hW.alike ht [0] rfl (by decide) [] rfl⟩, hS.F ht⟩) hS.2.2 dX9_holds_38

def wm_c_X9_copy : List Cond := .code yX9_copy cX9_copy 2 (some .int) :: ([.code yX9_begins cX9_begins 1 none, .fieldLink RX9 19 "SowingcourtModel" "thrown" "I", .methodLink RX9 33 yX9_begins, .instanceMethod yX9_begins, .selects RX9 yX9_begins yX9_begins, .initialized RX9, .fieldLink RX9 10 "SowingcourtModel" "kinds" "Ljava/util/List;", .code yX9_isOf cX9_isOf 2 (some .boolean), .code yJx4a65c_size_8abf5 cJx4a65c_size_8abf5 1 (some .int), .fieldLink RJx4a65c 48 "java/util/ArrayList" "size" "I", .methodLink RX9 23 ⟨"java/util/List", "size", "()I"⟩, .selects RJx4a65c ⟨"java/util/List", "size", "()I"⟩ yJx4a65c_size_8abf5, .instanceMethod yJx4a65c_size_8abf5, .initialized RJx4a65c, .code yX9_in cX9_in 6 (some .boolean), .methodLink RX9 29 yX9_in, .static yX9_in, .methodLink RX9 74 yX9_isOf, .static yX9_isOf, .code yX9_fails cX9_fails 3 (some .boolean), .methodLink RX9 50 yX9_fails, .instanceMethod yX9_fails, .selects RX9 yX9_fails yX9_fails] ++ wsX90 ++ wsJx4a65c0)
set_option maxRecDepth 20000 in
theorem gd_c_X9_copy_1 : GoodIn wm_c_X9_copy (wsV RX9 33 RX9 yX9_begins wm_c_X9_begins) := goodIn_of _ (by decide +kernel)
set_option maxRecDepth 20000 in
theorem gd_c_X9_copy_10 : GoodIn wm_c_X9_copy (va_wsS RX9 74 yX9_isOf wm_c_X9_isOf) := goodIn_of _ (by decide +kernel)
set_option maxRecDepth 20000 in
theorem gd_c_X9_copy_22 : GoodIn wm_c_X9_copy (wsV RX9 50 RX9 yX9_fails wm_c_X9_fails_1) := goodIn_of _ (by decide +kernel)
set_option maxHeartbeats 4000000 in
set_option maxRecDepth 100000 in
theorem c_X9_copy (l : Launch) (κ : Nat → Nat) (D : va_G) (sz : Nat) (m0 : Nat) (kl : Nat) (tl : Nat) (p0 : Int32)  : Met l yX9_copy wm_c_X9_copy ({ frames := 11, cells := 0, slots := 0, locals := 380 }) (va_Pc [.ref m0, .int p0] (PC κ D [] [(m0, .inr (16, [.int 0, .ref kl, .null, .ref tl])), (kl, .inr (6, [.int 0, .ref (κ 0), .int 0]))] sz)) (va_Qi (fun (r : Int32) (_ : Unit) => True) (fun _ t => PB D [] [(m0, .inr (16, [.int 1, .ref kl, .null, .ref tl]))] (va_A [(m0, .inr (16, [.int 0, .ref kl, .null, .ref tl])), (kl, .inr (6, [.int 0, .ref (κ 0), .int 0]))] sz) t) (va_A [(m0, .inr (16, [.int 0, .ref kl, .null, .ref tl])), (kl, .inr (6, [.int 0, .ref (κ 0), .int 0]))] sz)) 0 0 (va_A [(m0, .inr (16, [.int 0, .ref kl, .null, .ref tl])), (kl, .inr (6, [.int 0, .ref (κ 0), .int 0]))] sz) := by
  refine Met.ofW (cc := cX9_copy) (maxL := 2) (ret := (some .int)) (by decide +kernel) rfl ?_
  intro p e s m args below meth c s₁ B hml hv
  obtain ⟨rfl, hsz, hP, hK, hD0, hE⟩ := hv
  have hx := B.exec
  have hb := B.bytes
  have hr := B.returns
  have hts := atoms_spec (ws := wm_c_X9_copy) B.pre
  have hown : s.vm.findClass RX9 = some m.cls := findClass_of_methodNamed B.named
  have hlocks := B.notSynchronized
  have iRX9 : ∀ w ∈ u_ws RX9 TX9 4, w ∈ wm_c_X9_copy := by decide +kernel
  have iRJx4a65c : ∀ w ∈ u_ws RJx4a65c TJx4a65c 3, w ∈ wm_c_X9_copy := by decide +kernel
  subst hsz
  have hD := hD0.self (sz := s.heap.size)
  generalize hAe : va_A [(m0, .inr (16, [.int 0, .ref kl, .null, .ref tl])), (kl, .inr (6, [.int 0, .ref (κ 0), .int 0]))] s.heap.size = A at hD hE ⊢
  have hA : ∀ q : Nat, s.heap.size ≤ q → A q := fun q h => by rw [← hAe]; exact Or.inr h
  have hS : va_S A s.heap s.heap [] := va_S.rf
  have hl := lv_entry ([.ref m0, .int p0]) (n := 2) (Nat.le_of_ble_eq_true rfl)
  rw [lg_entry_eq]
  generalize (lg_sl ([.ref m0, .int p0]) ++ List.replicate (2 - (lg_sl ([.ref m0, .int p0])).length) Slot.unset).toArray = ls at hl ⊢
  have hl : lv_has ls 2 [(0, .ref m0), (1, .int p0)] := hl
  refine lv_aload_n hx hb dX9_copy_0 rfl (lv_at hl 0 rfl) ?_
  have hS0 := hS
  have hFc := va_free (wc := [(m0, .inr (16, [.int 0, .ref kl, .null, .ref tl]))]) hD hS hA [0] rfl
  refine va_callv (va_runV (As := []) (rest := []) ⟨hx, hb, hml, hown, hts⟩ (c_X9_begins l κ D (s.heap).size (m0) (kl) (tl) (0) ) (cwV 0 hts gd_c_X9_copy_1 rfl rfl rfl (by decide +kernel) ⟨(Nat.le_of_ble_eq_true rfl), (Nat.le_of_ble_eq_true rfl)⟩) (preV hE hK hP hD hS hA [0] rfl (by decide) [] rfl (va_recv hK hP (ci := 16) (q0 := 0) rfl rfl)) rfl rfl hl.1 rfl (lv_room (Nat.le_of_ble_eq_true rfl)) dX9_copy_1 ⟨(Nat.le_of_ble_eq_true rfl), (Nat.le_of_ble_eq_true rfl)⟩) hS (fun q _ h => hFc q h) hFc (fun u t H1 locs ht hvm hw hB hz1 hk1 hS => ?_)
  try dsimp only at hw
  obtain ⟨hP, hD, hK⟩ := jn (wc := [(m0, .inr (16, [.int 0, .ref kl, .null, .ref tl]))]) (wr := [(kl, .inr (6, [.int 0, .ref (κ 0), .int 0]))]) (w1 := [(m0, .inr (16, [.int 0, .ref kl, .null, .ref tl]))]) (t1 := []) hP hD hK hS0 hA [0] [1] rfl rfl (by decide) (by decide) ht hvm hk1 hB
  generalize H1 = H at hP hS ⊢
  have hP : va_P D vwCl ([(kl, .inr (6, [.int 0, .ref (κ 0), .int 0])), (m0, .inr (16, [.int 0, .ref kl, .null, .ref tl]))]) H := hP
  have hD : va_D A ([(kl, .inr (6, [.int 0, .ref (κ 0), .int 0])), (m0, .inr (16, [.int 0, .ref kl, .null, .ref tl]))]) := hD
  have hK : va_K D vwCl [] s := hK
  refine W.widen (k := 0) (n := 0) (Nat.le_of_ble_eq_true rfl) (Nat.le_of_ble_eq_true rfl) ?_
  refine lv_aload_n hx hb dX9_copy_4 rfl (lv_at hl 0 rfl) ?_
  refine lv_aload_n hx hb dX9_copy_5 rfl (lv_at hl 0 rfl) ?_
  refine va_get (D := D) (ci := 16) (v := .ref kl) (C := RX9) (T := TX9) (N := 4) hx hb hts iRX9 hown hK hP 1 rfl rfl 1 (by decide) (hts (.fieldLink RX9 10 "SowingcourtModel" "kinds" "Ljava/util/List;") (by decide +kernel)) (fun _ h9 => h9) rfl dX9_copy_6 ?_
  refine lv_iload_n hx hb dX9_copy_9 rfl (lv_at hl 1 rfl) ?_
  have hS0 := hS
  have hFc := va_free (wc := [(kl, .inr (6, [.int 0, .ref (κ 0), .int 0]))]) hD hS hA [0] rfl
  refine va_calli (va_runS (As := [.ref kl, .int p0]) (rest := [.ref m0]) ⟨hx, hb, hml, hown, hts⟩ (c_X9_isOf l κ D (H).size (kl) (p0) ) (va_cwS 2 hts gd_c_X9_copy_10 rfl rfl rfl (by decide +kernel) ⟨(Nat.le_of_ble_eq_true rfl), (Nat.le_of_ble_eq_true rfl)⟩) (preS hE hK hP hD hS hA [0] rfl (by decide) [] rfl) rfl rfl hl.1 rfl (lv_room (Nat.le_of_ble_eq_true rfl)) dX9_copy_10 ⟨(Nat.le_of_ble_eq_true rfl), (Nat.le_of_ble_eq_true rfl)⟩) hS (fun q _ h => hFc q h) hFc (fun r_2 u t H1 locs ht hvm hw hB hz1 hk1 hS => ?_)
  try dsimp only at hw
  obtain ⟨hP, hD, hK⟩ := jn (wc := [(kl, .inr (6, [.int 0, .ref (κ 0), .int 0]))]) (wr := [(m0, .inr (16, [.int 0, .ref kl, .null, .ref tl]))]) (w1 := [(kl, .inr (6, [.int 0, .ref (κ 0), .int 0]))]) (t1 := []) hP hD hK hS0 hA [0] [1] rfl rfl (by decide) (by decide) ht hvm hk1 hB
  generalize H1 = H at hP hS ⊢
  have hP : va_P D vwCl ([(m0, .inr (16, [.int 0, .ref kl, .null, .ref tl])), (kl, .inr (6, [.int 0, .ref (κ 0), .int 0]))]) H := hP
  have hD : va_D A ([(m0, .inr (16, [.int 0, .ref kl, .null, .ref tl])), (kl, .inr (6, [.int 0, .ref (κ 0), .int 0]))]) := hD
  have hK : va_K D vwCl [] s := hK
  refine W.widen (k := 0) (n := 0) (Nat.le_of_ble_eq_true rfl) (Nat.le_of_ble_eq_true rfl) ?_
  subst hw
  refine lv_if_ne (tgt := 20) hx hb dX9_copy_13 (by decide) (fun c_13 => absurd c_13 (by decide)) (fun _ => ?_)
  refine lv_iconst (v := 1) hx hb dX9_copy_16 (by decide) ?_
  refine lv_goto (tgt := 21) hx hb dX9_copy_17 (by decide) ?_
  refine lv_iconst (v := 1) hx hb dX9_copy_21 (by decide) ?_
  have hS0 := hS
  have hFc := va_free (wc := [(m0, .inr (16, [.int 0, .ref kl, .null, .ref tl]))]) hD hS hA [0] rfl
  refine va_calli (va_runV (As := [.int 1, .int 1]) (rest := []) ⟨hx, hb, hml, hown, hts⟩ (c_X9_fails_1 l κ D (H).size (m0) (kl) (tl) ) (cwV 2 hts gd_c_X9_copy_22 rfl rfl rfl (by decide +kernel) ⟨(Nat.le_of_ble_eq_true rfl), (Nat.le_of_ble_eq_true rfl)⟩) (preV hE hK hP hD hS hA [0] rfl (by decide) [] rfl (va_recv hK hP (ci := 16) (q0 := 0) rfl rfl)) rfl rfl hl.1 rfl (lv_room (Nat.le_of_ble_eq_true rfl)) dX9_copy_22 ⟨(Nat.le_of_ble_eq_true rfl), (Nat.le_of_ble_eq_true rfl)⟩) hS (fun q _ h => hFc q h) hFc (fun r_3 u t H1 locs ht hvm hw hB hz1 hk1 hS => ?_)
  try dsimp only at hw
  obtain ⟨hP, hD, hK⟩ := jn (wc := [(m0, .inr (16, [.int 0, .ref kl, .null, .ref tl]))]) (wr := [(kl, .inr (6, [.int 0, .ref (κ 0), .int 0]))]) (w1 := [(m0, .inr (16, [.int 1, .ref kl, .null, .ref tl]))]) (t1 := []) hP hD hK hS0 hA [0] [1] rfl rfl (by decide) (by decide) ht hvm hk1 hB
  generalize H1 = H at hP hS ⊢
  have hP : va_P D vwCl ([(kl, .inr (6, [.int 0, .ref (κ 0), .int 0])), (m0, .inr (16, [.int 1, .ref kl, .null, .ref tl]))]) H := hP
  have hD : va_D A ([(kl, .inr (6, [.int 0, .ref (κ 0), .int 0])), (m0, .inr (16, [.int 1, .ref kl, .null, .ref tl]))]) := hD
  have hK : va_K D vwCl [] s := hK
  refine W.widen (k := 0) (n := 0) (Nat.le_of_ble_eq_true rfl) (Nat.le_of_ble_eq_true rfl) ?_
  subst hw
  refine lv_if_ne (tgt := 55) hx hb dX9_copy_25 (by decide) (fun _ => ?_) (fun c_25 => absurd c_25 (by decide))
  refine lv_iconst (v := (-1)) hx hb dX9_copy_55 (by decide) ?_
  refine W.widen (k := 0) (n := 0) (Nat.le_of_ble_eq_true rfl) (Nat.le_of_ble_eq_true rfl) ?_
  exact W.iret (v := (-1)) hx hb hr (fun t ht hW => ⟨⟨(-1), (), rfl, trivial, PB.at hP hK hD hW.alike ht [1] rfl (by decide) [] rfl⟩, hS.F ht⟩) hS.2.2 dX9_copy_56

def wm_c_X9_unlike : List Cond := .code yX9_unlike cX9_unlike 3 (some .int) :: ([.code yX9_begins cX9_begins 1 none, .fieldLink RX9 19 "SowingcourtModel" "thrown" "I", .methodLink RX9 33 yX9_begins, .instanceMethod yX9_begins, .selects RX9 yX9_begins yX9_begins, .initialized RX9, .fieldLink RX9 10 "SowingcourtModel" "kinds" "Ljava/util/List;", .code yX9_isOf cX9_isOf 2 (some .boolean), .code yJx4a65c_size_8abf5 cJx4a65c_size_8abf5 1 (some .int), .fieldLink RJx4a65c 48 "java/util/ArrayList" "size" "I", .methodLink RX9 23 ⟨"java/util/List", "size", "()I"⟩, .selects RJx4a65c ⟨"java/util/List", "size", "()I"⟩ yJx4a65c_size_8abf5, .instanceMethod yJx4a65c_size_8abf5, .initialized RJx4a65c, .code yX9_in cX9_in 6 (some .boolean), .methodLink RX9 29 yX9_in, .static yX9_in, .methodLink RX9 74 yX9_isOf, .static yX9_isOf, .code yX9_fails cX9_fails 3 (some .boolean), .methodLink RX9 50 yX9_fails, .instanceMethod yX9_fails, .selects RX9 yX9_fails yX9_fails] ++ wsX90 ++ wsJx4a65c0)
set_option maxRecDepth 20000 in
theorem gd_c_X9_unlike_1 : GoodIn wm_c_X9_unlike (wsV RX9 33 RX9 yX9_begins wm_c_X9_begins) := goodIn_of _ (by decide +kernel)
set_option maxRecDepth 20000 in
theorem gd_c_X9_unlike_10 : GoodIn wm_c_X9_unlike (va_wsS RX9 74 yX9_isOf wm_c_X9_isOf) := goodIn_of _ (by decide +kernel)
set_option maxRecDepth 20000 in
theorem gd_c_X9_unlike_33 : GoodIn wm_c_X9_unlike (wsV RX9 50 RX9 yX9_fails wm_c_X9_fails_1) := goodIn_of _ (by decide +kernel)
set_option maxHeartbeats 4000000 in
set_option maxRecDepth 100000 in
theorem c_X9_unlike (l : Launch) (κ : Nat → Nat) (D : va_G) (sz : Nat) (m0 : Nat) (kl : Nat) (tl : Nat) (p0 : Int32) (p1 : Int32)  : Met l yX9_unlike wm_c_X9_unlike ({ frames := 11, cells := 0, slots := 0, locals := 380 }) (va_Pc [.ref m0, .int p0, .int p1] (PC κ D [] [(m0, .inr (16, [.int 0, .ref kl, .null, .ref tl])), (kl, .inr (6, [.int 0, .ref (κ 0), .int 0]))] sz)) (va_Qi (fun (r : Int32) (_ : Unit) => True) (fun _ t => PB D [] [(m0, .inr (16, [.int 1, .ref kl, .null, .ref tl]))] (va_A [(m0, .inr (16, [.int 0, .ref kl, .null, .ref tl])), (kl, .inr (6, [.int 0, .ref (κ 0), .int 0]))] sz) t) (va_A [(m0, .inr (16, [.int 0, .ref kl, .null, .ref tl])), (kl, .inr (6, [.int 0, .ref (κ 0), .int 0]))] sz)) 0 0 (va_A [(m0, .inr (16, [.int 0, .ref kl, .null, .ref tl])), (kl, .inr (6, [.int 0, .ref (κ 0), .int 0]))] sz) := by
  refine Met.ofW (cc := cX9_unlike) (maxL := 3) (ret := (some .int)) (by decide +kernel) rfl ?_
  intro p e s m args below meth c s₁ B hml hv
  obtain ⟨rfl, hsz, hP, hK, hD0, hE⟩ := hv
  have hx := B.exec
  have hb := B.bytes
  have hr := B.returns
  have hts := atoms_spec (ws := wm_c_X9_unlike) B.pre
  have hown : s.vm.findClass RX9 = some m.cls := findClass_of_methodNamed B.named
  have hlocks := B.notSynchronized
  have iRX9 : ∀ w ∈ u_ws RX9 TX9 4, w ∈ wm_c_X9_unlike := by decide +kernel
  have iRJx4a65c : ∀ w ∈ u_ws RJx4a65c TJx4a65c 3, w ∈ wm_c_X9_unlike := by decide +kernel
  subst hsz
  have hD := hD0.self (sz := s.heap.size)
  generalize hAe : va_A [(m0, .inr (16, [.int 0, .ref kl, .null, .ref tl])), (kl, .inr (6, [.int 0, .ref (κ 0), .int 0]))] s.heap.size = A at hD hE ⊢
  have hA : ∀ q : Nat, s.heap.size ≤ q → A q := fun q h => by rw [← hAe]; exact Or.inr h
  have hS : va_S A s.heap s.heap [] := va_S.rf
  have hl := lv_entry ([.ref m0, .int p0, .int p1]) (n := 3) (Nat.le_of_ble_eq_true rfl)
  rw [lg_entry_eq]
  generalize (lg_sl ([.ref m0, .int p0, .int p1]) ++ List.replicate (3 - (lg_sl ([.ref m0, .int p0, .int p1])).length) Slot.unset).toArray = ls at hl ⊢
  have hl : lv_has ls 3 [(0, .ref m0), (1, .int p0), (2, .int p1)] := hl
  refine lv_aload_n hx hb dX9_unlike_0 rfl (lv_at hl 0 rfl) ?_
  have hS0 := hS
  have hFc := va_free (wc := [(m0, .inr (16, [.int 0, .ref kl, .null, .ref tl]))]) hD hS hA [0] rfl
  refine va_callv (va_runV (As := []) (rest := []) ⟨hx, hb, hml, hown, hts⟩ (c_X9_begins l κ D (s.heap).size (m0) (kl) (tl) (0) ) (cwV 0 hts gd_c_X9_unlike_1 rfl rfl rfl (by decide +kernel) ⟨(Nat.le_of_ble_eq_true rfl), (Nat.le_of_ble_eq_true rfl)⟩) (preV hE hK hP hD hS hA [0] rfl (by decide) [] rfl (va_recv hK hP (ci := 16) (q0 := 0) rfl rfl)) rfl rfl hl.1 rfl (lv_room (Nat.le_of_ble_eq_true rfl)) dX9_unlike_1 ⟨(Nat.le_of_ble_eq_true rfl), (Nat.le_of_ble_eq_true rfl)⟩) hS (fun q _ h => hFc q h) hFc (fun u t H1 locs ht hvm hw hB hz1 hk1 hS => ?_)
  try dsimp only at hw
  obtain ⟨hP, hD, hK⟩ := jn (wc := [(m0, .inr (16, [.int 0, .ref kl, .null, .ref tl]))]) (wr := [(kl, .inr (6, [.int 0, .ref (κ 0), .int 0]))]) (w1 := [(m0, .inr (16, [.int 0, .ref kl, .null, .ref tl]))]) (t1 := []) hP hD hK hS0 hA [0] [1] rfl rfl (by decide) (by decide) ht hvm hk1 hB
  generalize H1 = H at hP hS ⊢
  have hP : va_P D vwCl ([(kl, .inr (6, [.int 0, .ref (κ 0), .int 0])), (m0, .inr (16, [.int 0, .ref kl, .null, .ref tl]))]) H := hP
  have hD : va_D A ([(kl, .inr (6, [.int 0, .ref (κ 0), .int 0])), (m0, .inr (16, [.int 0, .ref kl, .null, .ref tl]))]) := hD
  have hK : va_K D vwCl [] s := hK
  refine W.widen (k := 0) (n := 0) (Nat.le_of_ble_eq_true rfl) (Nat.le_of_ble_eq_true rfl) ?_
  refine lv_aload_n hx hb dX9_unlike_4 rfl (lv_at hl 0 rfl) ?_
  refine lv_aload_n hx hb dX9_unlike_5 rfl (lv_at hl 0 rfl) ?_
  refine va_get (D := D) (ci := 16) (v := .ref kl) (C := RX9) (T := TX9) (N := 4) hx hb hts iRX9 hown hK hP 1 rfl rfl 1 (by decide) (hts (.fieldLink RX9 10 "SowingcourtModel" "kinds" "Ljava/util/List;") (by decide +kernel)) (fun _ h9 => h9) rfl dX9_unlike_6 ?_
  refine lv_iload_n hx hb dX9_unlike_9 rfl (lv_at hl 1 rfl) ?_
  have hS0 := hS
  have hFc := va_free (wc := [(kl, .inr (6, [.int 0, .ref (κ 0), .int 0]))]) hD hS hA [0] rfl
  refine va_calli (va_runS (As := [.ref kl, .int p0]) (rest := [.ref m0]) ⟨hx, hb, hml, hown, hts⟩ (c_X9_isOf l κ D (H).size (kl) (p0) ) (va_cwS 2 hts gd_c_X9_unlike_10 rfl rfl rfl (by decide +kernel) ⟨(Nat.le_of_ble_eq_true rfl), (Nat.le_of_ble_eq_true rfl)⟩) (preS hE hK hP hD hS hA [0] rfl (by decide) [] rfl) rfl rfl hl.1 rfl (lv_room (Nat.le_of_ble_eq_true rfl)) dX9_unlike_10 ⟨(Nat.le_of_ble_eq_true rfl), (Nat.le_of_ble_eq_true rfl)⟩) hS (fun q _ h => hFc q h) hFc (fun r_2 u t H1 locs ht hvm hw hB hz1 hk1 hS => ?_)
  try dsimp only at hw
  obtain ⟨hP, hD, hK⟩ := jn (wc := [(kl, .inr (6, [.int 0, .ref (κ 0), .int 0]))]) (wr := [(m0, .inr (16, [.int 0, .ref kl, .null, .ref tl]))]) (w1 := [(kl, .inr (6, [.int 0, .ref (κ 0), .int 0]))]) (t1 := []) hP hD hK hS0 hA [0] [1] rfl rfl (by decide) (by decide) ht hvm hk1 hB
  generalize H1 = H at hP hS ⊢
  have hP : va_P D vwCl ([(m0, .inr (16, [.int 0, .ref kl, .null, .ref tl])), (kl, .inr (6, [.int 0, .ref (κ 0), .int 0]))]) H := hP
  have hD : va_D A ([(m0, .inr (16, [.int 0, .ref kl, .null, .ref tl])), (kl, .inr (6, [.int 0, .ref (κ 0), .int 0]))]) := hD
  have hK : va_K D vwCl [] s := hK
  refine W.widen (k := 0) (n := 0) (Nat.le_of_ble_eq_true rfl) (Nat.le_of_ble_eq_true rfl) ?_
  subst hw
  refine lv_if_eq (tgt := 27) hx hb dX9_unlike_13 (by decide) (fun _ => ?_) (fun c_13 => absurd c_13 (by decide))
  refine lv_iconst (v := 1) hx hb dX9_unlike_27 (by decide) ?_
  refine lv_goto (tgt := 32) hx hb dX9_unlike_28 (by decide) ?_
  refine lv_iconst (v := 1) hx hb dX9_unlike_32 (by decide) ?_
  have hS0 := hS
  have hFc := va_free (wc := [(m0, .inr (16, [.int 0, .ref kl, .null, .ref tl]))]) hD hS hA [0] rfl
  refine va_calli (va_runV (As := [.int 1, .int 1]) (rest := []) ⟨hx, hb, hml, hown, hts⟩ (c_X9_fails_1 l κ D (H).size (m0) (kl) (tl) ) (cwV 2 hts gd_c_X9_unlike_33 rfl rfl rfl (by decide +kernel) ⟨(Nat.le_of_ble_eq_true rfl), (Nat.le_of_ble_eq_true rfl)⟩) (preV hE hK hP hD hS hA [0] rfl (by decide) [] rfl (va_recv hK hP (ci := 16) (q0 := 0) rfl rfl)) rfl rfl hl.1 rfl (lv_room (Nat.le_of_ble_eq_true rfl)) dX9_unlike_33 ⟨(Nat.le_of_ble_eq_true rfl), (Nat.le_of_ble_eq_true rfl)⟩) hS (fun q _ h => hFc q h) hFc (fun r_3 u t H1 locs ht hvm hw hB hz1 hk1 hS => ?_)
  try dsimp only at hw
  obtain ⟨hP, hD, hK⟩ := jn (wc := [(m0, .inr (16, [.int 0, .ref kl, .null, .ref tl]))]) (wr := [(kl, .inr (6, [.int 0, .ref (κ 0), .int 0]))]) (w1 := [(m0, .inr (16, [.int 1, .ref kl, .null, .ref tl]))]) (t1 := []) hP hD hK hS0 hA [0] [1] rfl rfl (by decide) (by decide) ht hvm hk1 hB
  generalize H1 = H at hP hS ⊢
  have hP : va_P D vwCl ([(kl, .inr (6, [.int 0, .ref (κ 0), .int 0])), (m0, .inr (16, [.int 1, .ref kl, .null, .ref tl]))]) H := hP
  have hD : va_D A ([(kl, .inr (6, [.int 0, .ref (κ 0), .int 0])), (m0, .inr (16, [.int 1, .ref kl, .null, .ref tl]))]) := hD
  have hK : va_K D vwCl [] s := hK
  refine W.widen (k := 0) (n := 0) (Nat.le_of_ble_eq_true rfl) (Nat.le_of_ble_eq_true rfl) ?_
  subst hw
  refine lv_if_eq (tgt := 43) hx hb dX9_unlike_36 (by decide) (fun c_36 => absurd c_36 (by decide)) (fun _ => ?_)
  refine lv_iconst (v := (-1)) hx hb dX9_unlike_39 (by decide) ?_
  refine lv_goto (tgt := 72) hx hb dX9_unlike_40 (by decide) ?_
  refine W.widen (k := 0) (n := 0) (Nat.le_of_ble_eq_true rfl) (Nat.le_of_ble_eq_true rfl) ?_
  exact W.iret (v := (-1)) hx hb hr (fun t ht hW => ⟨⟨(-1), (), rfl, trivial, PB.at hP hK hD hW.alike ht [1] rfl (by decide) [] rfl⟩, hS.F ht⟩) hS.2.2 dX9_unlike_72

def wm_c_X9_parent : List Cond := .code yX9_parent cX9_parent 2 (some .int) :: ([.code yX9_begins cX9_begins 1 none, .fieldLink RX9 19 "SowingcourtModel" "thrown" "I", .methodLink RX9 33 yX9_begins, .instanceMethod yX9_begins, .selects RX9 yX9_begins yX9_begins, .initialized RX9, .fieldLink RX9 10 "SowingcourtModel" "kinds" "Ljava/util/List;", .code yX9_isOf cX9_isOf 2 (some .boolean), .code yJx4a65c_size_8abf5 cJx4a65c_size_8abf5 1 (some .int), .fieldLink RJx4a65c 48 "java/util/ArrayList" "size" "I", .methodLink RX9 23 ⟨"java/util/List", "size", "()I"⟩, .selects RJx4a65c ⟨"java/util/List", "size", "()I"⟩ yJx4a65c_size_8abf5, .instanceMethod yJx4a65c_size_8abf5, .initialized RJx4a65c, .code yX9_in cX9_in 6 (some .boolean), .methodLink RX9 29 yX9_in, .static yX9_in, .methodLink RX9 74 yX9_isOf, .static yX9_isOf, .code yX9_fails cX9_fails 3 (some .boolean), .methodLink RX9 50 yX9_fails, .instanceMethod yX9_fails, .selects RX9 yX9_fails yX9_fails] ++ wsX90 ++ wsJx4a65c0)
set_option maxRecDepth 20000 in
theorem gd_c_X9_parent_1 : GoodIn wm_c_X9_parent (wsV RX9 33 RX9 yX9_begins wm_c_X9_begins) := goodIn_of _ (by decide +kernel)
set_option maxRecDepth 20000 in
theorem gd_c_X9_parent_10 : GoodIn wm_c_X9_parent (va_wsS RX9 74 yX9_isOf wm_c_X9_isOf) := goodIn_of _ (by decide +kernel)
set_option maxRecDepth 20000 in
theorem gd_c_X9_parent_22 : GoodIn wm_c_X9_parent (wsV RX9 50 RX9 yX9_fails wm_c_X9_fails_1) := goodIn_of _ (by decide +kernel)
set_option maxHeartbeats 4000000 in
set_option maxRecDepth 100000 in
theorem c_X9_parent (l : Launch) (κ : Nat → Nat) (D : va_G) (sz : Nat) (m0 : Nat) (kl : Nat) (tl : Nat) (p0 : Int32)  : Met l yX9_parent wm_c_X9_parent ({ frames := 11, cells := 0, slots := 0, locals := 380 }) (va_Pc [.ref m0, .int p0] (PC κ D [] [(m0, .inr (16, [.int 0, .ref kl, .null, .ref tl])), (kl, .inr (6, [.int 0, .ref (κ 0), .int 0]))] sz)) (va_Qi (fun (r : Int32) (_ : Unit) => True) (fun _ t => PB D [] [(m0, .inr (16, [.int 1, .ref kl, .null, .ref tl]))] (va_A [(m0, .inr (16, [.int 0, .ref kl, .null, .ref tl])), (kl, .inr (6, [.int 0, .ref (κ 0), .int 0]))] sz) t) (va_A [(m0, .inr (16, [.int 0, .ref kl, .null, .ref tl])), (kl, .inr (6, [.int 0, .ref (κ 0), .int 0]))] sz)) 0 0 (va_A [(m0, .inr (16, [.int 0, .ref kl, .null, .ref tl])), (kl, .inr (6, [.int 0, .ref (κ 0), .int 0]))] sz) := by
  refine Met.ofW (cc := cX9_parent) (maxL := 2) (ret := (some .int)) (by decide +kernel) rfl ?_
  intro p e s m args below meth c s₁ B hml hv
  obtain ⟨rfl, hsz, hP, hK, hD0, hE⟩ := hv
  have hx := B.exec
  have hb := B.bytes
  have hr := B.returns
  have hts := atoms_spec (ws := wm_c_X9_parent) B.pre
  have hown : s.vm.findClass RX9 = some m.cls := findClass_of_methodNamed B.named
  have hlocks := B.notSynchronized
  have iRX9 : ∀ w ∈ u_ws RX9 TX9 4, w ∈ wm_c_X9_parent := by decide +kernel
  have iRJx4a65c : ∀ w ∈ u_ws RJx4a65c TJx4a65c 3, w ∈ wm_c_X9_parent := by decide +kernel
  subst hsz
  have hD := hD0.self (sz := s.heap.size)
  generalize hAe : va_A [(m0, .inr (16, [.int 0, .ref kl, .null, .ref tl])), (kl, .inr (6, [.int 0, .ref (κ 0), .int 0]))] s.heap.size = A at hD hE ⊢
  have hA : ∀ q : Nat, s.heap.size ≤ q → A q := fun q h => by rw [← hAe]; exact Or.inr h
  have hS : va_S A s.heap s.heap [] := va_S.rf
  have hl := lv_entry ([.ref m0, .int p0]) (n := 2) (Nat.le_of_ble_eq_true rfl)
  rw [lg_entry_eq]
  generalize (lg_sl ([.ref m0, .int p0]) ++ List.replicate (2 - (lg_sl ([.ref m0, .int p0])).length) Slot.unset).toArray = ls at hl ⊢
  have hl : lv_has ls 2 [(0, .ref m0), (1, .int p0)] := hl
  refine lv_aload_n hx hb dX9_parent_0 rfl (lv_at hl 0 rfl) ?_
  have hS0 := hS
  have hFc := va_free (wc := [(m0, .inr (16, [.int 0, .ref kl, .null, .ref tl]))]) hD hS hA [0] rfl
  refine va_callv (va_runV (As := []) (rest := []) ⟨hx, hb, hml, hown, hts⟩ (c_X9_begins l κ D (s.heap).size (m0) (kl) (tl) (0) ) (cwV 0 hts gd_c_X9_parent_1 rfl rfl rfl (by decide +kernel) ⟨(Nat.le_of_ble_eq_true rfl), (Nat.le_of_ble_eq_true rfl)⟩) (preV hE hK hP hD hS hA [0] rfl (by decide) [] rfl (va_recv hK hP (ci := 16) (q0 := 0) rfl rfl)) rfl rfl hl.1 rfl (lv_room (Nat.le_of_ble_eq_true rfl)) dX9_parent_1 ⟨(Nat.le_of_ble_eq_true rfl), (Nat.le_of_ble_eq_true rfl)⟩) hS (fun q _ h => hFc q h) hFc (fun u t H1 locs ht hvm hw hB hz1 hk1 hS => ?_)
  try dsimp only at hw
  obtain ⟨hP, hD, hK⟩ := jn (wc := [(m0, .inr (16, [.int 0, .ref kl, .null, .ref tl]))]) (wr := [(kl, .inr (6, [.int 0, .ref (κ 0), .int 0]))]) (w1 := [(m0, .inr (16, [.int 0, .ref kl, .null, .ref tl]))]) (t1 := []) hP hD hK hS0 hA [0] [1] rfl rfl (by decide) (by decide) ht hvm hk1 hB
  generalize H1 = H at hP hS ⊢
  have hP : va_P D vwCl ([(kl, .inr (6, [.int 0, .ref (κ 0), .int 0])), (m0, .inr (16, [.int 0, .ref kl, .null, .ref tl]))]) H := hP
  have hD : va_D A ([(kl, .inr (6, [.int 0, .ref (κ 0), .int 0])), (m0, .inr (16, [.int 0, .ref kl, .null, .ref tl]))]) := hD
  have hK : va_K D vwCl [] s := hK
  refine W.widen (k := 0) (n := 0) (Nat.le_of_ble_eq_true rfl) (Nat.le_of_ble_eq_true rfl) ?_
  refine lv_aload_n hx hb dX9_parent_4 rfl (lv_at hl 0 rfl) ?_
  refine lv_aload_n hx hb dX9_parent_5 rfl (lv_at hl 0 rfl) ?_
  refine va_get (D := D) (ci := 16) (v := .ref kl) (C := RX9) (T := TX9) (N := 4) hx hb hts iRX9 hown hK hP 1 rfl rfl 1 (by decide) (hts (.fieldLink RX9 10 "SowingcourtModel" "kinds" "Ljava/util/List;") (by decide +kernel)) (fun _ h9 => h9) rfl dX9_parent_6 ?_
  refine lv_iload_n hx hb dX9_parent_9 rfl (lv_at hl 1 rfl) ?_
  have hS0 := hS
  have hFc := va_free (wc := [(kl, .inr (6, [.int 0, .ref (κ 0), .int 0]))]) hD hS hA [0] rfl
  refine va_calli (va_runS (As := [.ref kl, .int p0]) (rest := [.ref m0]) ⟨hx, hb, hml, hown, hts⟩ (c_X9_isOf l κ D (H).size (kl) (p0) ) (va_cwS 2 hts gd_c_X9_parent_10 rfl rfl rfl (by decide +kernel) ⟨(Nat.le_of_ble_eq_true rfl), (Nat.le_of_ble_eq_true rfl)⟩) (preS hE hK hP hD hS hA [0] rfl (by decide) [] rfl) rfl rfl hl.1 rfl (lv_room (Nat.le_of_ble_eq_true rfl)) dX9_parent_10 ⟨(Nat.le_of_ble_eq_true rfl), (Nat.le_of_ble_eq_true rfl)⟩) hS (fun q _ h => hFc q h) hFc (fun r_2 u t H1 locs ht hvm hw hB hz1 hk1 hS => ?_)
  try dsimp only at hw
  obtain ⟨hP, hD, hK⟩ := jn (wc := [(kl, .inr (6, [.int 0, .ref (κ 0), .int 0]))]) (wr := [(m0, .inr (16, [.int 0, .ref kl, .null, .ref tl]))]) (w1 := [(kl, .inr (6, [.int 0, .ref (κ 0), .int 0]))]) (t1 := []) hP hD hK hS0 hA [0] [1] rfl rfl (by decide) (by decide) ht hvm hk1 hB
  generalize H1 = H at hP hS ⊢
  have hP : va_P D vwCl ([(m0, .inr (16, [.int 0, .ref kl, .null, .ref tl])), (kl, .inr (6, [.int 0, .ref (κ 0), .int 0]))]) H := hP
  have hD : va_D A ([(m0, .inr (16, [.int 0, .ref kl, .null, .ref tl])), (kl, .inr (6, [.int 0, .ref (κ 0), .int 0]))]) := hD
  have hK : va_K D vwCl [] s := hK
  refine W.widen (k := 0) (n := 0) (Nat.le_of_ble_eq_true rfl) (Nat.le_of_ble_eq_true rfl) ?_
  subst hw
  refine lv_if_ne (tgt := 20) hx hb dX9_parent_13 (by decide) (fun c_13 => absurd c_13 (by decide)) (fun _ => ?_)
  refine lv_iconst (v := 1) hx hb dX9_parent_16 (by decide) ?_
  refine lv_goto (tgt := 21) hx hb dX9_parent_17 (by decide) ?_
  refine lv_iconst (v := 1) hx hb dX9_parent_21 (by decide) ?_
  have hS0 := hS
  have hFc := va_free (wc := [(m0, .inr (16, [.int 0, .ref kl, .null, .ref tl]))]) hD hS hA [0] rfl
  refine va_calli (va_runV (As := [.int 1, .int 1]) (rest := []) ⟨hx, hb, hml, hown, hts⟩ (c_X9_fails_1 l κ D (H).size (m0) (kl) (tl) ) (cwV 2 hts gd_c_X9_parent_22 rfl rfl rfl (by decide +kernel) ⟨(Nat.le_of_ble_eq_true rfl), (Nat.le_of_ble_eq_true rfl)⟩) (preV hE hK hP hD hS hA [0] rfl (by decide) [] rfl (va_recv hK hP (ci := 16) (q0 := 0) rfl rfl)) rfl rfl hl.1 rfl (lv_room (Nat.le_of_ble_eq_true rfl)) dX9_parent_22 ⟨(Nat.le_of_ble_eq_true rfl), (Nat.le_of_ble_eq_true rfl)⟩) hS (fun q _ h => hFc q h) hFc (fun r_3 u t H1 locs ht hvm hw hB hz1 hk1 hS => ?_)
  try dsimp only at hw
  obtain ⟨hP, hD, hK⟩ := jn (wc := [(m0, .inr (16, [.int 0, .ref kl, .null, .ref tl]))]) (wr := [(kl, .inr (6, [.int 0, .ref (κ 0), .int 0]))]) (w1 := [(m0, .inr (16, [.int 1, .ref kl, .null, .ref tl]))]) (t1 := []) hP hD hK hS0 hA [0] [1] rfl rfl (by decide) (by decide) ht hvm hk1 hB
  generalize H1 = H at hP hS ⊢
  have hP : va_P D vwCl ([(kl, .inr (6, [.int 0, .ref (κ 0), .int 0])), (m0, .inr (16, [.int 1, .ref kl, .null, .ref tl]))]) H := hP
  have hD : va_D A ([(kl, .inr (6, [.int 0, .ref (κ 0), .int 0])), (m0, .inr (16, [.int 1, .ref kl, .null, .ref tl]))]) := hD
  have hK : va_K D vwCl [] s := hK
  refine W.widen (k := 0) (n := 0) (Nat.le_of_ble_eq_true rfl) (Nat.le_of_ble_eq_true rfl) ?_
  subst hw
  refine lv_if_ne (tgt := 45) hx hb dX9_parent_25 (by decide) (fun _ => ?_) (fun c_25 => absurd c_25 (by decide))
  refine lv_iconst (v := (-1)) hx hb dX9_parent_45 (by decide) ?_
  refine lv_goto (tgt := 54) hx hb dX9_parent_46 (by decide) ?_
  refine W.widen (k := 0) (n := 0) (Nat.le_of_ble_eq_true rfl) (Nat.le_of_ble_eq_true rfl) ?_
  exact W.iret (v := (-1)) hx hb hr (fun t ht hW => ⟨⟨(-1), (), rfl, trivial, PB.at hP hK hD hW.alike ht [1] rfl (by decide) [] rfl⟩, hS.F ht⟩) hS.2.2 dX9_parent_54

def wm_c_X9_start : List Cond := .code yX9_start cX9_start 3 (some .int) :: ([.code yX9_begins cX9_begins 1 none, .fieldLink RX9 19 "SowingcourtModel" "thrown" "I", .methodLink RX9 33 yX9_begins, .instanceMethod yX9_begins, .selects RX9 yX9_begins yX9_begins, .initialized RX9, .fieldLink RX9 10 "SowingcourtModel" "kinds" "Ljava/util/List;", .code yX9_isOf cX9_isOf 2 (some .boolean), .code yJx4a65c_size_8abf5 cJx4a65c_size_8abf5 1 (some .int), .fieldLink RJx4a65c 48 "java/util/ArrayList" "size" "I", .methodLink RX9 23 ⟨"java/util/List", "size", "()I"⟩, .selects RJx4a65c ⟨"java/util/List", "size", "()I"⟩ yJx4a65c_size_8abf5, .instanceMethod yJx4a65c_size_8abf5, .initialized RJx4a65c, .code yX9_in cX9_in 6 (some .boolean), .methodLink RX9 29 yX9_in, .static yX9_in, .methodLink RX9 74 yX9_isOf, .static yX9_isOf, .code yX9_fails cX9_fails 3 (some .boolean), .methodLink RX9 50 yX9_fails, .instanceMethod yX9_fails, .selects RX9 yX9_fails yX9_fails] ++ wsX90 ++ wsJx4a65c0)
set_option maxRecDepth 20000 in
theorem gd_c_X9_start_1 : GoodIn wm_c_X9_start (wsV RX9 33 RX9 yX9_begins wm_c_X9_begins) := goodIn_of _ (by decide +kernel)
set_option maxRecDepth 20000 in
theorem gd_c_X9_start_10 : GoodIn wm_c_X9_start (va_wsS RX9 74 yX9_isOf wm_c_X9_isOf) := goodIn_of _ (by decide +kernel)
set_option maxRecDepth 20000 in
theorem gd_c_X9_start_22 : GoodIn wm_c_X9_start (wsV RX9 50 RX9 yX9_fails wm_c_X9_fails_1) := goodIn_of _ (by decide +kernel)
set_option maxHeartbeats 4000000 in
set_option maxRecDepth 100000 in
theorem c_X9_start (l : Launch) (κ : Nat → Nat) (D : va_G) (sz : Nat) (m0 : Nat) (kl : Nat) (tl : Nat) (p0 : Int32)  : Met l yX9_start wm_c_X9_start ({ frames := 11, cells := 0, slots := 0, locals := 380 }) (va_Pc [.ref m0, .int p0] (PC κ D [] [(m0, .inr (16, [.int 0, .ref kl, .null, .ref tl])), (kl, .inr (6, [.int 0, .ref (κ 0), .int 0]))] sz)) (va_Qi (fun (r : Int32) (_ : Unit) => True) (fun _ t => PB D [] [(m0, .inr (16, [.int 1, .ref kl, .null, .ref tl]))] (va_A [(m0, .inr (16, [.int 0, .ref kl, .null, .ref tl])), (kl, .inr (6, [.int 0, .ref (κ 0), .int 0]))] sz) t) (va_A [(m0, .inr (16, [.int 0, .ref kl, .null, .ref tl])), (kl, .inr (6, [.int 0, .ref (κ 0), .int 0]))] sz)) 0 0 (va_A [(m0, .inr (16, [.int 0, .ref kl, .null, .ref tl])), (kl, .inr (6, [.int 0, .ref (κ 0), .int 0]))] sz) := by
  refine Met.ofW (cc := cX9_start) (maxL := 3) (ret := (some .int)) (by decide +kernel) rfl ?_
  intro p e s m args below meth c s₁ B hml hv
  obtain ⟨rfl, hsz, hP, hK, hD0, hE⟩ := hv
  have hx := B.exec
  have hb := B.bytes
  have hr := B.returns
  have hts := atoms_spec (ws := wm_c_X9_start) B.pre
  have hown : s.vm.findClass RX9 = some m.cls := findClass_of_methodNamed B.named
  have hlocks := B.notSynchronized
  have iRX9 : ∀ w ∈ u_ws RX9 TX9 4, w ∈ wm_c_X9_start := by decide +kernel
  have iRJx4a65c : ∀ w ∈ u_ws RJx4a65c TJx4a65c 3, w ∈ wm_c_X9_start := by decide +kernel
  subst hsz
  have hD := hD0.self (sz := s.heap.size)
  generalize hAe : va_A [(m0, .inr (16, [.int 0, .ref kl, .null, .ref tl])), (kl, .inr (6, [.int 0, .ref (κ 0), .int 0]))] s.heap.size = A at hD hE ⊢
  have hA : ∀ q : Nat, s.heap.size ≤ q → A q := fun q h => by rw [← hAe]; exact Or.inr h
  have hS : va_S A s.heap s.heap [] := va_S.rf
  have hl := lv_entry ([.ref m0, .int p0]) (n := 3) (Nat.le_of_ble_eq_true rfl)
  rw [lg_entry_eq]
  generalize (lg_sl ([.ref m0, .int p0]) ++ List.replicate (3 - (lg_sl ([.ref m0, .int p0])).length) Slot.unset).toArray = ls at hl ⊢
  have hl : lv_has ls 3 [(0, .ref m0), (1, .int p0)] := hl
  refine lv_aload_n hx hb dX9_start_0 rfl (lv_at hl 0 rfl) ?_
  have hS0 := hS
  have hFc := va_free (wc := [(m0, .inr (16, [.int 0, .ref kl, .null, .ref tl]))]) hD hS hA [0] rfl
  refine va_callv (va_runV (As := []) (rest := []) ⟨hx, hb, hml, hown, hts⟩ (c_X9_begins l κ D (s.heap).size (m0) (kl) (tl) (0) ) (cwV 0 hts gd_c_X9_start_1 rfl rfl rfl (by decide +kernel) ⟨(Nat.le_of_ble_eq_true rfl), (Nat.le_of_ble_eq_true rfl)⟩) (preV hE hK hP hD hS hA [0] rfl (by decide) [] rfl (va_recv hK hP (ci := 16) (q0 := 0) rfl rfl)) rfl rfl hl.1 rfl (lv_room (Nat.le_of_ble_eq_true rfl)) dX9_start_1 ⟨(Nat.le_of_ble_eq_true rfl), (Nat.le_of_ble_eq_true rfl)⟩) hS (fun q _ h => hFc q h) hFc (fun u t H1 locs ht hvm hw hB hz1 hk1 hS => ?_)
  try dsimp only at hw
  obtain ⟨hP, hD, hK⟩ := jn (wc := [(m0, .inr (16, [.int 0, .ref kl, .null, .ref tl]))]) (wr := [(kl, .inr (6, [.int 0, .ref (κ 0), .int 0]))]) (w1 := [(m0, .inr (16, [.int 0, .ref kl, .null, .ref tl]))]) (t1 := []) hP hD hK hS0 hA [0] [1] rfl rfl (by decide) (by decide) ht hvm hk1 hB
  generalize H1 = H at hP hS ⊢
  have hP : va_P D vwCl ([(kl, .inr (6, [.int 0, .ref (κ 0), .int 0])), (m0, .inr (16, [.int 0, .ref kl, .null, .ref tl]))]) H := hP
  have hD : va_D A ([(kl, .inr (6, [.int 0, .ref (κ 0), .int 0])), (m0, .inr (16, [.int 0, .ref kl, .null, .ref tl]))]) := hD
  have hK : va_K D vwCl [] s := hK
  refine W.widen (k := 0) (n := 0) (Nat.le_of_ble_eq_true rfl) (Nat.le_of_ble_eq_true rfl) ?_
  refine lv_aload_n hx hb dX9_start_4 rfl (lv_at hl 0 rfl) ?_
  refine lv_aload_n hx hb dX9_start_5 rfl (lv_at hl 0 rfl) ?_
  refine va_get (D := D) (ci := 16) (v := .ref kl) (C := RX9) (T := TX9) (N := 4) hx hb hts iRX9 hown hK hP 1 rfl rfl 1 (by decide) (hts (.fieldLink RX9 10 "SowingcourtModel" "kinds" "Ljava/util/List;") (by decide +kernel)) (fun _ h9 => h9) rfl dX9_start_6 ?_
  refine lv_iload_n hx hb dX9_start_9 rfl (lv_at hl 1 rfl) ?_
  have hS0 := hS
  have hFc := va_free (wc := [(kl, .inr (6, [.int 0, .ref (κ 0), .int 0]))]) hD hS hA [0] rfl
  refine va_calli (va_runS (As := [.ref kl, .int p0]) (rest := [.ref m0]) ⟨hx, hb, hml, hown, hts⟩ (c_X9_isOf l κ D (H).size (kl) (p0) ) (va_cwS 2 hts gd_c_X9_start_10 rfl rfl rfl (by decide +kernel) ⟨(Nat.le_of_ble_eq_true rfl), (Nat.le_of_ble_eq_true rfl)⟩) (preS hE hK hP hD hS hA [0] rfl (by decide) [] rfl) rfl rfl hl.1 rfl (lv_room (Nat.le_of_ble_eq_true rfl)) dX9_start_10 ⟨(Nat.le_of_ble_eq_true rfl), (Nat.le_of_ble_eq_true rfl)⟩) hS (fun q _ h => hFc q h) hFc (fun r_2 u t H1 locs ht hvm hw hB hz1 hk1 hS => ?_)
  try dsimp only at hw
  obtain ⟨hP, hD, hK⟩ := jn (wc := [(kl, .inr (6, [.int 0, .ref (κ 0), .int 0]))]) (wr := [(m0, .inr (16, [.int 0, .ref kl, .null, .ref tl]))]) (w1 := [(kl, .inr (6, [.int 0, .ref (κ 0), .int 0]))]) (t1 := []) hP hD hK hS0 hA [0] [1] rfl rfl (by decide) (by decide) ht hvm hk1 hB
  generalize H1 = H at hP hS ⊢
  have hP : va_P D vwCl ([(m0, .inr (16, [.int 0, .ref kl, .null, .ref tl])), (kl, .inr (6, [.int 0, .ref (κ 0), .int 0]))]) H := hP
  have hD : va_D A ([(m0, .inr (16, [.int 0, .ref kl, .null, .ref tl])), (kl, .inr (6, [.int 0, .ref (κ 0), .int 0]))]) := hD
  have hK : va_K D vwCl [] s := hK
  refine W.widen (k := 0) (n := 0) (Nat.le_of_ble_eq_true rfl) (Nat.le_of_ble_eq_true rfl) ?_
  subst hw
  refine lv_if_ne (tgt := 20) hx hb dX9_start_13 (by decide) (fun c_13 => absurd c_13 (by decide)) (fun _ => ?_)
  refine lv_iconst (v := 1) hx hb dX9_start_16 (by decide) ?_
  refine lv_goto (tgt := 21) hx hb dX9_start_17 (by decide) ?_
  refine lv_iconst (v := 1) hx hb dX9_start_21 (by decide) ?_
  have hS0 := hS
  have hFc := va_free (wc := [(m0, .inr (16, [.int 0, .ref kl, .null, .ref tl]))]) hD hS hA [0] rfl
  refine va_calli (va_runV (As := [.int 1, .int 1]) (rest := []) ⟨hx, hb, hml, hown, hts⟩ (c_X9_fails_1 l κ D (H).size (m0) (kl) (tl) ) (cwV 2 hts gd_c_X9_start_22 rfl rfl rfl (by decide +kernel) ⟨(Nat.le_of_ble_eq_true rfl), (Nat.le_of_ble_eq_true rfl)⟩) (preV hE hK hP hD hS hA [0] rfl (by decide) [] rfl (va_recv hK hP (ci := 16) (q0 := 0) rfl rfl)) rfl rfl hl.1 rfl (lv_room (Nat.le_of_ble_eq_true rfl)) dX9_start_22 ⟨(Nat.le_of_ble_eq_true rfl), (Nat.le_of_ble_eq_true rfl)⟩) hS (fun q _ h => hFc q h) hFc (fun r_3 u t H1 locs ht hvm hw hB hz1 hk1 hS => ?_)
  try dsimp only at hw
  obtain ⟨hP, hD, hK⟩ := jn (wc := [(m0, .inr (16, [.int 0, .ref kl, .null, .ref tl]))]) (wr := [(kl, .inr (6, [.int 0, .ref (κ 0), .int 0]))]) (w1 := [(m0, .inr (16, [.int 1, .ref kl, .null, .ref tl]))]) (t1 := []) hP hD hK hS0 hA [0] [1] rfl rfl (by decide) (by decide) ht hvm hk1 hB
  generalize H1 = H at hP hS ⊢
  have hP : va_P D vwCl ([(kl, .inr (6, [.int 0, .ref (κ 0), .int 0])), (m0, .inr (16, [.int 1, .ref kl, .null, .ref tl]))]) H := hP
  have hD : va_D A ([(kl, .inr (6, [.int 0, .ref (κ 0), .int 0])), (m0, .inr (16, [.int 1, .ref kl, .null, .ref tl]))]) := hD
  have hK : va_K D vwCl [] s := hK
  refine W.widen (k := 0) (n := 0) (Nat.le_of_ble_eq_true rfl) (Nat.le_of_ble_eq_true rfl) ?_
  subst hw
  refine lv_if_eq (tgt := 30) hx hb dX9_start_25 (by decide) (fun c_25 => absurd c_25 (by decide)) (fun _ => ?_)
  refine lv_iconst (v := (-1)) hx hb dX9_start_28 (by decide) ?_
  refine W.widen (k := 0) (n := 0) (Nat.le_of_ble_eq_true rfl) (Nat.le_of_ble_eq_true rfl) ?_
  exact W.iret (v := (-1)) hx hb hr (fun t ht hW => ⟨⟨(-1), (), rfl, trivial, PB.at hP hK hD hW.alike ht [1] rfl (by decide) [] rfl⟩, hS.F ht⟩) hS.2.2 dX9_start_29

def wm_c_X9_play : List Cond := .code yX9_play cX9_play 11 (some .int) :: ([.code yX9_begins cX9_begins 1 none, .fieldLink RX9 19 "SowingcourtModel" "thrown" "I", .methodLink RX9 33 yX9_begins, .instanceMethod yX9_begins, .selects RX9 yX9_begins yX9_begins, .initialized RX9, .fieldLink RX9 10 "SowingcourtModel" "kinds" "Ljava/util/List;", .code yX9_isOf cX9_isOf 2 (some .boolean), .code yJx4a65c_size_8abf5 cJx4a65c_size_8abf5 1 (some .int), .fieldLink RJx4a65c 48 "java/util/ArrayList" "size" "I", .methodLink RX9 23 ⟨"java/util/List", "size", "()I"⟩, .selects RJx4a65c ⟨"java/util/List", "size", "()I"⟩ yJx4a65c_size_8abf5, .instanceMethod yJx4a65c_size_8abf5, .initialized RJx4a65c, .code yX9_in cX9_in 6 (some .boolean), .methodLink RX9 29 yX9_in, .static yX9_in, .methodLink RX9 74 yX9_isOf, .static yX9_isOf, .code yX9_fails cX9_fails 3 (some .boolean), .methodLink RX9 50 yX9_fails, .instanceMethod yX9_fails, .selects RX9 yX9_fails yX9_fails] ++ wsX90 ++ wsJx4a65c0)
set_option maxRecDepth 20000 in
theorem gd_c_X9_play_1 : GoodIn wm_c_X9_play (wsV RX9 33 RX9 yX9_begins wm_c_X9_begins) := goodIn_of _ (by decide +kernel)
set_option maxRecDepth 20000 in
theorem gd_c_X9_play_10 : GoodIn wm_c_X9_play (va_wsS RX9 74 yX9_isOf wm_c_X9_isOf) := goodIn_of _ (by decide +kernel)
set_option maxRecDepth 20000 in
theorem gd_c_X9_play_22 : GoodIn wm_c_X9_play (wsV RX9 50 RX9 yX9_fails wm_c_X9_fails_1) := goodIn_of _ (by decide +kernel)
set_option maxHeartbeats 4000000 in
set_option maxRecDepth 100000 in
theorem c_X9_play (l : Launch) (κ : Nat → Nat) (D : va_G) (sz : Nat) (m0 : Nat) (kl : Nat) (tl : Nat) (p0 : Int32) (p1 : Int32)  : Met l yX9_play wm_c_X9_play ({ frames := 11, cells := 0, slots := 0, locals := 380 }) (va_Pc [.ref m0, .int p0, .int p1] (PC κ D [] [(m0, .inr (16, [.int 0, .ref kl, .null, .ref tl])), (kl, .inr (6, [.int 0, .ref (κ 0), .int 0]))] sz)) (va_Qi (fun (r : Int32) (_ : Unit) => True) (fun _ t => PB D [] [(m0, .inr (16, [.int 1, .ref kl, .null, .ref tl]))] (va_A [(m0, .inr (16, [.int 0, .ref kl, .null, .ref tl])), (kl, .inr (6, [.int 0, .ref (κ 0), .int 0]))] sz) t) (va_A [(m0, .inr (16, [.int 0, .ref kl, .null, .ref tl])), (kl, .inr (6, [.int 0, .ref (κ 0), .int 0]))] sz)) 0 0 (va_A [(m0, .inr (16, [.int 0, .ref kl, .null, .ref tl])), (kl, .inr (6, [.int 0, .ref (κ 0), .int 0]))] sz) := by
  refine Met.ofW (cc := cX9_play) (maxL := 11) (ret := (some .int)) (by decide +kernel) rfl ?_
  intro p e s m args below meth c s₁ B hml hv
  obtain ⟨rfl, hsz, hP, hK, hD0, hE⟩ := hv
  have hx := B.exec
  have hb := B.bytes
  have hr := B.returns
  have hts := atoms_spec (ws := wm_c_X9_play) B.pre
  have hown : s.vm.findClass RX9 = some m.cls := findClass_of_methodNamed B.named
  have hlocks := B.notSynchronized
  have iRX9 : ∀ w ∈ u_ws RX9 TX9 4, w ∈ wm_c_X9_play := by decide +kernel
  have iRJx4a65c : ∀ w ∈ u_ws RJx4a65c TJx4a65c 3, w ∈ wm_c_X9_play := by decide +kernel
  subst hsz
  have hD := hD0.self (sz := s.heap.size)
  generalize hAe : va_A [(m0, .inr (16, [.int 0, .ref kl, .null, .ref tl])), (kl, .inr (6, [.int 0, .ref (κ 0), .int 0]))] s.heap.size = A at hD hE ⊢
  have hA : ∀ q : Nat, s.heap.size ≤ q → A q := fun q h => by rw [← hAe]; exact Or.inr h
  have hS : va_S A s.heap s.heap [] := va_S.rf
  have hl := lv_entry ([.ref m0, .int p0, .int p1]) (n := 11) (Nat.le_of_ble_eq_true rfl)
  rw [lg_entry_eq]
  generalize (lg_sl ([.ref m0, .int p0, .int p1]) ++ List.replicate (11 - (lg_sl ([.ref m0, .int p0, .int p1])).length) Slot.unset).toArray = ls at hl ⊢
  have hl : lv_has ls 11 [(0, .ref m0), (1, .int p0), (2, .int p1)] := hl
  refine lv_aload_n hx hb dX9_play_0 rfl (lv_at hl 0 rfl) ?_
  have hS0 := hS
  have hFc := va_free (wc := [(m0, .inr (16, [.int 0, .ref kl, .null, .ref tl]))]) hD hS hA [0] rfl
  refine va_callv (va_runV (As := []) (rest := []) ⟨hx, hb, hml, hown, hts⟩ (c_X9_begins l κ D (s.heap).size (m0) (kl) (tl) (0) ) (cwV 0 hts gd_c_X9_play_1 rfl rfl rfl (by decide +kernel) ⟨(Nat.le_of_ble_eq_true rfl), (Nat.le_of_ble_eq_true rfl)⟩) (preV hE hK hP hD hS hA [0] rfl (by decide) [] rfl (va_recv hK hP (ci := 16) (q0 := 0) rfl rfl)) rfl rfl hl.1 rfl (lv_room (Nat.le_of_ble_eq_true rfl)) dX9_play_1 ⟨(Nat.le_of_ble_eq_true rfl), (Nat.le_of_ble_eq_true rfl)⟩) hS (fun q _ h => hFc q h) hFc (fun u t H1 locs ht hvm hw hB hz1 hk1 hS => ?_)
  try dsimp only at hw
  obtain ⟨hP, hD, hK⟩ := jn (wc := [(m0, .inr (16, [.int 0, .ref kl, .null, .ref tl]))]) (wr := [(kl, .inr (6, [.int 0, .ref (κ 0), .int 0]))]) (w1 := [(m0, .inr (16, [.int 0, .ref kl, .null, .ref tl]))]) (t1 := []) hP hD hK hS0 hA [0] [1] rfl rfl (by decide) (by decide) ht hvm hk1 hB
  generalize H1 = H at hP hS ⊢
  have hP : va_P D vwCl ([(kl, .inr (6, [.int 0, .ref (κ 0), .int 0])), (m0, .inr (16, [.int 0, .ref kl, .null, .ref tl]))]) H := hP
  have hD : va_D A ([(kl, .inr (6, [.int 0, .ref (κ 0), .int 0])), (m0, .inr (16, [.int 0, .ref kl, .null, .ref tl]))]) := hD
  have hK : va_K D vwCl [] s := hK
  refine W.widen (k := 0) (n := 0) (Nat.le_of_ble_eq_true rfl) (Nat.le_of_ble_eq_true rfl) ?_
  refine lv_aload_n hx hb dX9_play_4 rfl (lv_at hl 0 rfl) ?_
  refine lv_aload_n hx hb dX9_play_5 rfl (lv_at hl 0 rfl) ?_
  refine va_get (D := D) (ci := 16) (v := .ref kl) (C := RX9) (T := TX9) (N := 4) hx hb hts iRX9 hown hK hP 1 rfl rfl 1 (by decide) (hts (.fieldLink RX9 10 "SowingcourtModel" "kinds" "Ljava/util/List;") (by decide +kernel)) (fun _ h9 => h9) rfl dX9_play_6 ?_
  refine lv_iload_n hx hb dX9_play_9 rfl (lv_at hl 1 rfl) ?_
  have hS0 := hS
  have hFc := va_free (wc := [(kl, .inr (6, [.int 0, .ref (κ 0), .int 0]))]) hD hS hA [0] rfl
  refine va_calli (va_runS (As := [.ref kl, .int p0]) (rest := [.ref m0]) ⟨hx, hb, hml, hown, hts⟩ (c_X9_isOf l κ D (H).size (kl) (p0) ) (va_cwS 2 hts gd_c_X9_play_10 rfl rfl rfl (by decide +kernel) ⟨(Nat.le_of_ble_eq_true rfl), (Nat.le_of_ble_eq_true rfl)⟩) (preS hE hK hP hD hS hA [0] rfl (by decide) [] rfl) rfl rfl hl.1 rfl (lv_room (Nat.le_of_ble_eq_true rfl)) dX9_play_10 ⟨(Nat.le_of_ble_eq_true rfl), (Nat.le_of_ble_eq_true rfl)⟩) hS (fun q _ h => hFc q h) hFc (fun r_2 u t H1 locs ht hvm hw hB hz1 hk1 hS => ?_)
  try dsimp only at hw
  obtain ⟨hP, hD, hK⟩ := jn (wc := [(kl, .inr (6, [.int 0, .ref (κ 0), .int 0]))]) (wr := [(m0, .inr (16, [.int 0, .ref kl, .null, .ref tl]))]) (w1 := [(kl, .inr (6, [.int 0, .ref (κ 0), .int 0]))]) (t1 := []) hP hD hK hS0 hA [0] [1] rfl rfl (by decide) (by decide) ht hvm hk1 hB
  generalize H1 = H at hP hS ⊢
  have hP : va_P D vwCl ([(m0, .inr (16, [.int 0, .ref kl, .null, .ref tl])), (kl, .inr (6, [.int 0, .ref (κ 0), .int 0]))]) H := hP
  have hD : va_D A ([(m0, .inr (16, [.int 0, .ref kl, .null, .ref tl])), (kl, .inr (6, [.int 0, .ref (κ 0), .int 0]))]) := hD
  have hK : va_K D vwCl [] s := hK
  refine W.widen (k := 0) (n := 0) (Nat.le_of_ble_eq_true rfl) (Nat.le_of_ble_eq_true rfl) ?_
  subst hw
  refine lv_if_ne (tgt := 20) hx hb dX9_play_13 (by decide) (fun c_13 => absurd c_13 (by decide)) (fun _ => ?_)
  refine lv_iconst (v := 1) hx hb dX9_play_16 (by decide) ?_
  refine lv_goto (tgt := 21) hx hb dX9_play_17 (by decide) ?_
  refine lv_iconst (v := 1) hx hb dX9_play_21 (by decide) ?_
  have hS0 := hS
  have hFc := va_free (wc := [(m0, .inr (16, [.int 0, .ref kl, .null, .ref tl]))]) hD hS hA [0] rfl
  refine va_calli (va_runV (As := [.int 1, .int 1]) (rest := []) ⟨hx, hb, hml, hown, hts⟩ (c_X9_fails_1 l κ D (H).size (m0) (kl) (tl) ) (cwV 2 hts gd_c_X9_play_22 rfl rfl rfl (by decide +kernel) ⟨(Nat.le_of_ble_eq_true rfl), (Nat.le_of_ble_eq_true rfl)⟩) (preV hE hK hP hD hS hA [0] rfl (by decide) [] rfl (va_recv hK hP (ci := 16) (q0 := 0) rfl rfl)) rfl rfl hl.1 rfl (lv_room (Nat.le_of_ble_eq_true rfl)) dX9_play_22 ⟨(Nat.le_of_ble_eq_true rfl), (Nat.le_of_ble_eq_true rfl)⟩) hS (fun q _ h => hFc q h) hFc (fun r_3 u t H1 locs ht hvm hw hB hz1 hk1 hS => ?_)
  try dsimp only at hw
  obtain ⟨hP, hD, hK⟩ := jn (wc := [(m0, .inr (16, [.int 0, .ref kl, .null, .ref tl]))]) (wr := [(kl, .inr (6, [.int 0, .ref (κ 0), .int 0]))]) (w1 := [(m0, .inr (16, [.int 1, .ref kl, .null, .ref tl]))]) (t1 := []) hP hD hK hS0 hA [0] [1] rfl rfl (by decide) (by decide) ht hvm hk1 hB
  generalize H1 = H at hP hS ⊢
  have hP : va_P D vwCl ([(kl, .inr (6, [.int 0, .ref (κ 0), .int 0])), (m0, .inr (16, [.int 1, .ref kl, .null, .ref tl]))]) H := hP
  have hD : va_D A ([(kl, .inr (6, [.int 0, .ref (κ 0), .int 0])), (m0, .inr (16, [.int 1, .ref kl, .null, .ref tl]))]) := hD
  have hK : va_K D vwCl [] s := hK
  refine W.widen (k := 0) (n := 0) (Nat.le_of_ble_eq_true rfl) (Nat.le_of_ble_eq_true rfl) ?_
  subst hw
  refine lv_if_ne (tgt := 50) hx hb dX9_play_25 (by decide) (fun _ => ?_) (fun c_25 => absurd c_25 (by decide))
  refine lv_iconst (v := (-1)) hx hb dX9_play_50 (by decide) ?_
  refine W.widen (k := 0) (n := 0) (Nat.le_of_ble_eq_true rfl) (Nat.le_of_ble_eq_true rfl) ?_
  exact W.iret (v := (-1)) hx hb hr (fun t ht hW => ⟨⟨(-1), (), rfl, trivial, PB.at hP hK hD hW.alike ht [1] rfl (by decide) [] rfl⟩, hS.F ht⟩) hS.2.2 dX9_play_51

def wm_c_X9_explains : List Cond := .code yX9_explains cX9_explains 2 (some .int) :: ([.code yX9_begins cX9_begins 1 none, .fieldLink RX9 19 "SowingcourtModel" "thrown" "I", .methodLink RX9 33 yX9_begins, .instanceMethod yX9_begins, .selects RX9 yX9_begins yX9_begins, .initialized RX9, .fieldLink RX9 10 "SowingcourtModel" "kinds" "Ljava/util/List;", .code yX9_isOf cX9_isOf 2 (some .boolean), .code yJx4a65c_size_8abf5 cJx4a65c_size_8abf5 1 (some .int), .fieldLink RJx4a65c 48 "java/util/ArrayList" "size" "I", .methodLink RX9 23 ⟨"java/util/List", "size", "()I"⟩, .selects RJx4a65c ⟨"java/util/List", "size", "()I"⟩ yJx4a65c_size_8abf5, .instanceMethod yJx4a65c_size_8abf5, .initialized RJx4a65c, .code yX9_in cX9_in 6 (some .boolean), .methodLink RX9 29 yX9_in, .static yX9_in, .methodLink RX9 74 yX9_isOf, .static yX9_isOf, .code yX9_fails cX9_fails 3 (some .boolean), .methodLink RX9 50 yX9_fails, .instanceMethod yX9_fails, .selects RX9 yX9_fails yX9_fails] ++ wsX90 ++ wsJx4a65c0)
set_option maxRecDepth 20000 in
theorem gd_c_X9_explains_1 : GoodIn wm_c_X9_explains (wsV RX9 33 RX9 yX9_begins wm_c_X9_begins) := goodIn_of _ (by decide +kernel)
set_option maxRecDepth 20000 in
theorem gd_c_X9_explains_10 : GoodIn wm_c_X9_explains (va_wsS RX9 74 yX9_isOf wm_c_X9_isOf) := goodIn_of _ (by decide +kernel)
set_option maxRecDepth 20000 in
theorem gd_c_X9_explains_22 : GoodIn wm_c_X9_explains (wsV RX9 50 RX9 yX9_fails wm_c_X9_fails_1) := goodIn_of _ (by decide +kernel)
set_option maxHeartbeats 4000000 in
set_option maxRecDepth 100000 in
theorem c_X9_explains (l : Launch) (κ : Nat → Nat) (D : va_G) (sz : Nat) (m0 : Nat) (kl : Nat) (tl : Nat) (p0 : Int32)  : Met l yX9_explains wm_c_X9_explains ({ frames := 11, cells := 0, slots := 0, locals := 380 }) (va_Pc [.ref m0, .int p0] (PC κ D [] [(m0, .inr (16, [.int 0, .ref kl, .null, .ref tl])), (kl, .inr (6, [.int 0, .ref (κ 0), .int 0]))] sz)) (va_Qi (fun (r : Int32) (_ : Unit) => True) (fun _ t => PB D [] [(m0, .inr (16, [.int 1, .ref kl, .null, .ref tl]))] (va_A [(m0, .inr (16, [.int 0, .ref kl, .null, .ref tl])), (kl, .inr (6, [.int 0, .ref (κ 0), .int 0]))] sz) t) (va_A [(m0, .inr (16, [.int 0, .ref kl, .null, .ref tl])), (kl, .inr (6, [.int 0, .ref (κ 0), .int 0]))] sz)) 0 0 (va_A [(m0, .inr (16, [.int 0, .ref kl, .null, .ref tl])), (kl, .inr (6, [.int 0, .ref (κ 0), .int 0]))] sz) := by
  refine Met.ofW (cc := cX9_explains) (maxL := 2) (ret := (some .int)) (by decide +kernel) rfl ?_
  intro p e s m args below meth c s₁ B hml hv
  obtain ⟨rfl, hsz, hP, hK, hD0, hE⟩ := hv
  have hx := B.exec
  have hb := B.bytes
  have hr := B.returns
  have hts := atoms_spec (ws := wm_c_X9_explains) B.pre
  have hown : s.vm.findClass RX9 = some m.cls := findClass_of_methodNamed B.named
  have hlocks := B.notSynchronized
  have iRX9 : ∀ w ∈ u_ws RX9 TX9 4, w ∈ wm_c_X9_explains := by decide +kernel
  have iRJx4a65c : ∀ w ∈ u_ws RJx4a65c TJx4a65c 3, w ∈ wm_c_X9_explains := by decide +kernel
  subst hsz
  have hD := hD0.self (sz := s.heap.size)
  generalize hAe : va_A [(m0, .inr (16, [.int 0, .ref kl, .null, .ref tl])), (kl, .inr (6, [.int 0, .ref (κ 0), .int 0]))] s.heap.size = A at hD hE ⊢
  have hA : ∀ q : Nat, s.heap.size ≤ q → A q := fun q h => by rw [← hAe]; exact Or.inr h
  have hS : va_S A s.heap s.heap [] := va_S.rf
  have hl := lv_entry ([.ref m0, .int p0]) (n := 2) (Nat.le_of_ble_eq_true rfl)
  rw [lg_entry_eq]
  generalize (lg_sl ([.ref m0, .int p0]) ++ List.replicate (2 - (lg_sl ([.ref m0, .int p0])).length) Slot.unset).toArray = ls at hl ⊢
  have hl : lv_has ls 2 [(0, .ref m0), (1, .int p0)] := hl
  refine lv_aload_n hx hb dX9_explains_0 rfl (lv_at hl 0 rfl) ?_
  have hS0 := hS
  have hFc := va_free (wc := [(m0, .inr (16, [.int 0, .ref kl, .null, .ref tl]))]) hD hS hA [0] rfl
  refine va_callv (va_runV (As := []) (rest := []) ⟨hx, hb, hml, hown, hts⟩ (c_X9_begins l κ D (s.heap).size (m0) (kl) (tl) (0) ) (cwV 0 hts gd_c_X9_explains_1 rfl rfl rfl (by decide +kernel) ⟨(Nat.le_of_ble_eq_true rfl), (Nat.le_of_ble_eq_true rfl)⟩) (preV hE hK hP hD hS hA [0] rfl (by decide) [] rfl (va_recv hK hP (ci := 16) (q0 := 0) rfl rfl)) rfl rfl hl.1 rfl (lv_room (Nat.le_of_ble_eq_true rfl)) dX9_explains_1 ⟨(Nat.le_of_ble_eq_true rfl), (Nat.le_of_ble_eq_true rfl)⟩) hS (fun q _ h => hFc q h) hFc (fun u t H1 locs ht hvm hw hB hz1 hk1 hS => ?_)
  try dsimp only at hw
  obtain ⟨hP, hD, hK⟩ := jn (wc := [(m0, .inr (16, [.int 0, .ref kl, .null, .ref tl]))]) (wr := [(kl, .inr (6, [.int 0, .ref (κ 0), .int 0]))]) (w1 := [(m0, .inr (16, [.int 0, .ref kl, .null, .ref tl]))]) (t1 := []) hP hD hK hS0 hA [0] [1] rfl rfl (by decide) (by decide) ht hvm hk1 hB
  generalize H1 = H at hP hS ⊢
  have hP : va_P D vwCl ([(kl, .inr (6, [.int 0, .ref (κ 0), .int 0])), (m0, .inr (16, [.int 0, .ref kl, .null, .ref tl]))]) H := hP
  have hD : va_D A ([(kl, .inr (6, [.int 0, .ref (κ 0), .int 0])), (m0, .inr (16, [.int 0, .ref kl, .null, .ref tl]))]) := hD
  have hK : va_K D vwCl [] s := hK
  refine W.widen (k := 0) (n := 0) (Nat.le_of_ble_eq_true rfl) (Nat.le_of_ble_eq_true rfl) ?_
  refine lv_aload_n hx hb dX9_explains_4 rfl (lv_at hl 0 rfl) ?_
  refine lv_aload_n hx hb dX9_explains_5 rfl (lv_at hl 0 rfl) ?_
  refine va_get (D := D) (ci := 16) (v := .ref kl) (C := RX9) (T := TX9) (N := 4) hx hb hts iRX9 hown hK hP 1 rfl rfl 1 (by decide) (hts (.fieldLink RX9 10 "SowingcourtModel" "kinds" "Ljava/util/List;") (by decide +kernel)) (fun _ h9 => h9) rfl dX9_explains_6 ?_
  refine lv_iload_n hx hb dX9_explains_9 rfl (lv_at hl 1 rfl) ?_
  have hS0 := hS
  have hFc := va_free (wc := [(kl, .inr (6, [.int 0, .ref (κ 0), .int 0]))]) hD hS hA [0] rfl
  refine va_calli (va_runS (As := [.ref kl, .int p0]) (rest := [.ref m0]) ⟨hx, hb, hml, hown, hts⟩ (c_X9_isOf l κ D (H).size (kl) (p0) ) (va_cwS 2 hts gd_c_X9_explains_10 rfl rfl rfl (by decide +kernel) ⟨(Nat.le_of_ble_eq_true rfl), (Nat.le_of_ble_eq_true rfl)⟩) (preS hE hK hP hD hS hA [0] rfl (by decide) [] rfl) rfl rfl hl.1 rfl (lv_room (Nat.le_of_ble_eq_true rfl)) dX9_explains_10 ⟨(Nat.le_of_ble_eq_true rfl), (Nat.le_of_ble_eq_true rfl)⟩) hS (fun q _ h => hFc q h) hFc (fun r_2 u t H1 locs ht hvm hw hB hz1 hk1 hS => ?_)
  try dsimp only at hw
  obtain ⟨hP, hD, hK⟩ := jn (wc := [(kl, .inr (6, [.int 0, .ref (κ 0), .int 0]))]) (wr := [(m0, .inr (16, [.int 0, .ref kl, .null, .ref tl]))]) (w1 := [(kl, .inr (6, [.int 0, .ref (κ 0), .int 0]))]) (t1 := []) hP hD hK hS0 hA [0] [1] rfl rfl (by decide) (by decide) ht hvm hk1 hB
  generalize H1 = H at hP hS ⊢
  have hP : va_P D vwCl ([(m0, .inr (16, [.int 0, .ref kl, .null, .ref tl])), (kl, .inr (6, [.int 0, .ref (κ 0), .int 0]))]) H := hP
  have hD : va_D A ([(m0, .inr (16, [.int 0, .ref kl, .null, .ref tl])), (kl, .inr (6, [.int 0, .ref (κ 0), .int 0]))]) := hD
  have hK : va_K D vwCl [] s := hK
  refine W.widen (k := 0) (n := 0) (Nat.le_of_ble_eq_true rfl) (Nat.le_of_ble_eq_true rfl) ?_
  subst hw
  refine lv_if_ne (tgt := 20) hx hb dX9_explains_13 (by decide) (fun c_13 => absurd c_13 (by decide)) (fun _ => ?_)
  refine lv_iconst (v := 1) hx hb dX9_explains_16 (by decide) ?_
  refine lv_goto (tgt := 21) hx hb dX9_explains_17 (by decide) ?_
  refine lv_iconst (v := 1) hx hb dX9_explains_21 (by decide) ?_
  have hS0 := hS
  have hFc := va_free (wc := [(m0, .inr (16, [.int 0, .ref kl, .null, .ref tl]))]) hD hS hA [0] rfl
  refine va_calli (va_runV (As := [.int 1, .int 1]) (rest := []) ⟨hx, hb, hml, hown, hts⟩ (c_X9_fails_1 l κ D (H).size (m0) (kl) (tl) ) (cwV 2 hts gd_c_X9_explains_22 rfl rfl rfl (by decide +kernel) ⟨(Nat.le_of_ble_eq_true rfl), (Nat.le_of_ble_eq_true rfl)⟩) (preV hE hK hP hD hS hA [0] rfl (by decide) [] rfl (va_recv hK hP (ci := 16) (q0 := 0) rfl rfl)) rfl rfl hl.1 rfl (lv_room (Nat.le_of_ble_eq_true rfl)) dX9_explains_22 ⟨(Nat.le_of_ble_eq_true rfl), (Nat.le_of_ble_eq_true rfl)⟩) hS (fun q _ h => hFc q h) hFc (fun r_3 u t H1 locs ht hvm hw hB hz1 hk1 hS => ?_)
  try dsimp only at hw
  obtain ⟨hP, hD, hK⟩ := jn (wc := [(m0, .inr (16, [.int 0, .ref kl, .null, .ref tl]))]) (wr := [(kl, .inr (6, [.int 0, .ref (κ 0), .int 0]))]) (w1 := [(m0, .inr (16, [.int 1, .ref kl, .null, .ref tl]))]) (t1 := []) hP hD hK hS0 hA [0] [1] rfl rfl (by decide) (by decide) ht hvm hk1 hB
  generalize H1 = H at hP hS ⊢
  have hP : va_P D vwCl ([(kl, .inr (6, [.int 0, .ref (κ 0), .int 0])), (m0, .inr (16, [.int 1, .ref kl, .null, .ref tl]))]) H := hP
  have hD : va_D A ([(kl, .inr (6, [.int 0, .ref (κ 0), .int 0])), (m0, .inr (16, [.int 1, .ref kl, .null, .ref tl]))]) := hD
  have hK : va_K D vwCl [] s := hK
  refine W.widen (k := 0) (n := 0) (Nat.le_of_ble_eq_true rfl) (Nat.le_of_ble_eq_true rfl) ?_
  subst hw
  refine lv_if_eq (tgt := 32) hx hb dX9_explains_25 (by decide) (fun c_25 => absurd c_25 (by decide)) (fun _ => ?_)
  refine lv_iconst (v := (-1)) hx hb dX9_explains_28 (by decide) ?_
  refine lv_goto (tgt := 37) hx hb dX9_explains_29 (by decide) ?_
  refine W.widen (k := 0) (n := 0) (Nat.le_of_ble_eq_true rfl) (Nat.le_of_ble_eq_true rfl) ?_
  exact W.iret (v := (-1)) hx hb hr (fun t ht hW => ⟨⟨(-1), (), rfl, trivial, PB.at hP hK hD hW.alike ht [1] rfl (by decide) [] rfl⟩, hS.F ht⟩) hS.2.2 dX9_explains_37

def wm_c_X9_give : List Cond := .code yX9_give cX9_give 3 (some .int) :: ([.code yX9_begins cX9_begins 1 none, .fieldLink RX9 19 "SowingcourtModel" "thrown" "I", .methodLink RX9 33 yX9_begins, .instanceMethod yX9_begins, .selects RX9 yX9_begins yX9_begins, .initialized RX9, .code yX9_notOn cX9_notOn 1 (some .boolean), .fieldLink RX9 106 "SowingcourtModel" "game" "LSowingcourtModel$Game;", .code yX9_fails cX9_fails 3 (some .boolean), .methodLink RX9 50 yX9_fails, .instanceMethod yX9_fails, .selects RX9 yX9_fails yX9_fails, .methodLink RX9 128 yX9_notOn, .instanceMethod yX9_notOn, .selects RX9 yX9_notOn yX9_notOn] ++ wsX90)
set_option maxRecDepth 20000 in
theorem gd_c_X9_give_1 : GoodIn wm_c_X9_give (wsV RX9 33 RX9 yX9_begins wm_c_X9_begins) := goodIn_of _ (by decide +kernel)
set_option maxRecDepth 20000 in
theorem gd_c_X9_give_5 : GoodIn wm_c_X9_give (wsV RX9 128 RX9 yX9_notOn wm_c_X9_notOn) := goodIn_of _ (by decide +kernel)
set_option maxHeartbeats 4000000 in
set_option maxRecDepth 100000 in
theorem c_X9_give (l : Launch) (κ : Nat → Nat) (D : va_G) (sz : Nat) (m0 : Nat) (kl : Nat) (tl : Nat) (p0 : Int32) (p1 : Int32)  : Met l yX9_give wm_c_X9_give ({ frames := 11, cells := 0, slots := 0, locals := 380 }) (va_Pc [.ref m0, .int p0, .int p1] (PC κ D [] [(m0, .inr (16, [.int 0, .ref kl, .null, .ref tl]))] sz)) (va_Qi (fun (r : Int32) (_ : Unit) => True) (fun _ t => PB D [] [(m0, .inr (16, [.int 1, .ref kl, .null, .ref tl]))] (va_A [(m0, .inr (16, [.int 0, .ref kl, .null, .ref tl]))] sz) t) (va_A [(m0, .inr (16, [.int 0, .ref kl, .null, .ref tl]))] sz)) 0 0 (va_A [(m0, .inr (16, [.int 0, .ref kl, .null, .ref tl]))] sz) := by
  refine Met.ofW (cc := cX9_give) (maxL := 3) (ret := (some .int)) (by decide +kernel) rfl ?_
  intro p e s m args below meth c s₁ B hml hv
  obtain ⟨rfl, hsz, hP, hK, hD0, hE⟩ := hv
  have hx := B.exec
  have hb := B.bytes
  have hr := B.returns
  have hts := atoms_spec (ws := wm_c_X9_give) B.pre
  have hown : s.vm.findClass RX9 = some m.cls := findClass_of_methodNamed B.named
  have hlocks := B.notSynchronized
  have iRX9 : ∀ w ∈ u_ws RX9 TX9 4, w ∈ wm_c_X9_give := by decide +kernel
  subst hsz
  have hD := hD0.self (sz := s.heap.size)
  generalize hAe : va_A [(m0, .inr (16, [.int 0, .ref kl, .null, .ref tl]))] s.heap.size = A at hD hE ⊢
  have hA : ∀ q : Nat, s.heap.size ≤ q → A q := fun q h => by rw [← hAe]; exact Or.inr h
  have hS : va_S A s.heap s.heap [] := va_S.rf
  have hl := lv_entry ([.ref m0, .int p0, .int p1]) (n := 3) (Nat.le_of_ble_eq_true rfl)
  rw [lg_entry_eq]
  generalize (lg_sl ([.ref m0, .int p0, .int p1]) ++ List.replicate (3 - (lg_sl ([.ref m0, .int p0, .int p1])).length) Slot.unset).toArray = ls at hl ⊢
  have hl : lv_has ls 3 [(0, .ref m0), (1, .int p0), (2, .int p1)] := hl
  refine lv_aload_n hx hb dX9_give_0 rfl (lv_at hl 0 rfl) ?_
  have hS0 := hS
  have hFc := va_free (wc := [(m0, .inr (16, [.int 0, .ref kl, .null, .ref tl]))]) hD hS hA [0] rfl
  refine va_callv (va_runV (As := []) (rest := []) ⟨hx, hb, hml, hown, hts⟩ (c_X9_begins l κ D (s.heap).size (m0) (kl) (tl) (0) ) (cwV 0 hts gd_c_X9_give_1 rfl rfl rfl (by decide +kernel) ⟨(Nat.le_of_ble_eq_true rfl), (Nat.le_of_ble_eq_true rfl)⟩) (preV hE hK hP hD hS hA [0] rfl (by decide) [] rfl (va_recv hK hP (ci := 16) (q0 := 0) rfl rfl)) rfl rfl hl.1 rfl (lv_room (Nat.le_of_ble_eq_true rfl)) dX9_give_1 ⟨(Nat.le_of_ble_eq_true rfl), (Nat.le_of_ble_eq_true rfl)⟩) hS (fun q _ h => hFc q h) hFc (fun u t H1 locs ht hvm hw hB hz1 hk1 hS => ?_)
  try dsimp only at hw
  obtain ⟨hP, hD, hK⟩ := jn (wc := [(m0, .inr (16, [.int 0, .ref kl, .null, .ref tl]))]) (wr := []) (w1 := [(m0, .inr (16, [.int 0, .ref kl, .null, .ref tl]))]) (t1 := []) hP hD hK hS0 hA [0] [] rfl rfl (by decide) (by decide) ht hvm hk1 hB
  generalize H1 = H at hP hS ⊢
  have hP : va_P D vwCl ([(m0, .inr (16, [.int 0, .ref kl, .null, .ref tl]))]) H := hP
  have hD : va_D A ([(m0, .inr (16, [.int 0, .ref kl, .null, .ref tl]))]) := hD
  have hK : va_K D vwCl [] s := hK
  refine W.widen (k := 0) (n := 0) (Nat.le_of_ble_eq_true rfl) (Nat.le_of_ble_eq_true rfl) ?_
  refine lv_aload_n hx hb dX9_give_4 rfl (lv_at hl 0 rfl) ?_
  have hS0 := hS
  have hFc := va_free (wc := [(m0, .inr (16, [.int 0, .ref kl, .null, .ref tl]))]) hD hS hA [0] rfl
  refine va_calli (va_runV (As := []) (rest := []) ⟨hx, hb, hml, hown, hts⟩ (c_X9_notOn l κ D (H).size (m0) (kl) (tl) ) (cwV 0 hts gd_c_X9_give_5 rfl rfl rfl (by decide +kernel) ⟨(Nat.le_of_ble_eq_true rfl), (Nat.le_of_ble_eq_true rfl)⟩) (preV hE hK hP hD hS hA [0] rfl (by decide) [] rfl (va_recv hK hP (ci := 16) (q0 := 0) rfl rfl)) rfl rfl hl.1 rfl (lv_room (Nat.le_of_ble_eq_true rfl)) dX9_give_5 ⟨(Nat.le_of_ble_eq_true rfl), (Nat.le_of_ble_eq_true rfl)⟩) hS (fun q _ h => hFc q h) hFc (fun r_2 u t H1 locs ht hvm hw hB hz1 hk1 hS => ?_)
  try dsimp only at hw
  obtain ⟨hP, hD, hK⟩ := jn (wc := [(m0, .inr (16, [.int 0, .ref kl, .null, .ref tl]))]) (wr := []) (w1 := [(m0, .inr (16, [.int 1, .ref kl, .null, .ref tl]))]) (t1 := []) hP hD hK hS0 hA [0] [] rfl rfl (by decide) (by decide) ht hvm hk1 hB
  generalize H1 = H at hP hS ⊢
  have hP : va_P D vwCl ([(m0, .inr (16, [.int 1, .ref kl, .null, .ref tl]))]) H := hP
  have hD : va_D A ([(m0, .inr (16, [.int 1, .ref kl, .null, .ref tl]))]) := hD
  have hK : va_K D vwCl [] s := hK
  refine W.widen (k := 0) (n := 0) (Nat.le_of_ble_eq_true rfl) (Nat.le_of_ble_eq_true rfl) ?_
  subst hw
  refine lv_if_ne (tgt := 72) hx hb dX9_give_8 (by decide) (fun _ => ?_) (fun c_8 => absurd c_8 (by decide))
  refine lv_iconst (v := (-1)) hx hb dX9_give_72 (by decide) ?_
  refine W.widen (k := 0) (n := 0) (Nat.le_of_ble_eq_true rfl) (Nat.le_of_ble_eq_true rfl) ?_
  exact W.iret (v := (-1)) hx hb hr (fun t ht hW => ⟨⟨(-1), (), rfl, trivial, PB.at hP hK hD hW.alike ht [0] rfl (by decide) [] rfl⟩, hS.F ht⟩) hS.2.2 dX9_give_73

def wm_c_X9_move : List Cond := .code yX9_move cX9_move 2 (some .int) :: ([.code yX9_begins cX9_begins 1 none, .fieldLink RX9 19 "SowingcourtModel" "thrown" "I", .methodLink RX9 33 yX9_begins, .instanceMethod yX9_begins, .selects RX9 yX9_begins yX9_begins, .initialized RX9, .code yX9_notOn cX9_notOn 1 (some .boolean), .fieldLink RX9 106 "SowingcourtModel" "game" "LSowingcourtModel$Game;", .code yX9_fails cX9_fails 3 (some .boolean), .methodLink RX9 50 yX9_fails, .instanceMethod yX9_fails, .selects RX9 yX9_fails yX9_fails, .methodLink RX9 128 yX9_notOn, .instanceMethod yX9_notOn, .selects RX9 yX9_notOn yX9_notOn] ++ wsX90)
set_option maxRecDepth 20000 in
theorem gd_c_X9_move_1 : GoodIn wm_c_X9_move (wsV RX9 33 RX9 yX9_begins wm_c_X9_begins) := goodIn_of _ (by decide +kernel)
set_option maxRecDepth 20000 in
theorem gd_c_X9_move_5 : GoodIn wm_c_X9_move (wsV RX9 128 RX9 yX9_notOn wm_c_X9_notOn) := goodIn_of _ (by decide +kernel)
set_option maxHeartbeats 4000000 in
set_option maxRecDepth 100000 in
theorem c_X9_move (l : Launch) (κ : Nat → Nat) (D : va_G) (sz : Nat) (m0 : Nat) (kl : Nat) (tl : Nat) (p0 : Int32)  : Met l yX9_move wm_c_X9_move ({ frames := 11, cells := 0, slots := 0, locals := 380 }) (va_Pc [.ref m0, .int p0] (PC κ D [] [(m0, .inr (16, [.int 0, .ref kl, .null, .ref tl]))] sz)) (va_Qi (fun (r : Int32) (_ : Unit) => True) (fun _ t => PB D [] [(m0, .inr (16, [.int 1, .ref kl, .null, .ref tl]))] (va_A [(m0, .inr (16, [.int 0, .ref kl, .null, .ref tl]))] sz) t) (va_A [(m0, .inr (16, [.int 0, .ref kl, .null, .ref tl]))] sz)) 0 0 (va_A [(m0, .inr (16, [.int 0, .ref kl, .null, .ref tl]))] sz) := by
  refine Met.ofW (cc := cX9_move) (maxL := 2) (ret := (some .int)) (by decide +kernel) rfl ?_
  intro p e s m args below meth c s₁ B hml hv
  obtain ⟨rfl, hsz, hP, hK, hD0, hE⟩ := hv
  have hx := B.exec
  have hb := B.bytes
  have hr := B.returns
  have hts := atoms_spec (ws := wm_c_X9_move) B.pre
  have hown : s.vm.findClass RX9 = some m.cls := findClass_of_methodNamed B.named
  have hlocks := B.notSynchronized
  have iRX9 : ∀ w ∈ u_ws RX9 TX9 4, w ∈ wm_c_X9_move := by decide +kernel
  subst hsz
  have hD := hD0.self (sz := s.heap.size)
  generalize hAe : va_A [(m0, .inr (16, [.int 0, .ref kl, .null, .ref tl]))] s.heap.size = A at hD hE ⊢
  have hA : ∀ q : Nat, s.heap.size ≤ q → A q := fun q h => by rw [← hAe]; exact Or.inr h
  have hS : va_S A s.heap s.heap [] := va_S.rf
  have hl := lv_entry ([.ref m0, .int p0]) (n := 2) (Nat.le_of_ble_eq_true rfl)
  rw [lg_entry_eq]
  generalize (lg_sl ([.ref m0, .int p0]) ++ List.replicate (2 - (lg_sl ([.ref m0, .int p0])).length) Slot.unset).toArray = ls at hl ⊢
  have hl : lv_has ls 2 [(0, .ref m0), (1, .int p0)] := hl
  refine lv_aload_n hx hb dX9_move_0 rfl (lv_at hl 0 rfl) ?_
  have hS0 := hS
  have hFc := va_free (wc := [(m0, .inr (16, [.int 0, .ref kl, .null, .ref tl]))]) hD hS hA [0] rfl
  refine va_callv (va_runV (As := []) (rest := []) ⟨hx, hb, hml, hown, hts⟩ (c_X9_begins l κ D (s.heap).size (m0) (kl) (tl) (0) ) (cwV 0 hts gd_c_X9_move_1 rfl rfl rfl (by decide +kernel) ⟨(Nat.le_of_ble_eq_true rfl), (Nat.le_of_ble_eq_true rfl)⟩) (preV hE hK hP hD hS hA [0] rfl (by decide) [] rfl (va_recv hK hP (ci := 16) (q0 := 0) rfl rfl)) rfl rfl hl.1 rfl (lv_room (Nat.le_of_ble_eq_true rfl)) dX9_move_1 ⟨(Nat.le_of_ble_eq_true rfl), (Nat.le_of_ble_eq_true rfl)⟩) hS (fun q _ h => hFc q h) hFc (fun u t H1 locs ht hvm hw hB hz1 hk1 hS => ?_)
  try dsimp only at hw
  obtain ⟨hP, hD, hK⟩ := jn (wc := [(m0, .inr (16, [.int 0, .ref kl, .null, .ref tl]))]) (wr := []) (w1 := [(m0, .inr (16, [.int 0, .ref kl, .null, .ref tl]))]) (t1 := []) hP hD hK hS0 hA [0] [] rfl rfl (by decide) (by decide) ht hvm hk1 hB
  generalize H1 = H at hP hS ⊢
  have hP : va_P D vwCl ([(m0, .inr (16, [.int 0, .ref kl, .null, .ref tl]))]) H := hP
  have hD : va_D A ([(m0, .inr (16, [.int 0, .ref kl, .null, .ref tl]))]) := hD
  have hK : va_K D vwCl [] s := hK
  refine W.widen (k := 0) (n := 0) (Nat.le_of_ble_eq_true rfl) (Nat.le_of_ble_eq_true rfl) ?_
  refine lv_aload_n hx hb dX9_move_4 rfl (lv_at hl 0 rfl) ?_
  have hS0 := hS
  have hFc := va_free (wc := [(m0, .inr (16, [.int 0, .ref kl, .null, .ref tl]))]) hD hS hA [0] rfl
  refine va_calli (va_runV (As := []) (rest := []) ⟨hx, hb, hml, hown, hts⟩ (c_X9_notOn l κ D (H).size (m0) (kl) (tl) ) (cwV 0 hts gd_c_X9_move_5 rfl rfl rfl (by decide +kernel) ⟨(Nat.le_of_ble_eq_true rfl), (Nat.le_of_ble_eq_true rfl)⟩) (preV hE hK hP hD hS hA [0] rfl (by decide) [] rfl (va_recv hK hP (ci := 16) (q0 := 0) rfl rfl)) rfl rfl hl.1 rfl (lv_room (Nat.le_of_ble_eq_true rfl)) dX9_move_5 ⟨(Nat.le_of_ble_eq_true rfl), (Nat.le_of_ble_eq_true rfl)⟩) hS (fun q _ h => hFc q h) hFc (fun r_2 u t H1 locs ht hvm hw hB hz1 hk1 hS => ?_)
  try dsimp only at hw
  obtain ⟨hP, hD, hK⟩ := jn (wc := [(m0, .inr (16, [.int 0, .ref kl, .null, .ref tl]))]) (wr := []) (w1 := [(m0, .inr (16, [.int 1, .ref kl, .null, .ref tl]))]) (t1 := []) hP hD hK hS0 hA [0] [] rfl rfl (by decide) (by decide) ht hvm hk1 hB
  generalize H1 = H at hP hS ⊢
  have hP : va_P D vwCl ([(m0, .inr (16, [.int 1, .ref kl, .null, .ref tl]))]) H := hP
  have hD : va_D A ([(m0, .inr (16, [.int 1, .ref kl, .null, .ref tl]))]) := hD
  have hK : va_K D vwCl [] s := hK
  refine W.widen (k := 0) (n := 0) (Nat.le_of_ble_eq_true rfl) (Nat.le_of_ble_eq_true rfl) ?_
  subst hw
  refine lv_if_ne (tgt := 61) hx hb dX9_move_8 (by decide) (fun _ => ?_) (fun c_8 => absurd c_8 (by decide))
  refine lv_iconst (v := (-1)) hx hb dX9_move_61 (by decide) ?_
  refine W.widen (k := 0) (n := 0) (Nat.le_of_ble_eq_true rfl) (Nat.le_of_ble_eq_true rfl) ?_
  exact W.iret (v := (-1)) hx hb hr (fun t ht hW => ⟨⟨(-1), (), rfl, trivial, PB.at hP hK hD hW.alike ht [0] rfl (by decide) [] rfl⟩, hS.F ht⟩) hS.2.2 dX9_move_62

def wm_c_X9_barred : List Cond := .code yX9_barred cX9_barred 2 (some .char) :: ([.code yX9_begins cX9_begins 1 none, .fieldLink RX9 19 "SowingcourtModel" "thrown" "I", .methodLink RX9 33 yX9_begins, .instanceMethod yX9_begins, .selects RX9 yX9_begins yX9_begins, .initialized RX9, .code yX9_notOn cX9_notOn 1 (some .boolean), .fieldLink RX9 106 "SowingcourtModel" "game" "LSowingcourtModel$Game;", .code yX9_fails cX9_fails 3 (some .boolean), .methodLink RX9 50 yX9_fails, .instanceMethod yX9_fails, .selects RX9 yX9_fails yX9_fails, .methodLink RX9 128 yX9_notOn, .instanceMethod yX9_notOn, .selects RX9 yX9_notOn yX9_notOn] ++ wsX90)
set_option maxRecDepth 20000 in
theorem gd_c_X9_barred_1 : GoodIn wm_c_X9_barred (wsV RX9 33 RX9 yX9_begins wm_c_X9_begins) := goodIn_of _ (by decide +kernel)
set_option maxRecDepth 20000 in
theorem gd_c_X9_barred_5 : GoodIn wm_c_X9_barred (wsV RX9 128 RX9 yX9_notOn wm_c_X9_notOn) := goodIn_of _ (by decide +kernel)
set_option maxHeartbeats 4000000 in
set_option maxRecDepth 100000 in
theorem c_X9_barred (l : Launch) (κ : Nat → Nat) (D : va_G) (sz : Nat) (m0 : Nat) (kl : Nat) (tl : Nat) (p0 : Int32)  : Met l yX9_barred wm_c_X9_barred ({ frames := 11, cells := 0, slots := 0, locals := 380 }) (va_Pc [.ref m0, .int p0] (PC κ D [] [(m0, .inr (16, [.int 0, .ref kl, .null, .ref tl]))] sz)) (va_Qi (fun (r : Int32) (_ : Unit) => True) (fun _ t => PB D [] [(m0, .inr (16, [.int 1, .ref kl, .null, .ref tl]))] (va_A [(m0, .inr (16, [.int 0, .ref kl, .null, .ref tl]))] sz) t) (va_A [(m0, .inr (16, [.int 0, .ref kl, .null, .ref tl]))] sz)) 0 0 (va_A [(m0, .inr (16, [.int 0, .ref kl, .null, .ref tl]))] sz) := by
  refine Met.ofW (cc := cX9_barred) (maxL := 2) (ret := (some .char)) (by decide +kernel) rfl ?_
  intro p e s m args below meth c s₁ B hml hv
  obtain ⟨rfl, hsz, hP, hK, hD0, hE⟩ := hv
  have hx := B.exec
  have hb := B.bytes
  have hr := B.returns
  have hts := atoms_spec (ws := wm_c_X9_barred) B.pre
  have hown : s.vm.findClass RX9 = some m.cls := findClass_of_methodNamed B.named
  have hlocks := B.notSynchronized
  have iRX9 : ∀ w ∈ u_ws RX9 TX9 4, w ∈ wm_c_X9_barred := by decide +kernel
  subst hsz
  have hD := hD0.self (sz := s.heap.size)
  generalize hAe : va_A [(m0, .inr (16, [.int 0, .ref kl, .null, .ref tl]))] s.heap.size = A at hD hE ⊢
  have hA : ∀ q : Nat, s.heap.size ≤ q → A q := fun q h => by rw [← hAe]; exact Or.inr h
  have hS : va_S A s.heap s.heap [] := va_S.rf
  have hl := lv_entry ([.ref m0, .int p0]) (n := 2) (Nat.le_of_ble_eq_true rfl)
  rw [lg_entry_eq]
  generalize (lg_sl ([.ref m0, .int p0]) ++ List.replicate (2 - (lg_sl ([.ref m0, .int p0])).length) Slot.unset).toArray = ls at hl ⊢
  have hl : lv_has ls 2 [(0, .ref m0), (1, .int p0)] := hl
  refine lv_aload_n hx hb dX9_barred_0 rfl (lv_at hl 0 rfl) ?_
  have hS0 := hS
  have hFc := va_free (wc := [(m0, .inr (16, [.int 0, .ref kl, .null, .ref tl]))]) hD hS hA [0] rfl
  refine va_callv (va_runV (As := []) (rest := []) ⟨hx, hb, hml, hown, hts⟩ (c_X9_begins l κ D (s.heap).size (m0) (kl) (tl) (0) ) (cwV 0 hts gd_c_X9_barred_1 rfl rfl rfl (by decide +kernel) ⟨(Nat.le_of_ble_eq_true rfl), (Nat.le_of_ble_eq_true rfl)⟩) (preV hE hK hP hD hS hA [0] rfl (by decide) [] rfl (va_recv hK hP (ci := 16) (q0 := 0) rfl rfl)) rfl rfl hl.1 rfl (lv_room (Nat.le_of_ble_eq_true rfl)) dX9_barred_1 ⟨(Nat.le_of_ble_eq_true rfl), (Nat.le_of_ble_eq_true rfl)⟩) hS (fun q _ h => hFc q h) hFc (fun u t H1 locs ht hvm hw hB hz1 hk1 hS => ?_)
  try dsimp only at hw
  obtain ⟨hP, hD, hK⟩ := jn (wc := [(m0, .inr (16, [.int 0, .ref kl, .null, .ref tl]))]) (wr := []) (w1 := [(m0, .inr (16, [.int 0, .ref kl, .null, .ref tl]))]) (t1 := []) hP hD hK hS0 hA [0] [] rfl rfl (by decide) (by decide) ht hvm hk1 hB
  generalize H1 = H at hP hS ⊢
  have hP : va_P D vwCl ([(m0, .inr (16, [.int 0, .ref kl, .null, .ref tl]))]) H := hP
  have hD : va_D A ([(m0, .inr (16, [.int 0, .ref kl, .null, .ref tl]))]) := hD
  have hK : va_K D vwCl [] s := hK
  refine W.widen (k := 0) (n := 0) (Nat.le_of_ble_eq_true rfl) (Nat.le_of_ble_eq_true rfl) ?_
  refine lv_aload_n hx hb dX9_barred_4 rfl (lv_at hl 0 rfl) ?_
  have hS0 := hS
  have hFc := va_free (wc := [(m0, .inr (16, [.int 0, .ref kl, .null, .ref tl]))]) hD hS hA [0] rfl
  refine va_calli (va_runV (As := []) (rest := []) ⟨hx, hb, hml, hown, hts⟩ (c_X9_notOn l κ D (H).size (m0) (kl) (tl) ) (cwV 0 hts gd_c_X9_barred_5 rfl rfl rfl (by decide +kernel) ⟨(Nat.le_of_ble_eq_true rfl), (Nat.le_of_ble_eq_true rfl)⟩) (preV hE hK hP hD hS hA [0] rfl (by decide) [] rfl (va_recv hK hP (ci := 16) (q0 := 0) rfl rfl)) rfl rfl hl.1 rfl (lv_room (Nat.le_of_ble_eq_true rfl)) dX9_barred_5 ⟨(Nat.le_of_ble_eq_true rfl), (Nat.le_of_ble_eq_true rfl)⟩) hS (fun q _ h => hFc q h) hFc (fun r_2 u t H1 locs ht hvm hw hB hz1 hk1 hS => ?_)
  try dsimp only at hw
  obtain ⟨hP, hD, hK⟩ := jn (wc := [(m0, .inr (16, [.int 0, .ref kl, .null, .ref tl]))]) (wr := []) (w1 := [(m0, .inr (16, [.int 1, .ref kl, .null, .ref tl]))]) (t1 := []) hP hD hK hS0 hA [0] [] rfl rfl (by decide) (by decide) ht hvm hk1 hB
  generalize H1 = H at hP hS ⊢
  have hP : va_P D vwCl ([(m0, .inr (16, [.int 1, .ref kl, .null, .ref tl]))]) H := hP
  have hD : va_D A ([(m0, .inr (16, [.int 1, .ref kl, .null, .ref tl]))]) := hD
  have hK : va_K D vwCl [] s := hK
  refine W.widen (k := 0) (n := 0) (Nat.le_of_ble_eq_true rfl) (Nat.le_of_ble_eq_true rfl) ?_
  subst hw
  refine lv_if_ne (tgt := 32) hx hb dX9_barred_8 (by decide) (fun _ => ?_) (fun c_8 => absurd c_8 (by decide))
  refine lv_bipush (v := 32) hx hb dX9_barred_32 (by decide) ?_
  refine lv_goto (tgt := 48) hx hb dX9_barred_34 (by decide) ?_
  refine W.widen (k := 0) (n := 0) (Nat.le_of_ble_eq_true rfl) (Nat.le_of_ble_eq_true rfl) ?_
  exact W.zret (v := 32) hx hb hr (by decide) (fun t ht hW => ⟨⟨32, (), rfl, trivial, PB.at hP hK hD hW.alike ht [0] rfl (by decide) [] rfl⟩, hS.F ht⟩) hS.2.2 dX9_barred_48

def wm_c_X9_moves : List Cond := .code yX9_moves cX9_moves 3 (some .int) :: ([.code yX9_begins cX9_begins 1 none, .fieldLink RX9 19 "SowingcourtModel" "thrown" "I", .methodLink RX9 33 yX9_begins, .instanceMethod yX9_begins, .selects RX9 yX9_begins yX9_begins, .initialized RX9, .code yX9_notOn cX9_notOn 1 (some .boolean), .fieldLink RX9 106 "SowingcourtModel" "game" "LSowingcourtModel$Game;", .code yX9_fails cX9_fails 3 (some .boolean), .methodLink RX9 50 yX9_fails, .instanceMethod yX9_fails, .selects RX9 yX9_fails yX9_fails, .methodLink RX9 128 yX9_notOn, .instanceMethod yX9_notOn, .selects RX9 yX9_notOn yX9_notOn] ++ wsX90)
set_option maxRecDepth 20000 in
theorem gd_c_X9_moves_1 : GoodIn wm_c_X9_moves (wsV RX9 33 RX9 yX9_begins wm_c_X9_begins) := goodIn_of _ (by decide +kernel)
set_option maxRecDepth 20000 in
theorem gd_c_X9_moves_5 : GoodIn wm_c_X9_moves (wsV RX9 128 RX9 yX9_notOn wm_c_X9_notOn) := goodIn_of _ (by decide +kernel)
set_option maxHeartbeats 4000000 in
set_option maxRecDepth 100000 in
theorem c_X9_moves (l : Launch) (κ : Nat → Nat) (D : va_G) (sz : Nat) (m0 : Nat) (kl : Nat) (tl : Nat)  : Met l yX9_moves wm_c_X9_moves ({ frames := 11, cells := 0, slots := 0, locals := 380 }) (va_Pc [.ref m0] (PC κ D [] [(m0, .inr (16, [.int 0, .ref kl, .null, .ref tl]))] sz)) (va_Qi (fun (r : Int32) (_ : Unit) => True) (fun _ t => PB D [] [(m0, .inr (16, [.int 1, .ref kl, .null, .ref tl]))] (va_A [(m0, .inr (16, [.int 0, .ref kl, .null, .ref tl]))] sz) t) (va_A [(m0, .inr (16, [.int 0, .ref kl, .null, .ref tl]))] sz)) 0 0 (va_A [(m0, .inr (16, [.int 0, .ref kl, .null, .ref tl]))] sz) := by
  refine Met.ofW (cc := cX9_moves) (maxL := 3) (ret := (some .int)) (by decide +kernel) rfl ?_
  intro p e s m args below meth c s₁ B hml hv
  obtain ⟨rfl, hsz, hP, hK, hD0, hE⟩ := hv
  have hx := B.exec
  have hb := B.bytes
  have hr := B.returns
  have hts := atoms_spec (ws := wm_c_X9_moves) B.pre
  have hown : s.vm.findClass RX9 = some m.cls := findClass_of_methodNamed B.named
  have hlocks := B.notSynchronized
  have iRX9 : ∀ w ∈ u_ws RX9 TX9 4, w ∈ wm_c_X9_moves := by decide +kernel
  subst hsz
  have hD := hD0.self (sz := s.heap.size)
  generalize hAe : va_A [(m0, .inr (16, [.int 0, .ref kl, .null, .ref tl]))] s.heap.size = A at hD hE ⊢
  have hA : ∀ q : Nat, s.heap.size ≤ q → A q := fun q h => by rw [← hAe]; exact Or.inr h
  have hS : va_S A s.heap s.heap [] := va_S.rf
  have hl := lv_entry ([.ref m0]) (n := 3) (Nat.le_of_ble_eq_true rfl)
  rw [lg_entry_eq]
  generalize (lg_sl ([.ref m0]) ++ List.replicate (3 - (lg_sl ([.ref m0])).length) Slot.unset).toArray = ls at hl ⊢
  have hl : lv_has ls 3 [(0, .ref m0)] := hl
  refine lv_aload_n hx hb dX9_moves_0 rfl (lv_at hl 0 rfl) ?_
  have hS0 := hS
  have hFc := va_free (wc := [(m0, .inr (16, [.int 0, .ref kl, .null, .ref tl]))]) hD hS hA [0] rfl
  refine va_callv (va_runV (As := []) (rest := []) ⟨hx, hb, hml, hown, hts⟩ (c_X9_begins l κ D (s.heap).size (m0) (kl) (tl) (0) ) (cwV 0 hts gd_c_X9_moves_1 rfl rfl rfl (by decide +kernel) ⟨(Nat.le_of_ble_eq_true rfl), (Nat.le_of_ble_eq_true rfl)⟩) (preV hE hK hP hD hS hA [0] rfl (by decide) [] rfl (va_recv hK hP (ci := 16) (q0 := 0) rfl rfl)) rfl rfl hl.1 rfl (lv_room (Nat.le_of_ble_eq_true rfl)) dX9_moves_1 ⟨(Nat.le_of_ble_eq_true rfl), (Nat.le_of_ble_eq_true rfl)⟩) hS (fun q _ h => hFc q h) hFc (fun u t H1 locs ht hvm hw hB hz1 hk1 hS => ?_)
  try dsimp only at hw
  obtain ⟨hP, hD, hK⟩ := jn (wc := [(m0, .inr (16, [.int 0, .ref kl, .null, .ref tl]))]) (wr := []) (w1 := [(m0, .inr (16, [.int 0, .ref kl, .null, .ref tl]))]) (t1 := []) hP hD hK hS0 hA [0] [] rfl rfl (by decide) (by decide) ht hvm hk1 hB
  generalize H1 = H at hP hS ⊢
  have hP : va_P D vwCl ([(m0, .inr (16, [.int 0, .ref kl, .null, .ref tl]))]) H := hP
  have hD : va_D A ([(m0, .inr (16, [.int 0, .ref kl, .null, .ref tl]))]) := hD
  have hK : va_K D vwCl [] s := hK
  refine W.widen (k := 0) (n := 0) (Nat.le_of_ble_eq_true rfl) (Nat.le_of_ble_eq_true rfl) ?_
  refine lv_aload_n hx hb dX9_moves_4 rfl (lv_at hl 0 rfl) ?_
  have hS0 := hS
  have hFc := va_free (wc := [(m0, .inr (16, [.int 0, .ref kl, .null, .ref tl]))]) hD hS hA [0] rfl
  refine va_calli (va_runV (As := []) (rest := []) ⟨hx, hb, hml, hown, hts⟩ (c_X9_notOn l κ D (H).size (m0) (kl) (tl) ) (cwV 0 hts gd_c_X9_moves_5 rfl rfl rfl (by decide +kernel) ⟨(Nat.le_of_ble_eq_true rfl), (Nat.le_of_ble_eq_true rfl)⟩) (preV hE hK hP hD hS hA [0] rfl (by decide) [] rfl (va_recv hK hP (ci := 16) (q0 := 0) rfl rfl)) rfl rfl hl.1 rfl (lv_room (Nat.le_of_ble_eq_true rfl)) dX9_moves_5 ⟨(Nat.le_of_ble_eq_true rfl), (Nat.le_of_ble_eq_true rfl)⟩) hS (fun q _ h => hFc q h) hFc (fun r_2 u t H1 locs ht hvm hw hB hz1 hk1 hS => ?_)
  try dsimp only at hw
  obtain ⟨hP, hD, hK⟩ := jn (wc := [(m0, .inr (16, [.int 0, .ref kl, .null, .ref tl]))]) (wr := []) (w1 := [(m0, .inr (16, [.int 1, .ref kl, .null, .ref tl]))]) (t1 := []) hP hD hK hS0 hA [0] [] rfl rfl (by decide) (by decide) ht hvm hk1 hB
  generalize H1 = H at hP hS ⊢
  have hP : va_P D vwCl ([(m0, .inr (16, [.int 1, .ref kl, .null, .ref tl]))]) H := hP
  have hD : va_D A ([(m0, .inr (16, [.int 1, .ref kl, .null, .ref tl]))]) := hD
  have hK : va_K D vwCl [] s := hK
  refine W.widen (k := 0) (n := 0) (Nat.le_of_ble_eq_true rfl) (Nat.le_of_ble_eq_true rfl) ?_
  subst hw
  refine lv_if_eq (tgt := 13) hx hb dX9_moves_8 (by decide) (fun c_8 => absurd c_8 (by decide)) (fun _ => ?_)
  refine lv_iconst (v := (-1)) hx hb dX9_moves_11 (by decide) ?_
  refine W.widen (k := 0) (n := 0) (Nat.le_of_ble_eq_true rfl) (Nat.le_of_ble_eq_true rfl) ?_
  exact W.iret (v := (-1)) hx hb hr (fun t ht hW => ⟨⟨(-1), (), rfl, trivial, PB.at hP hK hD hW.alike ht [0] rfl (by decide) [] rfl⟩, hS.F ht⟩) hS.2.2 dX9_moves_12

def wm_c_X9_turn : List Cond := .code yX9_turn cX9_turn 1 (some .int) :: ([.code yX9_begins cX9_begins 1 none, .fieldLink RX9 19 "SowingcourtModel" "thrown" "I", .methodLink RX9 33 yX9_begins, .instanceMethod yX9_begins, .selects RX9 yX9_begins yX9_begins, .initialized RX9, .code yX9_notOn cX9_notOn 1 (some .boolean), .fieldLink RX9 106 "SowingcourtModel" "game" "LSowingcourtModel$Game;", .code yX9_fails cX9_fails 3 (some .boolean), .methodLink RX9 50 yX9_fails, .instanceMethod yX9_fails, .selects RX9 yX9_fails yX9_fails, .methodLink RX9 128 yX9_notOn, .instanceMethod yX9_notOn, .selects RX9 yX9_notOn yX9_notOn] ++ wsX90)
set_option maxRecDepth 20000 in
theorem gd_c_X9_turn_1 : GoodIn wm_c_X9_turn (wsV RX9 33 RX9 yX9_begins wm_c_X9_begins) := goodIn_of _ (by decide +kernel)
set_option maxRecDepth 20000 in
theorem gd_c_X9_turn_5 : GoodIn wm_c_X9_turn (wsV RX9 128 RX9 yX9_notOn wm_c_X9_notOn) := goodIn_of _ (by decide +kernel)
set_option maxHeartbeats 4000000 in
set_option maxRecDepth 100000 in
theorem c_X9_turn (l : Launch) (κ : Nat → Nat) (D : va_G) (sz : Nat) (m0 : Nat) (kl : Nat) (tl : Nat)  : Met l yX9_turn wm_c_X9_turn ({ frames := 11, cells := 0, slots := 0, locals := 380 }) (va_Pc [.ref m0] (PC κ D [] [(m0, .inr (16, [.int 0, .ref kl, .null, .ref tl]))] sz)) (va_Qi (fun (r : Int32) (_ : Unit) => True) (fun _ t => PB D [] [(m0, .inr (16, [.int 1, .ref kl, .null, .ref tl]))] (va_A [(m0, .inr (16, [.int 0, .ref kl, .null, .ref tl]))] sz) t) (va_A [(m0, .inr (16, [.int 0, .ref kl, .null, .ref tl]))] sz)) 0 0 (va_A [(m0, .inr (16, [.int 0, .ref kl, .null, .ref tl]))] sz) := by
  refine Met.ofW (cc := cX9_turn) (maxL := 1) (ret := (some .int)) (by decide +kernel) rfl ?_
  intro p e s m args below meth c s₁ B hml hv
  obtain ⟨rfl, hsz, hP, hK, hD0, hE⟩ := hv
  have hx := B.exec
  have hb := B.bytes
  have hr := B.returns
  have hts := atoms_spec (ws := wm_c_X9_turn) B.pre
  have hown : s.vm.findClass RX9 = some m.cls := findClass_of_methodNamed B.named
  have hlocks := B.notSynchronized
  have iRX9 : ∀ w ∈ u_ws RX9 TX9 4, w ∈ wm_c_X9_turn := by decide +kernel
  subst hsz
  have hD := hD0.self (sz := s.heap.size)
  generalize hAe : va_A [(m0, .inr (16, [.int 0, .ref kl, .null, .ref tl]))] s.heap.size = A at hD hE ⊢
  have hA : ∀ q : Nat, s.heap.size ≤ q → A q := fun q h => by rw [← hAe]; exact Or.inr h
  have hS : va_S A s.heap s.heap [] := va_S.rf
  have hl := lv_entry ([.ref m0]) (n := 1) (Nat.le_of_ble_eq_true rfl)
  rw [lg_entry_eq]
  generalize (lg_sl ([.ref m0]) ++ List.replicate (1 - (lg_sl ([.ref m0])).length) Slot.unset).toArray = ls at hl ⊢
  have hl : lv_has ls 1 [(0, .ref m0)] := hl
  refine lv_aload_n hx hb dX9_turn_0 rfl (lv_at hl 0 rfl) ?_
  have hS0 := hS
  have hFc := va_free (wc := [(m0, .inr (16, [.int 0, .ref kl, .null, .ref tl]))]) hD hS hA [0] rfl
  refine va_callv (va_runV (As := []) (rest := []) ⟨hx, hb, hml, hown, hts⟩ (c_X9_begins l κ D (s.heap).size (m0) (kl) (tl) (0) ) (cwV 0 hts gd_c_X9_turn_1 rfl rfl rfl (by decide +kernel) ⟨(Nat.le_of_ble_eq_true rfl), (Nat.le_of_ble_eq_true rfl)⟩) (preV hE hK hP hD hS hA [0] rfl (by decide) [] rfl (va_recv hK hP (ci := 16) (q0 := 0) rfl rfl)) rfl rfl hl.1 rfl (lv_room (Nat.le_of_ble_eq_true rfl)) dX9_turn_1 ⟨(Nat.le_of_ble_eq_true rfl), (Nat.le_of_ble_eq_true rfl)⟩) hS (fun q _ h => hFc q h) hFc (fun u t H1 locs ht hvm hw hB hz1 hk1 hS => ?_)
  try dsimp only at hw
  obtain ⟨hP, hD, hK⟩ := jn (wc := [(m0, .inr (16, [.int 0, .ref kl, .null, .ref tl]))]) (wr := []) (w1 := [(m0, .inr (16, [.int 0, .ref kl, .null, .ref tl]))]) (t1 := []) hP hD hK hS0 hA [0] [] rfl rfl (by decide) (by decide) ht hvm hk1 hB
  generalize H1 = H at hP hS ⊢
  have hP : va_P D vwCl ([(m0, .inr (16, [.int 0, .ref kl, .null, .ref tl]))]) H := hP
  have hD : va_D A ([(m0, .inr (16, [.int 0, .ref kl, .null, .ref tl]))]) := hD
  have hK : va_K D vwCl [] s := hK
  refine W.widen (k := 0) (n := 0) (Nat.le_of_ble_eq_true rfl) (Nat.le_of_ble_eq_true rfl) ?_
  refine lv_aload_n hx hb dX9_turn_4 rfl (lv_at hl 0 rfl) ?_
  have hS0 := hS
  have hFc := va_free (wc := [(m0, .inr (16, [.int 0, .ref kl, .null, .ref tl]))]) hD hS hA [0] rfl
  refine va_calli (va_runV (As := []) (rest := []) ⟨hx, hb, hml, hown, hts⟩ (c_X9_notOn l κ D (H).size (m0) (kl) (tl) ) (cwV 0 hts gd_c_X9_turn_5 rfl rfl rfl (by decide +kernel) ⟨(Nat.le_of_ble_eq_true rfl), (Nat.le_of_ble_eq_true rfl)⟩) (preV hE hK hP hD hS hA [0] rfl (by decide) [] rfl (va_recv hK hP (ci := 16) (q0 := 0) rfl rfl)) rfl rfl hl.1 rfl (lv_room (Nat.le_of_ble_eq_true rfl)) dX9_turn_5 ⟨(Nat.le_of_ble_eq_true rfl), (Nat.le_of_ble_eq_true rfl)⟩) hS (fun q _ h => hFc q h) hFc (fun r_2 u t H1 locs ht hvm hw hB hz1 hk1 hS => ?_)
  try dsimp only at hw
  obtain ⟨hP, hD, hK⟩ := jn (wc := [(m0, .inr (16, [.int 0, .ref kl, .null, .ref tl]))]) (wr := []) (w1 := [(m0, .inr (16, [.int 1, .ref kl, .null, .ref tl]))]) (t1 := []) hP hD hK hS0 hA [0] [] rfl rfl (by decide) (by decide) ht hvm hk1 hB
  generalize H1 = H at hP hS ⊢
  have hP : va_P D vwCl ([(m0, .inr (16, [.int 1, .ref kl, .null, .ref tl]))]) H := hP
  have hD : va_D A ([(m0, .inr (16, [.int 1, .ref kl, .null, .ref tl]))]) := hD
  have hK : va_K D vwCl [] s := hK
  refine W.widen (k := 0) (n := 0) (Nat.le_of_ble_eq_true rfl) (Nat.le_of_ble_eq_true rfl) ?_
  subst hw
  refine lv_if_eq (tgt := 15) hx hb dX9_turn_8 (by decide) (fun c_8 => absurd c_8 (by decide)) (fun _ => ?_)
  refine lv_iconst (v := (-1)) hx hb dX9_turn_11 (by decide) ?_
  refine lv_goto (tgt := 25) hx hb dX9_turn_12 (by decide) ?_
  refine W.widen (k := 0) (n := 0) (Nat.le_of_ble_eq_true rfl) (Nat.le_of_ble_eq_true rfl) ?_
  exact W.iret (v := (-1)) hx hb hr (fun t ht hW => ⟨⟨(-1), (), rfl, trivial, PB.at hP hK hD hW.alike ht [0] rfl (by decide) [] rfl⟩, hS.F ht⟩) hS.2.2 dX9_turn_25

def wm_c_X9_value : List Cond := .code yX9_value cX9_value 2 (some .int) :: ([.code yX9_begins cX9_begins 1 none, .fieldLink RX9 19 "SowingcourtModel" "thrown" "I", .methodLink RX9 33 yX9_begins, .instanceMethod yX9_begins, .selects RX9 yX9_begins yX9_begins, .initialized RX9, .code yX9_notOn cX9_notOn 1 (some .boolean), .fieldLink RX9 106 "SowingcourtModel" "game" "LSowingcourtModel$Game;", .code yX9_fails cX9_fails 3 (some .boolean), .methodLink RX9 50 yX9_fails, .instanceMethod yX9_fails, .selects RX9 yX9_fails yX9_fails, .methodLink RX9 128 yX9_notOn, .instanceMethod yX9_notOn, .selects RX9 yX9_notOn yX9_notOn] ++ wsX90)
set_option maxRecDepth 20000 in
theorem gd_c_X9_value_1 : GoodIn wm_c_X9_value (wsV RX9 33 RX9 yX9_begins wm_c_X9_begins) := goodIn_of _ (by decide +kernel)
set_option maxRecDepth 20000 in
theorem gd_c_X9_value_5 : GoodIn wm_c_X9_value (wsV RX9 128 RX9 yX9_notOn wm_c_X9_notOn) := goodIn_of _ (by decide +kernel)
set_option maxHeartbeats 4000000 in
set_option maxRecDepth 100000 in
theorem c_X9_value (l : Launch) (κ : Nat → Nat) (D : va_G) (sz : Nat) (m0 : Nat) (kl : Nat) (tl : Nat) (p0 : Int32)  : Met l yX9_value wm_c_X9_value ({ frames := 11, cells := 0, slots := 0, locals := 380 }) (va_Pc [.ref m0, .int p0] (PC κ D [] [(m0, .inr (16, [.int 0, .ref kl, .null, .ref tl]))] sz)) (va_Qi (fun (r : Int32) (_ : Unit) => True) (fun _ t => PB D [] [(m0, .inr (16, [.int 1, .ref kl, .null, .ref tl]))] (va_A [(m0, .inr (16, [.int 0, .ref kl, .null, .ref tl]))] sz) t) (va_A [(m0, .inr (16, [.int 0, .ref kl, .null, .ref tl]))] sz)) 0 0 (va_A [(m0, .inr (16, [.int 0, .ref kl, .null, .ref tl]))] sz) := by
  refine Met.ofW (cc := cX9_value) (maxL := 2) (ret := (some .int)) (by decide +kernel) rfl ?_
  intro p e s m args below meth c s₁ B hml hv
  obtain ⟨rfl, hsz, hP, hK, hD0, hE⟩ := hv
  have hx := B.exec
  have hb := B.bytes
  have hr := B.returns
  have hts := atoms_spec (ws := wm_c_X9_value) B.pre
  have hown : s.vm.findClass RX9 = some m.cls := findClass_of_methodNamed B.named
  have hlocks := B.notSynchronized
  have iRX9 : ∀ w ∈ u_ws RX9 TX9 4, w ∈ wm_c_X9_value := by decide +kernel
  subst hsz
  have hD := hD0.self (sz := s.heap.size)
  generalize hAe : va_A [(m0, .inr (16, [.int 0, .ref kl, .null, .ref tl]))] s.heap.size = A at hD hE ⊢
  have hA : ∀ q : Nat, s.heap.size ≤ q → A q := fun q h => by rw [← hAe]; exact Or.inr h
  have hS : va_S A s.heap s.heap [] := va_S.rf
  have hl := lv_entry ([.ref m0, .int p0]) (n := 2) (Nat.le_of_ble_eq_true rfl)
  rw [lg_entry_eq]
  generalize (lg_sl ([.ref m0, .int p0]) ++ List.replicate (2 - (lg_sl ([.ref m0, .int p0])).length) Slot.unset).toArray = ls at hl ⊢
  have hl : lv_has ls 2 [(0, .ref m0), (1, .int p0)] := hl
  refine lv_aload_n hx hb dX9_value_0 rfl (lv_at hl 0 rfl) ?_
  have hS0 := hS
  have hFc := va_free (wc := [(m0, .inr (16, [.int 0, .ref kl, .null, .ref tl]))]) hD hS hA [0] rfl
  refine va_callv (va_runV (As := []) (rest := []) ⟨hx, hb, hml, hown, hts⟩ (c_X9_begins l κ D (s.heap).size (m0) (kl) (tl) (0) ) (cwV 0 hts gd_c_X9_value_1 rfl rfl rfl (by decide +kernel) ⟨(Nat.le_of_ble_eq_true rfl), (Nat.le_of_ble_eq_true rfl)⟩) (preV hE hK hP hD hS hA [0] rfl (by decide) [] rfl (va_recv hK hP (ci := 16) (q0 := 0) rfl rfl)) rfl rfl hl.1 rfl (lv_room (Nat.le_of_ble_eq_true rfl)) dX9_value_1 ⟨(Nat.le_of_ble_eq_true rfl), (Nat.le_of_ble_eq_true rfl)⟩) hS (fun q _ h => hFc q h) hFc (fun u t H1 locs ht hvm hw hB hz1 hk1 hS => ?_)
  try dsimp only at hw
  obtain ⟨hP, hD, hK⟩ := jn (wc := [(m0, .inr (16, [.int 0, .ref kl, .null, .ref tl]))]) (wr := []) (w1 := [(m0, .inr (16, [.int 0, .ref kl, .null, .ref tl]))]) (t1 := []) hP hD hK hS0 hA [0] [] rfl rfl (by decide) (by decide) ht hvm hk1 hB
  generalize H1 = H at hP hS ⊢
  have hP : va_P D vwCl ([(m0, .inr (16, [.int 0, .ref kl, .null, .ref tl]))]) H := hP
  have hD : va_D A ([(m0, .inr (16, [.int 0, .ref kl, .null, .ref tl]))]) := hD
  have hK : va_K D vwCl [] s := hK
  refine W.widen (k := 0) (n := 0) (Nat.le_of_ble_eq_true rfl) (Nat.le_of_ble_eq_true rfl) ?_
  refine lv_aload_n hx hb dX9_value_4 rfl (lv_at hl 0 rfl) ?_
  have hS0 := hS
  have hFc := va_free (wc := [(m0, .inr (16, [.int 0, .ref kl, .null, .ref tl]))]) hD hS hA [0] rfl
  refine va_calli (va_runV (As := []) (rest := []) ⟨hx, hb, hml, hown, hts⟩ (c_X9_notOn l κ D (H).size (m0) (kl) (tl) ) (cwV 0 hts gd_c_X9_value_5 rfl rfl rfl (by decide +kernel) ⟨(Nat.le_of_ble_eq_true rfl), (Nat.le_of_ble_eq_true rfl)⟩) (preV hE hK hP hD hS hA [0] rfl (by decide) [] rfl (va_recv hK hP (ci := 16) (q0 := 0) rfl rfl)) rfl rfl hl.1 rfl (lv_room (Nat.le_of_ble_eq_true rfl)) dX9_value_5 ⟨(Nat.le_of_ble_eq_true rfl), (Nat.le_of_ble_eq_true rfl)⟩) hS (fun q _ h => hFc q h) hFc (fun r_2 u t H1 locs ht hvm hw hB hz1 hk1 hS => ?_)
  try dsimp only at hw
  obtain ⟨hP, hD, hK⟩ := jn (wc := [(m0, .inr (16, [.int 0, .ref kl, .null, .ref tl]))]) (wr := []) (w1 := [(m0, .inr (16, [.int 1, .ref kl, .null, .ref tl]))]) (t1 := []) hP hD hK hS0 hA [0] [] rfl rfl (by decide) (by decide) ht hvm hk1 hB
  generalize H1 = H at hP hS ⊢
  have hP : va_P D vwCl ([(m0, .inr (16, [.int 1, .ref kl, .null, .ref tl]))]) H := hP
  have hD : va_D A ([(m0, .inr (16, [.int 1, .ref kl, .null, .ref tl]))]) := hD
  have hK : va_K D vwCl [] s := hK
  refine W.widen (k := 0) (n := 0) (Nat.le_of_ble_eq_true rfl) (Nat.le_of_ble_eq_true rfl) ?_
  subst hw
  refine lv_if_ne (tgt := 36) hx hb dX9_value_8 (by decide) (fun _ => ?_) (fun c_8 => absurd c_8 (by decide))
  refine lv_iconst (v := (-1)) hx hb dX9_value_36 (by decide) ?_
  refine lv_goto (tgt := 51) hx hb dX9_value_37 (by decide) ?_
  refine W.widen (k := 0) (n := 0) (Nat.le_of_ble_eq_true rfl) (Nat.le_of_ble_eq_true rfl) ?_
  exact W.iret (v := (-1)) hx hb hr (fun t ht hW => ⟨⟨(-1), (), rfl, trivial, PB.at hP hK hD hW.alike ht [0] rfl (by decide) [] rfl⟩, hS.F ht⟩) hS.2.2 dX9_value_51

def wm_c_X9_best : List Cond := .code yX9_best cX9_best 4 (some .int) :: ([.code yX9_begins cX9_begins 1 none, .fieldLink RX9 19 "SowingcourtModel" "thrown" "I", .methodLink RX9 33 yX9_begins, .instanceMethod yX9_begins, .selects RX9 yX9_begins yX9_begins, .initialized RX9, .code yX9_notOn cX9_notOn 1 (some .boolean), .fieldLink RX9 106 "SowingcourtModel" "game" "LSowingcourtModel$Game;", .code yX9_fails cX9_fails 3 (some .boolean), .methodLink RX9 50 yX9_fails, .instanceMethod yX9_fails, .selects RX9 yX9_fails yX9_fails, .methodLink RX9 128 yX9_notOn, .instanceMethod yX9_notOn, .selects RX9 yX9_notOn yX9_notOn] ++ wsX90)
set_option maxRecDepth 20000 in
theorem gd_c_X9_best_1 : GoodIn wm_c_X9_best (wsV RX9 33 RX9 yX9_begins wm_c_X9_begins) := goodIn_of _ (by decide +kernel)
set_option maxRecDepth 20000 in
theorem gd_c_X9_best_5 : GoodIn wm_c_X9_best (wsV RX9 128 RX9 yX9_notOn wm_c_X9_notOn) := goodIn_of _ (by decide +kernel)
set_option maxHeartbeats 4000000 in
set_option maxRecDepth 100000 in
theorem c_X9_best (l : Launch) (κ : Nat → Nat) (D : va_G) (sz : Nat) (m0 : Nat) (kl : Nat) (tl : Nat) (p0 : Int32)  : Met l yX9_best wm_c_X9_best ({ frames := 11, cells := 0, slots := 0, locals := 380 }) (va_Pc [.ref m0, .int p0] (PC κ D [] [(m0, .inr (16, [.int 0, .ref kl, .null, .ref tl]))] sz)) (va_Qi (fun (r : Int32) (_ : Unit) => True) (fun _ t => PB D [] [(m0, .inr (16, [.int 1, .ref kl, .null, .ref tl]))] (va_A [(m0, .inr (16, [.int 0, .ref kl, .null, .ref tl]))] sz) t) (va_A [(m0, .inr (16, [.int 0, .ref kl, .null, .ref tl]))] sz)) 0 0 (va_A [(m0, .inr (16, [.int 0, .ref kl, .null, .ref tl]))] sz) := by
  refine Met.ofW (cc := cX9_best) (maxL := 4) (ret := (some .int)) (by decide +kernel) rfl ?_
  intro p e s m args below meth c s₁ B hml hv
  obtain ⟨rfl, hsz, hP, hK, hD0, hE⟩ := hv
  have hx := B.exec
  have hb := B.bytes
  have hr := B.returns
  have hts := atoms_spec (ws := wm_c_X9_best) B.pre
  have hown : s.vm.findClass RX9 = some m.cls := findClass_of_methodNamed B.named
  have hlocks := B.notSynchronized
  have iRX9 : ∀ w ∈ u_ws RX9 TX9 4, w ∈ wm_c_X9_best := by decide +kernel
  subst hsz
  have hD := hD0.self (sz := s.heap.size)
  generalize hAe : va_A [(m0, .inr (16, [.int 0, .ref kl, .null, .ref tl]))] s.heap.size = A at hD hE ⊢
  have hA : ∀ q : Nat, s.heap.size ≤ q → A q := fun q h => by rw [← hAe]; exact Or.inr h
  have hS : va_S A s.heap s.heap [] := va_S.rf
  have hl := lv_entry ([.ref m0, .int p0]) (n := 4) (Nat.le_of_ble_eq_true rfl)
  rw [lg_entry_eq]
  generalize (lg_sl ([.ref m0, .int p0]) ++ List.replicate (4 - (lg_sl ([.ref m0, .int p0])).length) Slot.unset).toArray = ls at hl ⊢
  have hl : lv_has ls 4 [(0, .ref m0), (1, .int p0)] := hl
  refine lv_aload_n hx hb dX9_best_0 rfl (lv_at hl 0 rfl) ?_
  have hS0 := hS
  have hFc := va_free (wc := [(m0, .inr (16, [.int 0, .ref kl, .null, .ref tl]))]) hD hS hA [0] rfl
  refine va_callv (va_runV (As := []) (rest := []) ⟨hx, hb, hml, hown, hts⟩ (c_X9_begins l κ D (s.heap).size (m0) (kl) (tl) (0) ) (cwV 0 hts gd_c_X9_best_1 rfl rfl rfl (by decide +kernel) ⟨(Nat.le_of_ble_eq_true rfl), (Nat.le_of_ble_eq_true rfl)⟩) (preV hE hK hP hD hS hA [0] rfl (by decide) [] rfl (va_recv hK hP (ci := 16) (q0 := 0) rfl rfl)) rfl rfl hl.1 rfl (lv_room (Nat.le_of_ble_eq_true rfl)) dX9_best_1 ⟨(Nat.le_of_ble_eq_true rfl), (Nat.le_of_ble_eq_true rfl)⟩) hS (fun q _ h => hFc q h) hFc (fun u t H1 locs ht hvm hw hB hz1 hk1 hS => ?_)
  try dsimp only at hw
  obtain ⟨hP, hD, hK⟩ := jn (wc := [(m0, .inr (16, [.int 0, .ref kl, .null, .ref tl]))]) (wr := []) (w1 := [(m0, .inr (16, [.int 0, .ref kl, .null, .ref tl]))]) (t1 := []) hP hD hK hS0 hA [0] [] rfl rfl (by decide) (by decide) ht hvm hk1 hB
  generalize H1 = H at hP hS ⊢
  have hP : va_P D vwCl ([(m0, .inr (16, [.int 0, .ref kl, .null, .ref tl]))]) H := hP
  have hD : va_D A ([(m0, .inr (16, [.int 0, .ref kl, .null, .ref tl]))]) := hD
  have hK : va_K D vwCl [] s := hK
  refine W.widen (k := 0) (n := 0) (Nat.le_of_ble_eq_true rfl) (Nat.le_of_ble_eq_true rfl) ?_
  refine lv_aload_n hx hb dX9_best_4 rfl (lv_at hl 0 rfl) ?_
  have hS0 := hS
  have hFc := va_free (wc := [(m0, .inr (16, [.int 0, .ref kl, .null, .ref tl]))]) hD hS hA [0] rfl
  refine va_calli (va_runV (As := []) (rest := []) ⟨hx, hb, hml, hown, hts⟩ (c_X9_notOn l κ D (H).size (m0) (kl) (tl) ) (cwV 0 hts gd_c_X9_best_5 rfl rfl rfl (by decide +kernel) ⟨(Nat.le_of_ble_eq_true rfl), (Nat.le_of_ble_eq_true rfl)⟩) (preV hE hK hP hD hS hA [0] rfl (by decide) [] rfl (va_recv hK hP (ci := 16) (q0 := 0) rfl rfl)) rfl rfl hl.1 rfl (lv_room (Nat.le_of_ble_eq_true rfl)) dX9_best_5 ⟨(Nat.le_of_ble_eq_true rfl), (Nat.le_of_ble_eq_true rfl)⟩) hS (fun q _ h => hFc q h) hFc (fun r_2 u t H1 locs ht hvm hw hB hz1 hk1 hS => ?_)
  try dsimp only at hw
  obtain ⟨hP, hD, hK⟩ := jn (wc := [(m0, .inr (16, [.int 0, .ref kl, .null, .ref tl]))]) (wr := []) (w1 := [(m0, .inr (16, [.int 1, .ref kl, .null, .ref tl]))]) (t1 := []) hP hD hK hS0 hA [0] [] rfl rfl (by decide) (by decide) ht hvm hk1 hB
  generalize H1 = H at hP hS ⊢
  have hP : va_P D vwCl ([(m0, .inr (16, [.int 1, .ref kl, .null, .ref tl]))]) H := hP
  have hD : va_D A ([(m0, .inr (16, [.int 1, .ref kl, .null, .ref tl]))]) := hD
  have hK : va_K D vwCl [] s := hK
  refine W.widen (k := 0) (n := 0) (Nat.le_of_ble_eq_true rfl) (Nat.le_of_ble_eq_true rfl) ?_
  subst hw
  refine lv_if_ne (tgt := 54) hx hb dX9_best_8 (by decide) (fun _ => ?_) (fun c_8 => absurd c_8 (by decide))
  refine lv_iconst (v := (-1)) hx hb dX9_best_54 (by decide) ?_
  refine W.widen (k := 0) (n := 0) (Nat.le_of_ble_eq_true rfl) (Nat.le_of_ble_eq_true rfl) ?_
  exact W.iret (v := (-1)) hx hb hr (fun t ht hW => ⟨⟨(-1), (), rfl, trivial, PB.at hP hK hD hW.alike ht [0] rfl (by decide) [] rfl⟩, hS.F ht⟩) hS.2.2 dX9_best_55

def wm_c_X9_blunder : List Cond := .code yX9_blunder cX9_blunder 3 (some .int) :: ([.code yX9_begins cX9_begins 1 none, .fieldLink RX9 19 "SowingcourtModel" "thrown" "I", .methodLink RX9 33 yX9_begins, .instanceMethod yX9_begins, .selects RX9 yX9_begins yX9_begins, .initialized RX9, .code yX9_notOn cX9_notOn 1 (some .boolean), .fieldLink RX9 106 "SowingcourtModel" "game" "LSowingcourtModel$Game;", .code yX9_fails cX9_fails 3 (some .boolean), .methodLink RX9 50 yX9_fails, .instanceMethod yX9_fails, .selects RX9 yX9_fails yX9_fails, .methodLink RX9 128 yX9_notOn, .instanceMethod yX9_notOn, .selects RX9 yX9_notOn yX9_notOn] ++ wsX90)
set_option maxRecDepth 20000 in
theorem gd_c_X9_blunder_1 : GoodIn wm_c_X9_blunder (wsV RX9 33 RX9 yX9_begins wm_c_X9_begins) := goodIn_of _ (by decide +kernel)
set_option maxRecDepth 20000 in
theorem gd_c_X9_blunder_5 : GoodIn wm_c_X9_blunder (wsV RX9 128 RX9 yX9_notOn wm_c_X9_notOn) := goodIn_of _ (by decide +kernel)
set_option maxHeartbeats 4000000 in
set_option maxRecDepth 100000 in
theorem c_X9_blunder (l : Launch) (κ : Nat → Nat) (D : va_G) (sz : Nat) (m0 : Nat) (kl : Nat) (tl : Nat) (p0 : Int32) (p1 : Int32)  : Met l yX9_blunder wm_c_X9_blunder ({ frames := 11, cells := 0, slots := 0, locals := 380 }) (va_Pc [.ref m0, .int p0, .int p1] (PC κ D [] [(m0, .inr (16, [.int 0, .ref kl, .null, .ref tl]))] sz)) (va_Qi (fun (r : Int32) (_ : Unit) => True) (fun _ t => PB D [] [(m0, .inr (16, [.int 1, .ref kl, .null, .ref tl]))] (va_A [(m0, .inr (16, [.int 0, .ref kl, .null, .ref tl]))] sz) t) (va_A [(m0, .inr (16, [.int 0, .ref kl, .null, .ref tl]))] sz)) 0 0 (va_A [(m0, .inr (16, [.int 0, .ref kl, .null, .ref tl]))] sz) := by
  refine Met.ofW (cc := cX9_blunder) (maxL := 3) (ret := (some .int)) (by decide +kernel) rfl ?_
  intro p e s m args below meth c s₁ B hml hv
  obtain ⟨rfl, hsz, hP, hK, hD0, hE⟩ := hv
  have hx := B.exec
  have hb := B.bytes
  have hr := B.returns
  have hts := atoms_spec (ws := wm_c_X9_blunder) B.pre
  have hown : s.vm.findClass RX9 = some m.cls := findClass_of_methodNamed B.named
  have hlocks := B.notSynchronized
  have iRX9 : ∀ w ∈ u_ws RX9 TX9 4, w ∈ wm_c_X9_blunder := by decide +kernel
  subst hsz
  have hD := hD0.self (sz := s.heap.size)
  generalize hAe : va_A [(m0, .inr (16, [.int 0, .ref kl, .null, .ref tl]))] s.heap.size = A at hD hE ⊢
  have hA : ∀ q : Nat, s.heap.size ≤ q → A q := fun q h => by rw [← hAe]; exact Or.inr h
  have hS : va_S A s.heap s.heap [] := va_S.rf
  have hl := lv_entry ([.ref m0, .int p0, .int p1]) (n := 3) (Nat.le_of_ble_eq_true rfl)
  rw [lg_entry_eq]
  generalize (lg_sl ([.ref m0, .int p0, .int p1]) ++ List.replicate (3 - (lg_sl ([.ref m0, .int p0, .int p1])).length) Slot.unset).toArray = ls at hl ⊢
  have hl : lv_has ls 3 [(0, .ref m0), (1, .int p0), (2, .int p1)] := hl
  refine lv_aload_n hx hb dX9_blunder_0 rfl (lv_at hl 0 rfl) ?_
  have hS0 := hS
  have hFc := va_free (wc := [(m0, .inr (16, [.int 0, .ref kl, .null, .ref tl]))]) hD hS hA [0] rfl
  refine va_callv (va_runV (As := []) (rest := []) ⟨hx, hb, hml, hown, hts⟩ (c_X9_begins l κ D (s.heap).size (m0) (kl) (tl) (0) ) (cwV 0 hts gd_c_X9_blunder_1 rfl rfl rfl (by decide +kernel) ⟨(Nat.le_of_ble_eq_true rfl), (Nat.le_of_ble_eq_true rfl)⟩) (preV hE hK hP hD hS hA [0] rfl (by decide) [] rfl (va_recv hK hP (ci := 16) (q0 := 0) rfl rfl)) rfl rfl hl.1 rfl (lv_room (Nat.le_of_ble_eq_true rfl)) dX9_blunder_1 ⟨(Nat.le_of_ble_eq_true rfl), (Nat.le_of_ble_eq_true rfl)⟩) hS (fun q _ h => hFc q h) hFc (fun u t H1 locs ht hvm hw hB hz1 hk1 hS => ?_)
  try dsimp only at hw
  obtain ⟨hP, hD, hK⟩ := jn (wc := [(m0, .inr (16, [.int 0, .ref kl, .null, .ref tl]))]) (wr := []) (w1 := [(m0, .inr (16, [.int 0, .ref kl, .null, .ref tl]))]) (t1 := []) hP hD hK hS0 hA [0] [] rfl rfl (by decide) (by decide) ht hvm hk1 hB
  generalize H1 = H at hP hS ⊢
  have hP : va_P D vwCl ([(m0, .inr (16, [.int 0, .ref kl, .null, .ref tl]))]) H := hP
  have hD : va_D A ([(m0, .inr (16, [.int 0, .ref kl, .null, .ref tl]))]) := hD
  have hK : va_K D vwCl [] s := hK
  refine W.widen (k := 0) (n := 0) (Nat.le_of_ble_eq_true rfl) (Nat.le_of_ble_eq_true rfl) ?_
  refine lv_aload_n hx hb dX9_blunder_4 rfl (lv_at hl 0 rfl) ?_
  have hS0 := hS
  have hFc := va_free (wc := [(m0, .inr (16, [.int 0, .ref kl, .null, .ref tl]))]) hD hS hA [0] rfl
  refine va_calli (va_runV (As := []) (rest := []) ⟨hx, hb, hml, hown, hts⟩ (c_X9_notOn l κ D (H).size (m0) (kl) (tl) ) (cwV 0 hts gd_c_X9_blunder_5 rfl rfl rfl (by decide +kernel) ⟨(Nat.le_of_ble_eq_true rfl), (Nat.le_of_ble_eq_true rfl)⟩) (preV hE hK hP hD hS hA [0] rfl (by decide) [] rfl (va_recv hK hP (ci := 16) (q0 := 0) rfl rfl)) rfl rfl hl.1 rfl (lv_room (Nat.le_of_ble_eq_true rfl)) dX9_blunder_5 ⟨(Nat.le_of_ble_eq_true rfl), (Nat.le_of_ble_eq_true rfl)⟩) hS (fun q _ h => hFc q h) hFc (fun r_2 u t H1 locs ht hvm hw hB hz1 hk1 hS => ?_)
  try dsimp only at hw
  obtain ⟨hP, hD, hK⟩ := jn (wc := [(m0, .inr (16, [.int 0, .ref kl, .null, .ref tl]))]) (wr := []) (w1 := [(m0, .inr (16, [.int 1, .ref kl, .null, .ref tl]))]) (t1 := []) hP hD hK hS0 hA [0] [] rfl rfl (by decide) (by decide) ht hvm hk1 hB
  generalize H1 = H at hP hS ⊢
  have hP : va_P D vwCl ([(m0, .inr (16, [.int 1, .ref kl, .null, .ref tl]))]) H := hP
  have hD : va_D A ([(m0, .inr (16, [.int 1, .ref kl, .null, .ref tl]))]) := hD
  have hK : va_K D vwCl [] s := hK
  refine W.widen (k := 0) (n := 0) (Nat.le_of_ble_eq_true rfl) (Nat.le_of_ble_eq_true rfl) ?_
  subst hw
  refine lv_if_ne (tgt := 86) hx hb dX9_blunder_8 (by decide) (fun _ => ?_) (fun c_8 => absurd c_8 (by decide))
  refine lv_iconst (v := (-1)) hx hb dX9_blunder_86 (by decide) ?_
  refine W.widen (k := 0) (n := 0) (Nat.le_of_ble_eq_true rfl) (Nat.le_of_ble_eq_true rfl) ?_
  exact W.iret (v := (-1)) hx hb hr (fun t ht hW => ⟨⟨(-1), (), rfl, trivial, PB.at hP hK hD hW.alike ht [0] rfl (by decide) [] rfl⟩, hS.F ht⟩) hS.2.2 dX9_blunder_87

def wm_c_X9_isPuzzle : List Cond := .code yX9_isPuzzle cX9_isPuzzle 5 (some .boolean) :: ([.code yX9_begins cX9_begins 1 none, .fieldLink RX9 19 "SowingcourtModel" "thrown" "I", .methodLink RX9 33 yX9_begins, .instanceMethod yX9_begins, .selects RX9 yX9_begins yX9_begins, .initialized RX9, .code yX9_notOn cX9_notOn 1 (some .boolean), .fieldLink RX9 106 "SowingcourtModel" "game" "LSowingcourtModel$Game;", .code yX9_fails cX9_fails 3 (some .boolean), .methodLink RX9 50 yX9_fails, .instanceMethod yX9_fails, .selects RX9 yX9_fails yX9_fails, .methodLink RX9 128 yX9_notOn, .instanceMethod yX9_notOn, .selects RX9 yX9_notOn yX9_notOn] ++ wsX90)
set_option maxRecDepth 20000 in
theorem gd_c_X9_isPuzzle_1 : GoodIn wm_c_X9_isPuzzle (wsV RX9 33 RX9 yX9_begins wm_c_X9_begins) := goodIn_of _ (by decide +kernel)
set_option maxRecDepth 20000 in
theorem gd_c_X9_isPuzzle_5 : GoodIn wm_c_X9_isPuzzle (wsV RX9 128 RX9 yX9_notOn wm_c_X9_notOn) := goodIn_of _ (by decide +kernel)
set_option maxHeartbeats 4000000 in
set_option maxRecDepth 100000 in
theorem c_X9_isPuzzle (l : Launch) (κ : Nat → Nat) (D : va_G) (sz : Nat) (m0 : Nat) (kl : Nat) (tl : Nat) (p0 : Int32)  : Met l yX9_isPuzzle wm_c_X9_isPuzzle ({ frames := 11, cells := 0, slots := 0, locals := 380 }) (va_Pc [.ref m0, .int p0] (PC κ D [] [(m0, .inr (16, [.int 0, .ref kl, .null, .ref tl]))] sz)) (va_Qi (fun (r : Int32) (_ : Unit) => True) (fun _ t => PB D [] [(m0, .inr (16, [.int 1, .ref kl, .null, .ref tl]))] (va_A [(m0, .inr (16, [.int 0, .ref kl, .null, .ref tl]))] sz) t) (va_A [(m0, .inr (16, [.int 0, .ref kl, .null, .ref tl]))] sz)) 0 0 (va_A [(m0, .inr (16, [.int 0, .ref kl, .null, .ref tl]))] sz) := by
  refine Met.ofW (cc := cX9_isPuzzle) (maxL := 5) (ret := (some .boolean)) (by decide +kernel) rfl ?_
  intro p e s m args below meth c s₁ B hml hv
  obtain ⟨rfl, hsz, hP, hK, hD0, hE⟩ := hv
  have hx := B.exec
  have hb := B.bytes
  have hr := B.returns
  have hts := atoms_spec (ws := wm_c_X9_isPuzzle) B.pre
  have hown : s.vm.findClass RX9 = some m.cls := findClass_of_methodNamed B.named
  have hlocks := B.notSynchronized
  have iRX9 : ∀ w ∈ u_ws RX9 TX9 4, w ∈ wm_c_X9_isPuzzle := by decide +kernel
  subst hsz
  have hD := hD0.self (sz := s.heap.size)
  generalize hAe : va_A [(m0, .inr (16, [.int 0, .ref kl, .null, .ref tl]))] s.heap.size = A at hD hE ⊢
  have hA : ∀ q : Nat, s.heap.size ≤ q → A q := fun q h => by rw [← hAe]; exact Or.inr h
  have hS : va_S A s.heap s.heap [] := va_S.rf
  have hl := lv_entry ([.ref m0, .int p0]) (n := 5) (Nat.le_of_ble_eq_true rfl)
  rw [lg_entry_eq]
  generalize (lg_sl ([.ref m0, .int p0]) ++ List.replicate (5 - (lg_sl ([.ref m0, .int p0])).length) Slot.unset).toArray = ls at hl ⊢
  have hl : lv_has ls 5 [(0, .ref m0), (1, .int p0)] := hl
  refine lv_aload_n hx hb dX9_isPuzzle_0 rfl (lv_at hl 0 rfl) ?_
  have hS0 := hS
  have hFc := va_free (wc := [(m0, .inr (16, [.int 0, .ref kl, .null, .ref tl]))]) hD hS hA [0] rfl
  refine va_callv (va_runV (As := []) (rest := []) ⟨hx, hb, hml, hown, hts⟩ (c_X9_begins l κ D (s.heap).size (m0) (kl) (tl) (0) ) (cwV 0 hts gd_c_X9_isPuzzle_1 rfl rfl rfl (by decide +kernel) ⟨(Nat.le_of_ble_eq_true rfl), (Nat.le_of_ble_eq_true rfl)⟩) (preV hE hK hP hD hS hA [0] rfl (by decide) [] rfl (va_recv hK hP (ci := 16) (q0 := 0) rfl rfl)) rfl rfl hl.1 rfl (lv_room (Nat.le_of_ble_eq_true rfl)) dX9_isPuzzle_1 ⟨(Nat.le_of_ble_eq_true rfl), (Nat.le_of_ble_eq_true rfl)⟩) hS (fun q _ h => hFc q h) hFc (fun u t H1 locs ht hvm hw hB hz1 hk1 hS => ?_)
  try dsimp only at hw
  obtain ⟨hP, hD, hK⟩ := jn (wc := [(m0, .inr (16, [.int 0, .ref kl, .null, .ref tl]))]) (wr := []) (w1 := [(m0, .inr (16, [.int 0, .ref kl, .null, .ref tl]))]) (t1 := []) hP hD hK hS0 hA [0] [] rfl rfl (by decide) (by decide) ht hvm hk1 hB
  generalize H1 = H at hP hS ⊢
  have hP : va_P D vwCl ([(m0, .inr (16, [.int 0, .ref kl, .null, .ref tl]))]) H := hP
  have hD : va_D A ([(m0, .inr (16, [.int 0, .ref kl, .null, .ref tl]))]) := hD
  have hK : va_K D vwCl [] s := hK
  refine W.widen (k := 0) (n := 0) (Nat.le_of_ble_eq_true rfl) (Nat.le_of_ble_eq_true rfl) ?_
  refine lv_aload_n hx hb dX9_isPuzzle_4 rfl (lv_at hl 0 rfl) ?_
  have hS0 := hS
  have hFc := va_free (wc := [(m0, .inr (16, [.int 0, .ref kl, .null, .ref tl]))]) hD hS hA [0] rfl
  refine va_calli (va_runV (As := []) (rest := []) ⟨hx, hb, hml, hown, hts⟩ (c_X9_notOn l κ D (H).size (m0) (kl) (tl) ) (cwV 0 hts gd_c_X9_isPuzzle_5 rfl rfl rfl (by decide +kernel) ⟨(Nat.le_of_ble_eq_true rfl), (Nat.le_of_ble_eq_true rfl)⟩) (preV hE hK hP hD hS hA [0] rfl (by decide) [] rfl (va_recv hK hP (ci := 16) (q0 := 0) rfl rfl)) rfl rfl hl.1 rfl (lv_room (Nat.le_of_ble_eq_true rfl)) dX9_isPuzzle_5 ⟨(Nat.le_of_ble_eq_true rfl), (Nat.le_of_ble_eq_true rfl)⟩) hS (fun q _ h => hFc q h) hFc (fun r_2 u t H1 locs ht hvm hw hB hz1 hk1 hS => ?_)
  try dsimp only at hw
  obtain ⟨hP, hD, hK⟩ := jn (wc := [(m0, .inr (16, [.int 0, .ref kl, .null, .ref tl]))]) (wr := []) (w1 := [(m0, .inr (16, [.int 1, .ref kl, .null, .ref tl]))]) (t1 := []) hP hD hK hS0 hA [0] [] rfl rfl (by decide) (by decide) ht hvm hk1 hB
  generalize H1 = H at hP hS ⊢
  have hP : va_P D vwCl ([(m0, .inr (16, [.int 1, .ref kl, .null, .ref tl]))]) H := hP
  have hD : va_D A ([(m0, .inr (16, [.int 1, .ref kl, .null, .ref tl]))]) := hD
  have hK : va_K D vwCl [] s := hK
  refine W.widen (k := 0) (n := 0) (Nat.le_of_ble_eq_true rfl) (Nat.le_of_ble_eq_true rfl) ?_
  subst hw
  refine lv_if_ne (tgt := 36) hx hb dX9_isPuzzle_8 (by decide) (fun _ => ?_) (fun c_8 => absurd c_8 (by decide))
  refine lv_iconst (v := 0) hx hb dX9_isPuzzle_36 (by decide) ?_
  refine W.widen (k := 0) (n := 0) (Nat.le_of_ble_eq_true rfl) (Nat.le_of_ble_eq_true rfl) ?_
  exact W.zret (v := 0) hx hb hr (by decide) (fun t ht hW => ⟨⟨0, (), rfl, trivial, PB.at hP hK hD hW.alike ht [0] rfl (by decide) [] rfl⟩, hS.F ht⟩) hS.2.2 dX9_isPuzzle_37

def wm_c_X9_freeShare : List Cond := .code yX9_freeShare cX9_freeShare 3 (some .float) :: ([.code yX9_begins cX9_begins 1 none, .fieldLink RX9 19 "SowingcourtModel" "thrown" "I", .methodLink RX9 33 yX9_begins, .instanceMethod yX9_begins, .selects RX9 yX9_begins yX9_begins, .initialized RX9, .code yX9_notOn cX9_notOn 1 (some .boolean), .fieldLink RX9 106 "SowingcourtModel" "game" "LSowingcourtModel$Game;", .code yX9_fails cX9_fails 3 (some .boolean), .methodLink RX9 50 yX9_fails, .instanceMethod yX9_fails, .selects RX9 yX9_fails yX9_fails, .methodLink RX9 128 yX9_notOn, .instanceMethod yX9_notOn, .selects RX9 yX9_notOn yX9_notOn] ++ wsX90)
set_option maxRecDepth 20000 in
theorem gd_c_X9_freeShare_1 : GoodIn wm_c_X9_freeShare (wsV RX9 33 RX9 yX9_begins wm_c_X9_begins) := goodIn_of _ (by decide +kernel)
set_option maxRecDepth 20000 in
theorem gd_c_X9_freeShare_5 : GoodIn wm_c_X9_freeShare (wsV RX9 128 RX9 yX9_notOn wm_c_X9_notOn) := goodIn_of _ (by decide +kernel)
set_option maxHeartbeats 4000000 in
set_option maxRecDepth 100000 in
theorem c_X9_freeShare (l : Launch) (κ : Nat → Nat) (D : va_G) (sz : Nat) (m0 : Nat) (kl : Nat) (tl : Nat)  : Met l yX9_freeShare wm_c_X9_freeShare ({ frames := 11, cells := 0, slots := 0, locals := 380 }) (va_Pc [.ref m0] (PC κ D [] [(m0, .inr (16, [.int 0, .ref kl, .null, .ref tl]))] sz)) (va_Qf (fun (r : UInt32) (_ : Unit) => True) (fun _ t => PB D [] [(m0, .inr (16, [.int 1, .ref kl, .null, .ref tl]))] (va_A [(m0, .inr (16, [.int 0, .ref kl, .null, .ref tl]))] sz) t) (va_A [(m0, .inr (16, [.int 0, .ref kl, .null, .ref tl]))] sz)) 0 0 (va_A [(m0, .inr (16, [.int 0, .ref kl, .null, .ref tl]))] sz) := by
  refine Met.ofW (cc := cX9_freeShare) (maxL := 3) (ret := (some .float)) (by decide +kernel) rfl ?_
  intro p e s m args below meth c s₁ B hml hv
  obtain ⟨rfl, hsz, hP, hK, hD0, hE⟩ := hv
  have hx := B.exec
  have hb := B.bytes
  have hr := B.returns
  have hts := atoms_spec (ws := wm_c_X9_freeShare) B.pre
  have hown : s.vm.findClass RX9 = some m.cls := findClass_of_methodNamed B.named
  have hlocks := B.notSynchronized
  have iRX9 : ∀ w ∈ u_ws RX9 TX9 4, w ∈ wm_c_X9_freeShare := by decide +kernel
  subst hsz
  have hD := hD0.self (sz := s.heap.size)
  generalize hAe : va_A [(m0, .inr (16, [.int 0, .ref kl, .null, .ref tl]))] s.heap.size = A at hD hE ⊢
  have hA : ∀ q : Nat, s.heap.size ≤ q → A q := fun q h => by rw [← hAe]; exact Or.inr h
  have hS : va_S A s.heap s.heap [] := va_S.rf
  have hl := lv_entry ([.ref m0]) (n := 3) (Nat.le_of_ble_eq_true rfl)
  rw [lg_entry_eq]
  generalize (lg_sl ([.ref m0]) ++ List.replicate (3 - (lg_sl ([.ref m0])).length) Slot.unset).toArray = ls at hl ⊢
  have hl : lv_has ls 3 [(0, .ref m0)] := hl
  refine lv_aload_n hx hb dX9_freeShare_0 rfl (lv_at hl 0 rfl) ?_
  have hS0 := hS
  have hFc := va_free (wc := [(m0, .inr (16, [.int 0, .ref kl, .null, .ref tl]))]) hD hS hA [0] rfl
  refine va_callv (va_runV (As := []) (rest := []) ⟨hx, hb, hml, hown, hts⟩ (c_X9_begins l κ D (s.heap).size (m0) (kl) (tl) (0) ) (cwV 0 hts gd_c_X9_freeShare_1 rfl rfl rfl (by decide +kernel) ⟨(Nat.le_of_ble_eq_true rfl), (Nat.le_of_ble_eq_true rfl)⟩) (preV hE hK hP hD hS hA [0] rfl (by decide) [] rfl (va_recv hK hP (ci := 16) (q0 := 0) rfl rfl)) rfl rfl hl.1 rfl (lv_room (Nat.le_of_ble_eq_true rfl)) dX9_freeShare_1 ⟨(Nat.le_of_ble_eq_true rfl), (Nat.le_of_ble_eq_true rfl)⟩) hS (fun q _ h => hFc q h) hFc (fun u t H1 locs ht hvm hw hB hz1 hk1 hS => ?_)
  try dsimp only at hw
  obtain ⟨hP, hD, hK⟩ := jn (wc := [(m0, .inr (16, [.int 0, .ref kl, .null, .ref tl]))]) (wr := []) (w1 := [(m0, .inr (16, [.int 0, .ref kl, .null, .ref tl]))]) (t1 := []) hP hD hK hS0 hA [0] [] rfl rfl (by decide) (by decide) ht hvm hk1 hB
  generalize H1 = H at hP hS ⊢
  have hP : va_P D vwCl ([(m0, .inr (16, [.int 0, .ref kl, .null, .ref tl]))]) H := hP
  have hD : va_D A ([(m0, .inr (16, [.int 0, .ref kl, .null, .ref tl]))]) := hD
  have hK : va_K D vwCl [] s := hK
  refine W.widen (k := 0) (n := 0) (Nat.le_of_ble_eq_true rfl) (Nat.le_of_ble_eq_true rfl) ?_
  refine lv_aload_n hx hb dX9_freeShare_4 rfl (lv_at hl 0 rfl) ?_
  have hS0 := hS
  have hFc := va_free (wc := [(m0, .inr (16, [.int 0, .ref kl, .null, .ref tl]))]) hD hS hA [0] rfl
  refine va_calli (va_runV (As := []) (rest := []) ⟨hx, hb, hml, hown, hts⟩ (c_X9_notOn l κ D (H).size (m0) (kl) (tl) ) (cwV 0 hts gd_c_X9_freeShare_5 rfl rfl rfl (by decide +kernel) ⟨(Nat.le_of_ble_eq_true rfl), (Nat.le_of_ble_eq_true rfl)⟩) (preV hE hK hP hD hS hA [0] rfl (by decide) [] rfl (va_recv hK hP (ci := 16) (q0 := 0) rfl rfl)) rfl rfl hl.1 rfl (lv_room (Nat.le_of_ble_eq_true rfl)) dX9_freeShare_5 ⟨(Nat.le_of_ble_eq_true rfl), (Nat.le_of_ble_eq_true rfl)⟩) hS (fun q _ h => hFc q h) hFc (fun r_2 u t H1 locs ht hvm hw hB hz1 hk1 hS => ?_)
  try dsimp only at hw
  obtain ⟨hP, hD, hK⟩ := jn (wc := [(m0, .inr (16, [.int 0, .ref kl, .null, .ref tl]))]) (wr := []) (w1 := [(m0, .inr (16, [.int 1, .ref kl, .null, .ref tl]))]) (t1 := []) hP hD hK hS0 hA [0] [] rfl rfl (by decide) (by decide) ht hvm hk1 hB
  generalize H1 = H at hP hS ⊢
  have hP : va_P D vwCl ([(m0, .inr (16, [.int 1, .ref kl, .null, .ref tl]))]) H := hP
  have hD : va_D A ([(m0, .inr (16, [.int 1, .ref kl, .null, .ref tl]))]) := hD
  have hK : va_K D vwCl [] s := hK
  refine W.widen (k := 0) (n := 0) (Nat.le_of_ble_eq_true rfl) (Nat.le_of_ble_eq_true rfl) ?_
  subst hw
  refine lv_if_eq (tgt := 13) hx hb dX9_freeShare_8 (by decide) (fun c_8 => absurd c_8 (by decide)) (fun _ => ?_)
  refine lv_fconst0 hx hb dX9_freeShare_11 ?_
  refine W.widen (k := 0) (n := 0) (Nat.le_of_ble_eq_true rfl) (Nat.le_of_ble_eq_true rfl) ?_
  exact W.fret (v := 0) hx hb hr (fun t ht hW => ⟨⟨0, (), rfl, trivial, PB.at hP hK hD hW.alike ht [0] rfl (by decide) [] rfl⟩, hS.F ht⟩) hS.2.2 dX9_freeShare_12

def wm_c_X9_seeds : List Cond := .code yX9_seeds cX9_seeds 2 (some .int) :: ([.code yX9_begins cX9_begins 1 none, .fieldLink RX9 19 "SowingcourtModel" "thrown" "I", .methodLink RX9 33 yX9_begins, .instanceMethod yX9_begins, .selects RX9 yX9_begins yX9_begins, .initialized RX9, .code yX9_noGame cX9_noGame 1 (some .boolean), .fieldLink RX9 106 "SowingcourtModel" "game" "LSowingcourtModel$Game;", .code yX9_fails cX9_fails 3 (some .boolean), .methodLink RX9 50 yX9_fails, .instanceMethod yX9_fails, .selects RX9 yX9_fails yX9_fails, .methodLink RX9 168 yX9_noGame, .instanceMethod yX9_noGame, .selects RX9 yX9_noGame yX9_noGame] ++ wsX90)
set_option maxRecDepth 20000 in
theorem gd_c_X9_seeds_1 : GoodIn wm_c_X9_seeds (wsV RX9 33 RX9 yX9_begins wm_c_X9_begins) := goodIn_of _ (by decide +kernel)
set_option maxRecDepth 20000 in
theorem gd_c_X9_seeds_5 : GoodIn wm_c_X9_seeds (wsV RX9 168 RX9 yX9_noGame wm_c_X9_noGame) := goodIn_of _ (by decide +kernel)
set_option maxHeartbeats 4000000 in
set_option maxRecDepth 100000 in
theorem c_X9_seeds (l : Launch) (κ : Nat → Nat) (D : va_G) (sz : Nat) (m0 : Nat) (kl : Nat) (tl : Nat) (p0 : Int32)  : Met l yX9_seeds wm_c_X9_seeds ({ frames := 11, cells := 0, slots := 0, locals := 380 }) (va_Pc [.ref m0, .int p0] (PC κ D [] [(m0, .inr (16, [.int 0, .ref kl, .null, .ref tl]))] sz)) (va_Qi (fun (r : Int32) (_ : Unit) => True) (fun _ t => PB D [] [(m0, .inr (16, [.int 1, .ref kl, .null, .ref tl]))] (va_A [(m0, .inr (16, [.int 0, .ref kl, .null, .ref tl]))] sz) t) (va_A [(m0, .inr (16, [.int 0, .ref kl, .null, .ref tl]))] sz)) 0 0 (va_A [(m0, .inr (16, [.int 0, .ref kl, .null, .ref tl]))] sz) := by
  refine Met.ofW (cc := cX9_seeds) (maxL := 2) (ret := (some .int)) (by decide +kernel) rfl ?_
  intro p e s m args below meth c s₁ B hml hv
  obtain ⟨rfl, hsz, hP, hK, hD0, hE⟩ := hv
  have hx := B.exec
  have hb := B.bytes
  have hr := B.returns
  have hts := atoms_spec (ws := wm_c_X9_seeds) B.pre
  have hown : s.vm.findClass RX9 = some m.cls := findClass_of_methodNamed B.named
  have hlocks := B.notSynchronized
  have iRX9 : ∀ w ∈ u_ws RX9 TX9 4, w ∈ wm_c_X9_seeds := by decide +kernel
  subst hsz
  have hD := hD0.self (sz := s.heap.size)
  generalize hAe : va_A [(m0, .inr (16, [.int 0, .ref kl, .null, .ref tl]))] s.heap.size = A at hD hE ⊢
  have hA : ∀ q : Nat, s.heap.size ≤ q → A q := fun q h => by rw [← hAe]; exact Or.inr h
  have hS : va_S A s.heap s.heap [] := va_S.rf
  have hl := lv_entry ([.ref m0, .int p0]) (n := 2) (Nat.le_of_ble_eq_true rfl)
  rw [lg_entry_eq]
  generalize (lg_sl ([.ref m0, .int p0]) ++ List.replicate (2 - (lg_sl ([.ref m0, .int p0])).length) Slot.unset).toArray = ls at hl ⊢
  have hl : lv_has ls 2 [(0, .ref m0), (1, .int p0)] := hl
  refine lv_aload_n hx hb dX9_seeds_0 rfl (lv_at hl 0 rfl) ?_
  have hS0 := hS
  have hFc := va_free (wc := [(m0, .inr (16, [.int 0, .ref kl, .null, .ref tl]))]) hD hS hA [0] rfl
  refine va_callv (va_runV (As := []) (rest := []) ⟨hx, hb, hml, hown, hts⟩ (c_X9_begins l κ D (s.heap).size (m0) (kl) (tl) (0) ) (cwV 0 hts gd_c_X9_seeds_1 rfl rfl rfl (by decide +kernel) ⟨(Nat.le_of_ble_eq_true rfl), (Nat.le_of_ble_eq_true rfl)⟩) (preV hE hK hP hD hS hA [0] rfl (by decide) [] rfl (va_recv hK hP (ci := 16) (q0 := 0) rfl rfl)) rfl rfl hl.1 rfl (lv_room (Nat.le_of_ble_eq_true rfl)) dX9_seeds_1 ⟨(Nat.le_of_ble_eq_true rfl), (Nat.le_of_ble_eq_true rfl)⟩) hS (fun q _ h => hFc q h) hFc (fun u t H1 locs ht hvm hw hB hz1 hk1 hS => ?_)
  try dsimp only at hw
  obtain ⟨hP, hD, hK⟩ := jn (wc := [(m0, .inr (16, [.int 0, .ref kl, .null, .ref tl]))]) (wr := []) (w1 := [(m0, .inr (16, [.int 0, .ref kl, .null, .ref tl]))]) (t1 := []) hP hD hK hS0 hA [0] [] rfl rfl (by decide) (by decide) ht hvm hk1 hB
  generalize H1 = H at hP hS ⊢
  have hP : va_P D vwCl ([(m0, .inr (16, [.int 0, .ref kl, .null, .ref tl]))]) H := hP
  have hD : va_D A ([(m0, .inr (16, [.int 0, .ref kl, .null, .ref tl]))]) := hD
  have hK : va_K D vwCl [] s := hK
  refine W.widen (k := 0) (n := 0) (Nat.le_of_ble_eq_true rfl) (Nat.le_of_ble_eq_true rfl) ?_
  refine lv_aload_n hx hb dX9_seeds_4 rfl (lv_at hl 0 rfl) ?_
  have hS0 := hS
  have hFc := va_free (wc := [(m0, .inr (16, [.int 0, .ref kl, .null, .ref tl]))]) hD hS hA [0] rfl
  refine va_calli (va_runV (As := []) (rest := []) ⟨hx, hb, hml, hown, hts⟩ (c_X9_noGame l κ D (H).size (m0) (kl) (tl) ) (cwV 0 hts gd_c_X9_seeds_5 rfl rfl rfl (by decide +kernel) ⟨(Nat.le_of_ble_eq_true rfl), (Nat.le_of_ble_eq_true rfl)⟩) (preV hE hK hP hD hS hA [0] rfl (by decide) [] rfl (va_recv hK hP (ci := 16) (q0 := 0) rfl rfl)) rfl rfl hl.1 rfl (lv_room (Nat.le_of_ble_eq_true rfl)) dX9_seeds_5 ⟨(Nat.le_of_ble_eq_true rfl), (Nat.le_of_ble_eq_true rfl)⟩) hS (fun q _ h => hFc q h) hFc (fun r_2 u t H1 locs ht hvm hw hB hz1 hk1 hS => ?_)
  try dsimp only at hw
  obtain ⟨hP, hD, hK⟩ := jn (wc := [(m0, .inr (16, [.int 0, .ref kl, .null, .ref tl]))]) (wr := []) (w1 := [(m0, .inr (16, [.int 1, .ref kl, .null, .ref tl]))]) (t1 := []) hP hD hK hS0 hA [0] [] rfl rfl (by decide) (by decide) ht hvm hk1 hB
  generalize H1 = H at hP hS ⊢
  have hP : va_P D vwCl ([(m0, .inr (16, [.int 1, .ref kl, .null, .ref tl]))]) H := hP
  have hD : va_D A ([(m0, .inr (16, [.int 1, .ref kl, .null, .ref tl]))]) := hD
  have hK : va_K D vwCl [] s := hK
  refine W.widen (k := 0) (n := 0) (Nat.le_of_ble_eq_true rfl) (Nat.le_of_ble_eq_true rfl) ?_
  subst hw
  refine lv_if_ne (tgt := 32) hx hb dX9_seeds_8 (by decide) (fun _ => ?_) (fun c_8 => absurd c_8 (by decide))
  refine lv_iconst (v := (-1)) hx hb dX9_seeds_32 (by decide) ?_
  refine lv_goto (tgt := 48) hx hb dX9_seeds_33 (by decide) ?_
  refine W.widen (k := 0) (n := 0) (Nat.le_of_ble_eq_true rfl) (Nat.le_of_ble_eq_true rfl) ?_
  exact W.iret (v := (-1)) hx hb hr (fun t ht hW => ⟨⟨(-1), (), rfl, trivial, PB.at hP hK hD hW.alike ht [0] rfl (by decide) [] rfl⟩, hS.F ht⟩) hS.2.2 dX9_seeds_48

def wm_c_X9_store : List Cond := .code yX9_store cX9_store 2 (some .int) :: ([.code yX9_begins cX9_begins 1 none, .fieldLink RX9 19 "SowingcourtModel" "thrown" "I", .methodLink RX9 33 yX9_begins, .instanceMethod yX9_begins, .selects RX9 yX9_begins yX9_begins, .initialized RX9, .code yX9_noGame cX9_noGame 1 (some .boolean), .fieldLink RX9 106 "SowingcourtModel" "game" "LSowingcourtModel$Game;", .code yX9_fails cX9_fails 3 (some .boolean), .methodLink RX9 50 yX9_fails, .instanceMethod yX9_fails, .selects RX9 yX9_fails yX9_fails, .methodLink RX9 168 yX9_noGame, .instanceMethod yX9_noGame, .selects RX9 yX9_noGame yX9_noGame] ++ wsX90)
set_option maxRecDepth 20000 in
theorem gd_c_X9_store_1 : GoodIn wm_c_X9_store (wsV RX9 33 RX9 yX9_begins wm_c_X9_begins) := goodIn_of _ (by decide +kernel)
set_option maxRecDepth 20000 in
theorem gd_c_X9_store_5 : GoodIn wm_c_X9_store (wsV RX9 168 RX9 yX9_noGame wm_c_X9_noGame) := goodIn_of _ (by decide +kernel)
set_option maxHeartbeats 4000000 in
set_option maxRecDepth 100000 in
theorem c_X9_store (l : Launch) (κ : Nat → Nat) (D : va_G) (sz : Nat) (m0 : Nat) (kl : Nat) (tl : Nat) (p0 : Int32)  : Met l yX9_store wm_c_X9_store ({ frames := 11, cells := 0, slots := 0, locals := 380 }) (va_Pc [.ref m0, .int p0] (PC κ D [] [(m0, .inr (16, [.int 0, .ref kl, .null, .ref tl]))] sz)) (va_Qi (fun (r : Int32) (_ : Unit) => True) (fun _ t => PB D [] [(m0, .inr (16, [.int 1, .ref kl, .null, .ref tl]))] (va_A [(m0, .inr (16, [.int 0, .ref kl, .null, .ref tl]))] sz) t) (va_A [(m0, .inr (16, [.int 0, .ref kl, .null, .ref tl]))] sz)) 0 0 (va_A [(m0, .inr (16, [.int 0, .ref kl, .null, .ref tl]))] sz) := by
  refine Met.ofW (cc := cX9_store) (maxL := 2) (ret := (some .int)) (by decide +kernel) rfl ?_
  intro p e s m args below meth c s₁ B hml hv
  obtain ⟨rfl, hsz, hP, hK, hD0, hE⟩ := hv
  have hx := B.exec
  have hb := B.bytes
  have hr := B.returns
  have hts := atoms_spec (ws := wm_c_X9_store) B.pre
  have hown : s.vm.findClass RX9 = some m.cls := findClass_of_methodNamed B.named
  have hlocks := B.notSynchronized
  have iRX9 : ∀ w ∈ u_ws RX9 TX9 4, w ∈ wm_c_X9_store := by decide +kernel
  subst hsz
  have hD := hD0.self (sz := s.heap.size)
  generalize hAe : va_A [(m0, .inr (16, [.int 0, .ref kl, .null, .ref tl]))] s.heap.size = A at hD hE ⊢
  have hA : ∀ q : Nat, s.heap.size ≤ q → A q := fun q h => by rw [← hAe]; exact Or.inr h
  have hS : va_S A s.heap s.heap [] := va_S.rf
  have hl := lv_entry ([.ref m0, .int p0]) (n := 2) (Nat.le_of_ble_eq_true rfl)
  rw [lg_entry_eq]
  generalize (lg_sl ([.ref m0, .int p0]) ++ List.replicate (2 - (lg_sl ([.ref m0, .int p0])).length) Slot.unset).toArray = ls at hl ⊢
  have hl : lv_has ls 2 [(0, .ref m0), (1, .int p0)] := hl
  refine lv_aload_n hx hb dX9_store_0 rfl (lv_at hl 0 rfl) ?_
  have hS0 := hS
  have hFc := va_free (wc := [(m0, .inr (16, [.int 0, .ref kl, .null, .ref tl]))]) hD hS hA [0] rfl
  refine va_callv (va_runV (As := []) (rest := []) ⟨hx, hb, hml, hown, hts⟩ (c_X9_begins l κ D (s.heap).size (m0) (kl) (tl) (0) ) (cwV 0 hts gd_c_X9_store_1 rfl rfl rfl (by decide +kernel) ⟨(Nat.le_of_ble_eq_true rfl), (Nat.le_of_ble_eq_true rfl)⟩) (preV hE hK hP hD hS hA [0] rfl (by decide) [] rfl (va_recv hK hP (ci := 16) (q0 := 0) rfl rfl)) rfl rfl hl.1 rfl (lv_room (Nat.le_of_ble_eq_true rfl)) dX9_store_1 ⟨(Nat.le_of_ble_eq_true rfl), (Nat.le_of_ble_eq_true rfl)⟩) hS (fun q _ h => hFc q h) hFc (fun u t H1 locs ht hvm hw hB hz1 hk1 hS => ?_)
  try dsimp only at hw
  obtain ⟨hP, hD, hK⟩ := jn (wc := [(m0, .inr (16, [.int 0, .ref kl, .null, .ref tl]))]) (wr := []) (w1 := [(m0, .inr (16, [.int 0, .ref kl, .null, .ref tl]))]) (t1 := []) hP hD hK hS0 hA [0] [] rfl rfl (by decide) (by decide) ht hvm hk1 hB
  generalize H1 = H at hP hS ⊢
  have hP : va_P D vwCl ([(m0, .inr (16, [.int 0, .ref kl, .null, .ref tl]))]) H := hP
  have hD : va_D A ([(m0, .inr (16, [.int 0, .ref kl, .null, .ref tl]))]) := hD
  have hK : va_K D vwCl [] s := hK
  refine W.widen (k := 0) (n := 0) (Nat.le_of_ble_eq_true rfl) (Nat.le_of_ble_eq_true rfl) ?_
  refine lv_aload_n hx hb dX9_store_4 rfl (lv_at hl 0 rfl) ?_
  have hS0 := hS
  have hFc := va_free (wc := [(m0, .inr (16, [.int 0, .ref kl, .null, .ref tl]))]) hD hS hA [0] rfl
  refine va_calli (va_runV (As := []) (rest := []) ⟨hx, hb, hml, hown, hts⟩ (c_X9_noGame l κ D (H).size (m0) (kl) (tl) ) (cwV 0 hts gd_c_X9_store_5 rfl rfl rfl (by decide +kernel) ⟨(Nat.le_of_ble_eq_true rfl), (Nat.le_of_ble_eq_true rfl)⟩) (preV hE hK hP hD hS hA [0] rfl (by decide) [] rfl (va_recv hK hP (ci := 16) (q0 := 0) rfl rfl)) rfl rfl hl.1 rfl (lv_room (Nat.le_of_ble_eq_true rfl)) dX9_store_5 ⟨(Nat.le_of_ble_eq_true rfl), (Nat.le_of_ble_eq_true rfl)⟩) hS (fun q _ h => hFc q h) hFc (fun r_2 u t H1 locs ht hvm hw hB hz1 hk1 hS => ?_)
  try dsimp only at hw
  obtain ⟨hP, hD, hK⟩ := jn (wc := [(m0, .inr (16, [.int 0, .ref kl, .null, .ref tl]))]) (wr := []) (w1 := [(m0, .inr (16, [.int 1, .ref kl, .null, .ref tl]))]) (t1 := []) hP hD hK hS0 hA [0] [] rfl rfl (by decide) (by decide) ht hvm hk1 hB
  generalize H1 = H at hP hS ⊢
  have hP : va_P D vwCl ([(m0, .inr (16, [.int 1, .ref kl, .null, .ref tl]))]) H := hP
  have hD : va_D A ([(m0, .inr (16, [.int 1, .ref kl, .null, .ref tl]))]) := hD
  have hK : va_K D vwCl [] s := hK
  refine W.widen (k := 0) (n := 0) (Nat.le_of_ble_eq_true rfl) (Nat.le_of_ble_eq_true rfl) ?_
  subst hw
  refine lv_if_ne (tgt := 34) hx hb dX9_store_8 (by decide) (fun _ => ?_) (fun c_8 => absurd c_8 (by decide))
  refine lv_iconst (v := (-1)) hx hb dX9_store_34 (by decide) ?_
  refine lv_goto (tgt := 50) hx hb dX9_store_35 (by decide) ?_
  refine W.widen (k := 0) (n := 0) (Nat.le_of_ble_eq_true rfl) (Nat.le_of_ble_eq_true rfl) ?_
  exact W.iret (v := (-1)) hx hb hr (fun t ht hW => ⟨⟨(-1), (), rfl, trivial, PB.at hP hK hD hW.alike ht [0] rfl (by decide) [] rfl⟩, hS.F ht⟩) hS.2.2 dX9_store_50

def wm_c_X9_isOver : List Cond := .code yX9_isOver cX9_isOver 1 (some .boolean) :: ([.code yX9_begins cX9_begins 1 none, .fieldLink RX9 19 "SowingcourtModel" "thrown" "I", .methodLink RX9 33 yX9_begins, .instanceMethod yX9_begins, .selects RX9 yX9_begins yX9_begins, .initialized RX9, .code yX9_noGame cX9_noGame 1 (some .boolean), .fieldLink RX9 106 "SowingcourtModel" "game" "LSowingcourtModel$Game;", .code yX9_fails cX9_fails 3 (some .boolean), .methodLink RX9 50 yX9_fails, .instanceMethod yX9_fails, .selects RX9 yX9_fails yX9_fails, .methodLink RX9 168 yX9_noGame, .instanceMethod yX9_noGame, .selects RX9 yX9_noGame yX9_noGame] ++ wsX90)
set_option maxRecDepth 20000 in
theorem gd_c_X9_isOver_1 : GoodIn wm_c_X9_isOver (wsV RX9 33 RX9 yX9_begins wm_c_X9_begins) := goodIn_of _ (by decide +kernel)
set_option maxRecDepth 20000 in
theorem gd_c_X9_isOver_5 : GoodIn wm_c_X9_isOver (wsV RX9 168 RX9 yX9_noGame wm_c_X9_noGame) := goodIn_of _ (by decide +kernel)
set_option maxHeartbeats 4000000 in
set_option maxRecDepth 100000 in
theorem c_X9_isOver (l : Launch) (κ : Nat → Nat) (D : va_G) (sz : Nat) (m0 : Nat) (kl : Nat) (tl : Nat)  : Met l yX9_isOver wm_c_X9_isOver ({ frames := 11, cells := 0, slots := 0, locals := 380 }) (va_Pc [.ref m0] (PC κ D [] [(m0, .inr (16, [.int 0, .ref kl, .null, .ref tl]))] sz)) (va_Qi (fun (r : Int32) (_ : Unit) => True) (fun _ t => PB D [] [(m0, .inr (16, [.int 1, .ref kl, .null, .ref tl]))] (va_A [(m0, .inr (16, [.int 0, .ref kl, .null, .ref tl]))] sz) t) (va_A [(m0, .inr (16, [.int 0, .ref kl, .null, .ref tl]))] sz)) 0 0 (va_A [(m0, .inr (16, [.int 0, .ref kl, .null, .ref tl]))] sz) := by
  refine Met.ofW (cc := cX9_isOver) (maxL := 1) (ret := (some .boolean)) (by decide +kernel) rfl ?_
  intro p e s m args below meth c s₁ B hml hv
  obtain ⟨rfl, hsz, hP, hK, hD0, hE⟩ := hv
  have hx := B.exec
  have hb := B.bytes
  have hr := B.returns
  have hts := atoms_spec (ws := wm_c_X9_isOver) B.pre
  have hown : s.vm.findClass RX9 = some m.cls := findClass_of_methodNamed B.named
  have hlocks := B.notSynchronized
  have iRX9 : ∀ w ∈ u_ws RX9 TX9 4, w ∈ wm_c_X9_isOver := by decide +kernel
  subst hsz
  have hD := hD0.self (sz := s.heap.size)
  generalize hAe : va_A [(m0, .inr (16, [.int 0, .ref kl, .null, .ref tl]))] s.heap.size = A at hD hE ⊢
  have hA : ∀ q : Nat, s.heap.size ≤ q → A q := fun q h => by rw [← hAe]; exact Or.inr h
  have hS : va_S A s.heap s.heap [] := va_S.rf
  have hl := lv_entry ([.ref m0]) (n := 1) (Nat.le_of_ble_eq_true rfl)
  rw [lg_entry_eq]
  generalize (lg_sl ([.ref m0]) ++ List.replicate (1 - (lg_sl ([.ref m0])).length) Slot.unset).toArray = ls at hl ⊢
  have hl : lv_has ls 1 [(0, .ref m0)] := hl
  refine lv_aload_n hx hb dX9_isOver_0 rfl (lv_at hl 0 rfl) ?_
  have hS0 := hS
  have hFc := va_free (wc := [(m0, .inr (16, [.int 0, .ref kl, .null, .ref tl]))]) hD hS hA [0] rfl
  refine va_callv (va_runV (As := []) (rest := []) ⟨hx, hb, hml, hown, hts⟩ (c_X9_begins l κ D (s.heap).size (m0) (kl) (tl) (0) ) (cwV 0 hts gd_c_X9_isOver_1 rfl rfl rfl (by decide +kernel) ⟨(Nat.le_of_ble_eq_true rfl), (Nat.le_of_ble_eq_true rfl)⟩) (preV hE hK hP hD hS hA [0] rfl (by decide) [] rfl (va_recv hK hP (ci := 16) (q0 := 0) rfl rfl)) rfl rfl hl.1 rfl (lv_room (Nat.le_of_ble_eq_true rfl)) dX9_isOver_1 ⟨(Nat.le_of_ble_eq_true rfl), (Nat.le_of_ble_eq_true rfl)⟩) hS (fun q _ h => hFc q h) hFc (fun u t H1 locs ht hvm hw hB hz1 hk1 hS => ?_)
  try dsimp only at hw
  obtain ⟨hP, hD, hK⟩ := jn (wc := [(m0, .inr (16, [.int 0, .ref kl, .null, .ref tl]))]) (wr := []) (w1 := [(m0, .inr (16, [.int 0, .ref kl, .null, .ref tl]))]) (t1 := []) hP hD hK hS0 hA [0] [] rfl rfl (by decide) (by decide) ht hvm hk1 hB
  generalize H1 = H at hP hS ⊢
  have hP : va_P D vwCl ([(m0, .inr (16, [.int 0, .ref kl, .null, .ref tl]))]) H := hP
  have hD : va_D A ([(m0, .inr (16, [.int 0, .ref kl, .null, .ref tl]))]) := hD
  have hK : va_K D vwCl [] s := hK
  refine W.widen (k := 0) (n := 0) (Nat.le_of_ble_eq_true rfl) (Nat.le_of_ble_eq_true rfl) ?_
  refine lv_aload_n hx hb dX9_isOver_4 rfl (lv_at hl 0 rfl) ?_
  have hS0 := hS
  have hFc := va_free (wc := [(m0, .inr (16, [.int 0, .ref kl, .null, .ref tl]))]) hD hS hA [0] rfl
  refine va_calli (va_runV (As := []) (rest := []) ⟨hx, hb, hml, hown, hts⟩ (c_X9_noGame l κ D (H).size (m0) (kl) (tl) ) (cwV 0 hts gd_c_X9_isOver_5 rfl rfl rfl (by decide +kernel) ⟨(Nat.le_of_ble_eq_true rfl), (Nat.le_of_ble_eq_true rfl)⟩) (preV hE hK hP hD hS hA [0] rfl (by decide) [] rfl (va_recv hK hP (ci := 16) (q0 := 0) rfl rfl)) rfl rfl hl.1 rfl (lv_room (Nat.le_of_ble_eq_true rfl)) dX9_isOver_5 ⟨(Nat.le_of_ble_eq_true rfl), (Nat.le_of_ble_eq_true rfl)⟩) hS (fun q _ h => hFc q h) hFc (fun r_2 u t H1 locs ht hvm hw hB hz1 hk1 hS => ?_)
  try dsimp only at hw
  obtain ⟨hP, hD, hK⟩ := jn (wc := [(m0, .inr (16, [.int 0, .ref kl, .null, .ref tl]))]) (wr := []) (w1 := [(m0, .inr (16, [.int 1, .ref kl, .null, .ref tl]))]) (t1 := []) hP hD hK hS0 hA [0] [] rfl rfl (by decide) (by decide) ht hvm hk1 hB
  generalize H1 = H at hP hS ⊢
  have hP : va_P D vwCl ([(m0, .inr (16, [.int 1, .ref kl, .null, .ref tl]))]) H := hP
  have hD : va_D A ([(m0, .inr (16, [.int 1, .ref kl, .null, .ref tl]))]) := hD
  have hK : va_K D vwCl [] s := hK
  refine W.widen (k := 0) (n := 0) (Nat.le_of_ble_eq_true rfl) (Nat.le_of_ble_eq_true rfl) ?_
  subst hw
  refine lv_if_ne (tgt := 28) hx hb dX9_isOver_8 (by decide) (fun _ => ?_) (fun c_8 => absurd c_8 (by decide))
  refine lv_iconst (v := 0) hx hb dX9_isOver_28 (by decide) ?_
  refine W.widen (k := 0) (n := 0) (Nat.le_of_ble_eq_true rfl) (Nat.le_of_ble_eq_true rfl) ?_
  exact W.zret (v := 0) hx hb hr (by decide) (fun t ht hW => ⟨⟨0, (), rfl, trivial, PB.at hP hK hD hW.alike ht [0] rfl (by decide) [] rfl⟩, hS.F ht⟩) hS.2.2 dX9_isOver_29

def wm_c_X9_winner : List Cond := .code yX9_winner cX9_winner 2 (some .int) :: ([.code yX9_begins cX9_begins 1 none, .fieldLink RX9 19 "SowingcourtModel" "thrown" "I", .methodLink RX9 33 yX9_begins, .instanceMethod yX9_begins, .selects RX9 yX9_begins yX9_begins, .initialized RX9, .code yX9_noGame cX9_noGame 1 (some .boolean), .fieldLink RX9 106 "SowingcourtModel" "game" "LSowingcourtModel$Game;", .code yX9_fails cX9_fails 3 (some .boolean), .methodLink RX9 50 yX9_fails, .instanceMethod yX9_fails, .selects RX9 yX9_fails yX9_fails, .methodLink RX9 168 yX9_noGame, .instanceMethod yX9_noGame, .selects RX9 yX9_noGame yX9_noGame] ++ wsX90)
set_option maxRecDepth 20000 in
theorem gd_c_X9_winner_1 : GoodIn wm_c_X9_winner (wsV RX9 33 RX9 yX9_begins wm_c_X9_begins) := goodIn_of _ (by decide +kernel)
set_option maxRecDepth 20000 in
theorem gd_c_X9_winner_5 : GoodIn wm_c_X9_winner (wsV RX9 168 RX9 yX9_noGame wm_c_X9_noGame) := goodIn_of _ (by decide +kernel)
set_option maxHeartbeats 4000000 in
set_option maxRecDepth 100000 in
theorem c_X9_winner (l : Launch) (κ : Nat → Nat) (D : va_G) (sz : Nat) (m0 : Nat) (kl : Nat) (tl : Nat)  : Met l yX9_winner wm_c_X9_winner ({ frames := 11, cells := 0, slots := 0, locals := 380 }) (va_Pc [.ref m0] (PC κ D [] [(m0, .inr (16, [.int 0, .ref kl, .null, .ref tl]))] sz)) (va_Qi (fun (r : Int32) (_ : Unit) => True) (fun _ t => PB D [] [(m0, .inr (16, [.int 1, .ref kl, .null, .ref tl]))] (va_A [(m0, .inr (16, [.int 0, .ref kl, .null, .ref tl]))] sz) t) (va_A [(m0, .inr (16, [.int 0, .ref kl, .null, .ref tl]))] sz)) 0 0 (va_A [(m0, .inr (16, [.int 0, .ref kl, .null, .ref tl]))] sz) := by
  refine Met.ofW (cc := cX9_winner) (maxL := 2) (ret := (some .int)) (by decide +kernel) rfl ?_
  intro p e s m args below meth c s₁ B hml hv
  obtain ⟨rfl, hsz, hP, hK, hD0, hE⟩ := hv
  have hx := B.exec
  have hb := B.bytes
  have hr := B.returns
  have hts := atoms_spec (ws := wm_c_X9_winner) B.pre
  have hown : s.vm.findClass RX9 = some m.cls := findClass_of_methodNamed B.named
  have hlocks := B.notSynchronized
  have iRX9 : ∀ w ∈ u_ws RX9 TX9 4, w ∈ wm_c_X9_winner := by decide +kernel
  subst hsz
  have hD := hD0.self (sz := s.heap.size)
  generalize hAe : va_A [(m0, .inr (16, [.int 0, .ref kl, .null, .ref tl]))] s.heap.size = A at hD hE ⊢
  have hA : ∀ q : Nat, s.heap.size ≤ q → A q := fun q h => by rw [← hAe]; exact Or.inr h
  have hS : va_S A s.heap s.heap [] := va_S.rf
  have hl := lv_entry ([.ref m0]) (n := 2) (Nat.le_of_ble_eq_true rfl)
  rw [lg_entry_eq]
  generalize (lg_sl ([.ref m0]) ++ List.replicate (2 - (lg_sl ([.ref m0])).length) Slot.unset).toArray = ls at hl ⊢
  have hl : lv_has ls 2 [(0, .ref m0)] := hl
  refine lv_aload_n hx hb dX9_winner_0 rfl (lv_at hl 0 rfl) ?_
  have hS0 := hS
  have hFc := va_free (wc := [(m0, .inr (16, [.int 0, .ref kl, .null, .ref tl]))]) hD hS hA [0] rfl
  refine va_callv (va_runV (As := []) (rest := []) ⟨hx, hb, hml, hown, hts⟩ (c_X9_begins l κ D (s.heap).size (m0) (kl) (tl) (0) ) (cwV 0 hts gd_c_X9_winner_1 rfl rfl rfl (by decide +kernel) ⟨(Nat.le_of_ble_eq_true rfl), (Nat.le_of_ble_eq_true rfl)⟩) (preV hE hK hP hD hS hA [0] rfl (by decide) [] rfl (va_recv hK hP (ci := 16) (q0 := 0) rfl rfl)) rfl rfl hl.1 rfl (lv_room (Nat.le_of_ble_eq_true rfl)) dX9_winner_1 ⟨(Nat.le_of_ble_eq_true rfl), (Nat.le_of_ble_eq_true rfl)⟩) hS (fun q _ h => hFc q h) hFc (fun u t H1 locs ht hvm hw hB hz1 hk1 hS => ?_)
  try dsimp only at hw
  obtain ⟨hP, hD, hK⟩ := jn (wc := [(m0, .inr (16, [.int 0, .ref kl, .null, .ref tl]))]) (wr := []) (w1 := [(m0, .inr (16, [.int 0, .ref kl, .null, .ref tl]))]) (t1 := []) hP hD hK hS0 hA [0] [] rfl rfl (by decide) (by decide) ht hvm hk1 hB
  generalize H1 = H at hP hS ⊢
  have hP : va_P D vwCl ([(m0, .inr (16, [.int 0, .ref kl, .null, .ref tl]))]) H := hP
  have hD : va_D A ([(m0, .inr (16, [.int 0, .ref kl, .null, .ref tl]))]) := hD
  have hK : va_K D vwCl [] s := hK
  refine W.widen (k := 0) (n := 0) (Nat.le_of_ble_eq_true rfl) (Nat.le_of_ble_eq_true rfl) ?_
  refine lv_aload_n hx hb dX9_winner_4 rfl (lv_at hl 0 rfl) ?_
  have hS0 := hS
  have hFc := va_free (wc := [(m0, .inr (16, [.int 0, .ref kl, .null, .ref tl]))]) hD hS hA [0] rfl
  refine va_calli (va_runV (As := []) (rest := []) ⟨hx, hb, hml, hown, hts⟩ (c_X9_noGame l κ D (H).size (m0) (kl) (tl) ) (cwV 0 hts gd_c_X9_winner_5 rfl rfl rfl (by decide +kernel) ⟨(Nat.le_of_ble_eq_true rfl), (Nat.le_of_ble_eq_true rfl)⟩) (preV hE hK hP hD hS hA [0] rfl (by decide) [] rfl (va_recv hK hP (ci := 16) (q0 := 0) rfl rfl)) rfl rfl hl.1 rfl (lv_room (Nat.le_of_ble_eq_true rfl)) dX9_winner_5 ⟨(Nat.le_of_ble_eq_true rfl), (Nat.le_of_ble_eq_true rfl)⟩) hS (fun q _ h => hFc q h) hFc (fun r_2 u t H1 locs ht hvm hw hB hz1 hk1 hS => ?_)
  try dsimp only at hw
  obtain ⟨hP, hD, hK⟩ := jn (wc := [(m0, .inr (16, [.int 0, .ref kl, .null, .ref tl]))]) (wr := []) (w1 := [(m0, .inr (16, [.int 1, .ref kl, .null, .ref tl]))]) (t1 := []) hP hD hK hS0 hA [0] [] rfl rfl (by decide) (by decide) ht hvm hk1 hB
  generalize H1 = H at hP hS ⊢
  have hP : va_P D vwCl ([(m0, .inr (16, [.int 1, .ref kl, .null, .ref tl]))]) H := hP
  have hD : va_D A ([(m0, .inr (16, [.int 1, .ref kl, .null, .ref tl]))]) := hD
  have hK : va_K D vwCl [] s := hK
  refine W.widen (k := 0) (n := 0) (Nat.le_of_ble_eq_true rfl) (Nat.le_of_ble_eq_true rfl) ?_
  subst hw
  refine lv_if_ne (tgt := 37) hx hb dX9_winner_8 (by decide) (fun _ => ?_) (fun c_8 => absurd c_8 (by decide))
  refine lv_iconst (v := (-1)) hx hb dX9_winner_37 (by decide) ?_
  refine W.widen (k := 0) (n := 0) (Nat.le_of_ble_eq_true rfl) (Nat.le_of_ble_eq_true rfl) ?_
  exact W.iret (v := (-1)) hx hb hr (fun t ht hW => ⟨⟨(-1), (), rfl, trivial, PB.at hP hK hD hW.alike ht [0] rfl (by decide) [] rfl⟩, hS.F ht⟩) hS.2.2 dX9_winner_38

def wm_c_X9_laps : List Cond := .code yX9_laps cX9_laps 1 (some .int) :: ([.code yX9_begins cX9_begins 1 none, .fieldLink RX9 19 "SowingcourtModel" "thrown" "I", .methodLink RX9 33 yX9_begins, .instanceMethod yX9_begins, .selects RX9 yX9_begins yX9_begins, .initialized RX9, .code yX9_noGame cX9_noGame 1 (some .boolean), .fieldLink RX9 106 "SowingcourtModel" "game" "LSowingcourtModel$Game;", .code yX9_fails cX9_fails 3 (some .boolean), .methodLink RX9 50 yX9_fails, .instanceMethod yX9_fails, .selects RX9 yX9_fails yX9_fails, .methodLink RX9 168 yX9_noGame, .instanceMethod yX9_noGame, .selects RX9 yX9_noGame yX9_noGame] ++ wsX90)
set_option maxRecDepth 20000 in
theorem gd_c_X9_laps_1 : GoodIn wm_c_X9_laps (wsV RX9 33 RX9 yX9_begins wm_c_X9_begins) := goodIn_of _ (by decide +kernel)
set_option maxRecDepth 20000 in
theorem gd_c_X9_laps_5 : GoodIn wm_c_X9_laps (wsV RX9 168 RX9 yX9_noGame wm_c_X9_noGame) := goodIn_of _ (by decide +kernel)
set_option maxHeartbeats 4000000 in
set_option maxRecDepth 100000 in
theorem c_X9_laps (l : Launch) (κ : Nat → Nat) (D : va_G) (sz : Nat) (m0 : Nat) (kl : Nat) (tl : Nat)  : Met l yX9_laps wm_c_X9_laps ({ frames := 11, cells := 0, slots := 0, locals := 380 }) (va_Pc [.ref m0] (PC κ D [] [(m0, .inr (16, [.int 0, .ref kl, .null, .ref tl]))] sz)) (va_Qi (fun (r : Int32) (_ : Unit) => True) (fun _ t => PB D [] [(m0, .inr (16, [.int 1, .ref kl, .null, .ref tl]))] (va_A [(m0, .inr (16, [.int 0, .ref kl, .null, .ref tl]))] sz) t) (va_A [(m0, .inr (16, [.int 0, .ref kl, .null, .ref tl]))] sz)) 0 0 (va_A [(m0, .inr (16, [.int 0, .ref kl, .null, .ref tl]))] sz) := by
  refine Met.ofW (cc := cX9_laps) (maxL := 1) (ret := (some .int)) (by decide +kernel) rfl ?_
  intro p e s m args below meth c s₁ B hml hv
  obtain ⟨rfl, hsz, hP, hK, hD0, hE⟩ := hv
  have hx := B.exec
  have hb := B.bytes
  have hr := B.returns
  have hts := atoms_spec (ws := wm_c_X9_laps) B.pre
  have hown : s.vm.findClass RX9 = some m.cls := findClass_of_methodNamed B.named
  have hlocks := B.notSynchronized
  have iRX9 : ∀ w ∈ u_ws RX9 TX9 4, w ∈ wm_c_X9_laps := by decide +kernel
  subst hsz
  have hD := hD0.self (sz := s.heap.size)
  generalize hAe : va_A [(m0, .inr (16, [.int 0, .ref kl, .null, .ref tl]))] s.heap.size = A at hD hE ⊢
  have hA : ∀ q : Nat, s.heap.size ≤ q → A q := fun q h => by rw [← hAe]; exact Or.inr h
  have hS : va_S A s.heap s.heap [] := va_S.rf
  have hl := lv_entry ([.ref m0]) (n := 1) (Nat.le_of_ble_eq_true rfl)
  rw [lg_entry_eq]
  generalize (lg_sl ([.ref m0]) ++ List.replicate (1 - (lg_sl ([.ref m0])).length) Slot.unset).toArray = ls at hl ⊢
  have hl : lv_has ls 1 [(0, .ref m0)] := hl
  refine lv_aload_n hx hb dX9_laps_0 rfl (lv_at hl 0 rfl) ?_
  have hS0 := hS
  have hFc := va_free (wc := [(m0, .inr (16, [.int 0, .ref kl, .null, .ref tl]))]) hD hS hA [0] rfl
  refine va_callv (va_runV (As := []) (rest := []) ⟨hx, hb, hml, hown, hts⟩ (c_X9_begins l κ D (s.heap).size (m0) (kl) (tl) (0) ) (cwV 0 hts gd_c_X9_laps_1 rfl rfl rfl (by decide +kernel) ⟨(Nat.le_of_ble_eq_true rfl), (Nat.le_of_ble_eq_true rfl)⟩) (preV hE hK hP hD hS hA [0] rfl (by decide) [] rfl (va_recv hK hP (ci := 16) (q0 := 0) rfl rfl)) rfl rfl hl.1 rfl (lv_room (Nat.le_of_ble_eq_true rfl)) dX9_laps_1 ⟨(Nat.le_of_ble_eq_true rfl), (Nat.le_of_ble_eq_true rfl)⟩) hS (fun q _ h => hFc q h) hFc (fun u t H1 locs ht hvm hw hB hz1 hk1 hS => ?_)
  try dsimp only at hw
  obtain ⟨hP, hD, hK⟩ := jn (wc := [(m0, .inr (16, [.int 0, .ref kl, .null, .ref tl]))]) (wr := []) (w1 := [(m0, .inr (16, [.int 0, .ref kl, .null, .ref tl]))]) (t1 := []) hP hD hK hS0 hA [0] [] rfl rfl (by decide) (by decide) ht hvm hk1 hB
  generalize H1 = H at hP hS ⊢
  have hP : va_P D vwCl ([(m0, .inr (16, [.int 0, .ref kl, .null, .ref tl]))]) H := hP
  have hD : va_D A ([(m0, .inr (16, [.int 0, .ref kl, .null, .ref tl]))]) := hD
  have hK : va_K D vwCl [] s := hK
  refine W.widen (k := 0) (n := 0) (Nat.le_of_ble_eq_true rfl) (Nat.le_of_ble_eq_true rfl) ?_
  refine lv_aload_n hx hb dX9_laps_4 rfl (lv_at hl 0 rfl) ?_
  have hS0 := hS
  have hFc := va_free (wc := [(m0, .inr (16, [.int 0, .ref kl, .null, .ref tl]))]) hD hS hA [0] rfl
  refine va_calli (va_runV (As := []) (rest := []) ⟨hx, hb, hml, hown, hts⟩ (c_X9_noGame l κ D (H).size (m0) (kl) (tl) ) (cwV 0 hts gd_c_X9_laps_5 rfl rfl rfl (by decide +kernel) ⟨(Nat.le_of_ble_eq_true rfl), (Nat.le_of_ble_eq_true rfl)⟩) (preV hE hK hP hD hS hA [0] rfl (by decide) [] rfl (va_recv hK hP (ci := 16) (q0 := 0) rfl rfl)) rfl rfl hl.1 rfl (lv_room (Nat.le_of_ble_eq_true rfl)) dX9_laps_5 ⟨(Nat.le_of_ble_eq_true rfl), (Nat.le_of_ble_eq_true rfl)⟩) hS (fun q _ h => hFc q h) hFc (fun r_2 u t H1 locs ht hvm hw hB hz1 hk1 hS => ?_)
  try dsimp only at hw
  obtain ⟨hP, hD, hK⟩ := jn (wc := [(m0, .inr (16, [.int 0, .ref kl, .null, .ref tl]))]) (wr := []) (w1 := [(m0, .inr (16, [.int 1, .ref kl, .null, .ref tl]))]) (t1 := []) hP hD hK hS0 hA [0] [] rfl rfl (by decide) (by decide) ht hvm hk1 hB
  generalize H1 = H at hP hS ⊢
  have hP : va_P D vwCl ([(m0, .inr (16, [.int 1, .ref kl, .null, .ref tl]))]) H := hP
  have hD : va_D A ([(m0, .inr (16, [.int 1, .ref kl, .null, .ref tl]))]) := hD
  have hK : va_K D vwCl [] s := hK
  refine W.widen (k := 0) (n := 0) (Nat.le_of_ble_eq_true rfl) (Nat.le_of_ble_eq_true rfl) ?_
  subst hw
  refine lv_if_ne (tgt := 40) hx hb dX9_laps_8 (by decide) (fun _ => ?_) (fun c_8 => absurd c_8 (by decide))
  refine lv_iconst (v := (-1)) hx hb dX9_laps_40 (by decide) ?_
  refine lv_goto (tgt := 54) hx hb dX9_laps_41 (by decide) ?_
  refine W.widen (k := 0) (n := 0) (Nat.le_of_ble_eq_true rfl) (Nat.le_of_ble_eq_true rfl) ?_
  exact W.iret (v := (-1)) hx hb hr (fun t ht hW => ⟨⟨(-1), (), rfl, trivial, PB.at hP hK hD hW.alike ht [0] rfl (by decide) [] rfl⟩, hS.F ht⟩) hS.2.2 dX9_laps_54

def wm_c_X9_length : List Cond := .code yX9_length cX9_length 1 (some .int) :: ([.code yX9_begins cX9_begins 1 none, .fieldLink RX9 19 "SowingcourtModel" "thrown" "I", .methodLink RX9 33 yX9_begins, .instanceMethod yX9_begins, .selects RX9 yX9_begins yX9_begins, .initialized RX9, .code yX9_noGame cX9_noGame 1 (some .boolean), .fieldLink RX9 106 "SowingcourtModel" "game" "LSowingcourtModel$Game;", .code yX9_fails cX9_fails 3 (some .boolean), .methodLink RX9 50 yX9_fails, .instanceMethod yX9_fails, .selects RX9 yX9_fails yX9_fails, .methodLink RX9 168 yX9_noGame, .instanceMethod yX9_noGame, .selects RX9 yX9_noGame yX9_noGame] ++ wsX90)
set_option maxRecDepth 20000 in
theorem gd_c_X9_length_1 : GoodIn wm_c_X9_length (wsV RX9 33 RX9 yX9_begins wm_c_X9_begins) := goodIn_of _ (by decide +kernel)
set_option maxRecDepth 20000 in
theorem gd_c_X9_length_5 : GoodIn wm_c_X9_length (wsV RX9 168 RX9 yX9_noGame wm_c_X9_noGame) := goodIn_of _ (by decide +kernel)
set_option maxHeartbeats 4000000 in
set_option maxRecDepth 100000 in
theorem c_X9_length (l : Launch) (κ : Nat → Nat) (D : va_G) (sz : Nat) (m0 : Nat) (kl : Nat) (tl : Nat)  : Met l yX9_length wm_c_X9_length ({ frames := 11, cells := 0, slots := 0, locals := 380 }) (va_Pc [.ref m0] (PC κ D [] [(m0, .inr (16, [.int 0, .ref kl, .null, .ref tl]))] sz)) (va_Qi (fun (r : Int32) (_ : Unit) => True) (fun _ t => PB D [] [(m0, .inr (16, [.int 1, .ref kl, .null, .ref tl]))] (va_A [(m0, .inr (16, [.int 0, .ref kl, .null, .ref tl]))] sz) t) (va_A [(m0, .inr (16, [.int 0, .ref kl, .null, .ref tl]))] sz)) 0 0 (va_A [(m0, .inr (16, [.int 0, .ref kl, .null, .ref tl]))] sz) := by
  refine Met.ofW (cc := cX9_length) (maxL := 1) (ret := (some .int)) (by decide +kernel) rfl ?_
  intro p e s m args below meth c s₁ B hml hv
  obtain ⟨rfl, hsz, hP, hK, hD0, hE⟩ := hv
  have hx := B.exec
  have hb := B.bytes
  have hr := B.returns
  have hts := atoms_spec (ws := wm_c_X9_length) B.pre
  have hown : s.vm.findClass RX9 = some m.cls := findClass_of_methodNamed B.named
  have hlocks := B.notSynchronized
  have iRX9 : ∀ w ∈ u_ws RX9 TX9 4, w ∈ wm_c_X9_length := by decide +kernel
  subst hsz
  have hD := hD0.self (sz := s.heap.size)
  generalize hAe : va_A [(m0, .inr (16, [.int 0, .ref kl, .null, .ref tl]))] s.heap.size = A at hD hE ⊢
  have hA : ∀ q : Nat, s.heap.size ≤ q → A q := fun q h => by rw [← hAe]; exact Or.inr h
  have hS : va_S A s.heap s.heap [] := va_S.rf
  have hl := lv_entry ([.ref m0]) (n := 1) (Nat.le_of_ble_eq_true rfl)
  rw [lg_entry_eq]
  generalize (lg_sl ([.ref m0]) ++ List.replicate (1 - (lg_sl ([.ref m0])).length) Slot.unset).toArray = ls at hl ⊢
  have hl : lv_has ls 1 [(0, .ref m0)] := hl
  refine lv_aload_n hx hb dX9_length_0 rfl (lv_at hl 0 rfl) ?_
  have hS0 := hS
  have hFc := va_free (wc := [(m0, .inr (16, [.int 0, .ref kl, .null, .ref tl]))]) hD hS hA [0] rfl
  refine va_callv (va_runV (As := []) (rest := []) ⟨hx, hb, hml, hown, hts⟩ (c_X9_begins l κ D (s.heap).size (m0) (kl) (tl) (0) ) (cwV 0 hts gd_c_X9_length_1 rfl rfl rfl (by decide +kernel) ⟨(Nat.le_of_ble_eq_true rfl), (Nat.le_of_ble_eq_true rfl)⟩) (preV hE hK hP hD hS hA [0] rfl (by decide) [] rfl (va_recv hK hP (ci := 16) (q0 := 0) rfl rfl)) rfl rfl hl.1 rfl (lv_room (Nat.le_of_ble_eq_true rfl)) dX9_length_1 ⟨(Nat.le_of_ble_eq_true rfl), (Nat.le_of_ble_eq_true rfl)⟩) hS (fun q _ h => hFc q h) hFc (fun u t H1 locs ht hvm hw hB hz1 hk1 hS => ?_)
  try dsimp only at hw
  obtain ⟨hP, hD, hK⟩ := jn (wc := [(m0, .inr (16, [.int 0, .ref kl, .null, .ref tl]))]) (wr := []) (w1 := [(m0, .inr (16, [.int 0, .ref kl, .null, .ref tl]))]) (t1 := []) hP hD hK hS0 hA [0] [] rfl rfl (by decide) (by decide) ht hvm hk1 hB
  generalize H1 = H at hP hS ⊢
  have hP : va_P D vwCl ([(m0, .inr (16, [.int 0, .ref kl, .null, .ref tl]))]) H := hP
  have hD : va_D A ([(m0, .inr (16, [.int 0, .ref kl, .null, .ref tl]))]) := hD
  have hK : va_K D vwCl [] s := hK
  refine W.widen (k := 0) (n := 0) (Nat.le_of_ble_eq_true rfl) (Nat.le_of_ble_eq_true rfl) ?_
  refine lv_aload_n hx hb dX9_length_4 rfl (lv_at hl 0 rfl) ?_
  have hS0 := hS
  have hFc := va_free (wc := [(m0, .inr (16, [.int 0, .ref kl, .null, .ref tl]))]) hD hS hA [0] rfl
  refine va_calli (va_runV (As := []) (rest := []) ⟨hx, hb, hml, hown, hts⟩ (c_X9_noGame l κ D (H).size (m0) (kl) (tl) ) (cwV 0 hts gd_c_X9_length_5 rfl rfl rfl (by decide +kernel) ⟨(Nat.le_of_ble_eq_true rfl), (Nat.le_of_ble_eq_true rfl)⟩) (preV hE hK hP hD hS hA [0] rfl (by decide) [] rfl (va_recv hK hP (ci := 16) (q0 := 0) rfl rfl)) rfl rfl hl.1 rfl (lv_room (Nat.le_of_ble_eq_true rfl)) dX9_length_5 ⟨(Nat.le_of_ble_eq_true rfl), (Nat.le_of_ble_eq_true rfl)⟩) hS (fun q _ h => hFc q h) hFc (fun r_2 u t H1 locs ht hvm hw hB hz1 hk1 hS => ?_)
  try dsimp only at hw
  obtain ⟨hP, hD, hK⟩ := jn (wc := [(m0, .inr (16, [.int 0, .ref kl, .null, .ref tl]))]) (wr := []) (w1 := [(m0, .inr (16, [.int 1, .ref kl, .null, .ref tl]))]) (t1 := []) hP hD hK hS0 hA [0] [] rfl rfl (by decide) (by decide) ht hvm hk1 hB
  generalize H1 = H at hP hS ⊢
  have hP : va_P D vwCl ([(m0, .inr (16, [.int 1, .ref kl, .null, .ref tl]))]) H := hP
  have hD : va_D A ([(m0, .inr (16, [.int 1, .ref kl, .null, .ref tl]))]) := hD
  have hK : va_K D vwCl [] s := hK
  refine W.widen (k := 0) (n := 0) (Nat.le_of_ble_eq_true rfl) (Nat.le_of_ble_eq_true rfl) ?_
  subst hw
  refine lv_if_eq (tgt := 15) hx hb dX9_length_8 (by decide) (fun c_8 => absurd c_8 (by decide)) (fun _ => ?_)
  refine lv_iconst (v := (-1)) hx hb dX9_length_11 (by decide) ?_
  refine lv_goto (tgt := 29) hx hb dX9_length_12 (by decide) ?_
  refine W.widen (k := 0) (n := 0) (Nat.le_of_ble_eq_true rfl) (Nat.le_of_ble_eq_true rfl) ?_
  exact W.iret (v := (-1)) hx hb hr (fun t ht hW => ⟨⟨(-1), (), rfl, trivial, PB.at hP hK hD hW.alike ht [0] rfl (by decide) [] rfl⟩, hS.F ht⟩) hS.2.2 dX9_length_29

def wm_c_X9_times : List Cond := .code yX9_times cX9_times 1 (some .int) :: ([.code yX9_begins cX9_begins 1 none, .fieldLink RX9 19 "SowingcourtModel" "thrown" "I", .methodLink RX9 33 yX9_begins, .instanceMethod yX9_begins, .selects RX9 yX9_begins yX9_begins, .initialized RX9, .code yX9_noGame cX9_noGame 1 (some .boolean), .fieldLink RX9 106 "SowingcourtModel" "game" "LSowingcourtModel$Game;", .code yX9_fails cX9_fails 3 (some .boolean), .methodLink RX9 50 yX9_fails, .instanceMethod yX9_fails, .selects RX9 yX9_fails yX9_fails, .methodLink RX9 168 yX9_noGame, .instanceMethod yX9_noGame, .selects RX9 yX9_noGame yX9_noGame] ++ wsX90)
set_option maxRecDepth 20000 in
theorem gd_c_X9_times_1 : GoodIn wm_c_X9_times (wsV RX9 33 RX9 yX9_begins wm_c_X9_begins) := goodIn_of _ (by decide +kernel)
set_option maxRecDepth 20000 in
theorem gd_c_X9_times_5 : GoodIn wm_c_X9_times (wsV RX9 168 RX9 yX9_noGame wm_c_X9_noGame) := goodIn_of _ (by decide +kernel)
set_option maxHeartbeats 4000000 in
set_option maxRecDepth 100000 in
theorem c_X9_times (l : Launch) (κ : Nat → Nat) (D : va_G) (sz : Nat) (m0 : Nat) (kl : Nat) (tl : Nat)  : Met l yX9_times wm_c_X9_times ({ frames := 11, cells := 0, slots := 0, locals := 380 }) (va_Pc [.ref m0] (PC κ D [] [(m0, .inr (16, [.int 0, .ref kl, .null, .ref tl]))] sz)) (va_Qi (fun (r : Int32) (_ : Unit) => True) (fun _ t => PB D [] [(m0, .inr (16, [.int 1, .ref kl, .null, .ref tl]))] (va_A [(m0, .inr (16, [.int 0, .ref kl, .null, .ref tl]))] sz) t) (va_A [(m0, .inr (16, [.int 0, .ref kl, .null, .ref tl]))] sz)) 0 0 (va_A [(m0, .inr (16, [.int 0, .ref kl, .null, .ref tl]))] sz) := by
  refine Met.ofW (cc := cX9_times) (maxL := 1) (ret := (some .int)) (by decide +kernel) rfl ?_
  intro p e s m args below meth c s₁ B hml hv
  obtain ⟨rfl, hsz, hP, hK, hD0, hE⟩ := hv
  have hx := B.exec
  have hb := B.bytes
  have hr := B.returns
  have hts := atoms_spec (ws := wm_c_X9_times) B.pre
  have hown : s.vm.findClass RX9 = some m.cls := findClass_of_methodNamed B.named
  have hlocks := B.notSynchronized
  have iRX9 : ∀ w ∈ u_ws RX9 TX9 4, w ∈ wm_c_X9_times := by decide +kernel
  subst hsz
  have hD := hD0.self (sz := s.heap.size)
  generalize hAe : va_A [(m0, .inr (16, [.int 0, .ref kl, .null, .ref tl]))] s.heap.size = A at hD hE ⊢
  have hA : ∀ q : Nat, s.heap.size ≤ q → A q := fun q h => by rw [← hAe]; exact Or.inr h
  have hS : va_S A s.heap s.heap [] := va_S.rf
  have hl := lv_entry ([.ref m0]) (n := 1) (Nat.le_of_ble_eq_true rfl)
  rw [lg_entry_eq]
  generalize (lg_sl ([.ref m0]) ++ List.replicate (1 - (lg_sl ([.ref m0])).length) Slot.unset).toArray = ls at hl ⊢
  have hl : lv_has ls 1 [(0, .ref m0)] := hl
  refine lv_aload_n hx hb dX9_times_0 rfl (lv_at hl 0 rfl) ?_
  have hS0 := hS
  have hFc := va_free (wc := [(m0, .inr (16, [.int 0, .ref kl, .null, .ref tl]))]) hD hS hA [0] rfl
  refine va_callv (va_runV (As := []) (rest := []) ⟨hx, hb, hml, hown, hts⟩ (c_X9_begins l κ D (s.heap).size (m0) (kl) (tl) (0) ) (cwV 0 hts gd_c_X9_times_1 rfl rfl rfl (by decide +kernel) ⟨(Nat.le_of_ble_eq_true rfl), (Nat.le_of_ble_eq_true rfl)⟩) (preV hE hK hP hD hS hA [0] rfl (by decide) [] rfl (va_recv hK hP (ci := 16) (q0 := 0) rfl rfl)) rfl rfl hl.1 rfl (lv_room (Nat.le_of_ble_eq_true rfl)) dX9_times_1 ⟨(Nat.le_of_ble_eq_true rfl), (Nat.le_of_ble_eq_true rfl)⟩) hS (fun q _ h => hFc q h) hFc (fun u t H1 locs ht hvm hw hB hz1 hk1 hS => ?_)
  try dsimp only at hw
  obtain ⟨hP, hD, hK⟩ := jn (wc := [(m0, .inr (16, [.int 0, .ref kl, .null, .ref tl]))]) (wr := []) (w1 := [(m0, .inr (16, [.int 0, .ref kl, .null, .ref tl]))]) (t1 := []) hP hD hK hS0 hA [0] [] rfl rfl (by decide) (by decide) ht hvm hk1 hB
  generalize H1 = H at hP hS ⊢
  have hP : va_P D vwCl ([(m0, .inr (16, [.int 0, .ref kl, .null, .ref tl]))]) H := hP
  have hD : va_D A ([(m0, .inr (16, [.int 0, .ref kl, .null, .ref tl]))]) := hD
  have hK : va_K D vwCl [] s := hK
  refine W.widen (k := 0) (n := 0) (Nat.le_of_ble_eq_true rfl) (Nat.le_of_ble_eq_true rfl) ?_
  refine lv_aload_n hx hb dX9_times_4 rfl (lv_at hl 0 rfl) ?_
  have hS0 := hS
  have hFc := va_free (wc := [(m0, .inr (16, [.int 0, .ref kl, .null, .ref tl]))]) hD hS hA [0] rfl
  refine va_calli (va_runV (As := []) (rest := []) ⟨hx, hb, hml, hown, hts⟩ (c_X9_noGame l κ D (H).size (m0) (kl) (tl) ) (cwV 0 hts gd_c_X9_times_5 rfl rfl rfl (by decide +kernel) ⟨(Nat.le_of_ble_eq_true rfl), (Nat.le_of_ble_eq_true rfl)⟩) (preV hE hK hP hD hS hA [0] rfl (by decide) [] rfl (va_recv hK hP (ci := 16) (q0 := 0) rfl rfl)) rfl rfl hl.1 rfl (lv_room (Nat.le_of_ble_eq_true rfl)) dX9_times_5 ⟨(Nat.le_of_ble_eq_true rfl), (Nat.le_of_ble_eq_true rfl)⟩) hS (fun q _ h => hFc q h) hFc (fun r_2 u t H1 locs ht hvm hw hB hz1 hk1 hS => ?_)
  try dsimp only at hw
  obtain ⟨hP, hD, hK⟩ := jn (wc := [(m0, .inr (16, [.int 0, .ref kl, .null, .ref tl]))]) (wr := []) (w1 := [(m0, .inr (16, [.int 1, .ref kl, .null, .ref tl]))]) (t1 := []) hP hD hK hS0 hA [0] [] rfl rfl (by decide) (by decide) ht hvm hk1 hB
  generalize H1 = H at hP hS ⊢
  have hP : va_P D vwCl ([(m0, .inr (16, [.int 1, .ref kl, .null, .ref tl]))]) H := hP
  have hD : va_D A ([(m0, .inr (16, [.int 1, .ref kl, .null, .ref tl]))]) := hD
  have hK : va_K D vwCl [] s := hK
  refine W.widen (k := 0) (n := 0) (Nat.le_of_ble_eq_true rfl) (Nat.le_of_ble_eq_true rfl) ?_
  subst hw
  refine lv_if_eq (tgt := 15) hx hb dX9_times_8 (by decide) (fun c_8 => absurd c_8 (by decide)) (fun _ => ?_)
  refine lv_iconst (v := (-1)) hx hb dX9_times_11 (by decide) ?_
  refine lv_goto (tgt := 22) hx hb dX9_times_12 (by decide) ?_
  refine W.widen (k := 0) (n := 0) (Nat.le_of_ble_eq_true rfl) (Nat.le_of_ble_eq_true rfl) ?_
  exact W.iret (v := (-1)) hx hb hr (fun t ht hW => ⟨⟨(-1), (), rfl, trivial, PB.at hP hK hD hW.alike ht [0] rfl (by decide) [] rfl⟩, hS.F ht⟩) hS.2.2 dX9_times_22

def wm_c_X9_number : List Cond := .code yX9_number cX9_number 7 (some .long) :: ([.code yX9_begins cX9_begins 1 none, .fieldLink RX9 19 "SowingcourtModel" "thrown" "I", .methodLink RX9 33 yX9_begins, .instanceMethod yX9_begins, .selects RX9 yX9_begins yX9_begins, .initialized RX9, .code yX9_noGame cX9_noGame 1 (some .boolean), .fieldLink RX9 106 "SowingcourtModel" "game" "LSowingcourtModel$Game;", .code yX9_fails cX9_fails 3 (some .boolean), .methodLink RX9 50 yX9_fails, .instanceMethod yX9_fails, .selects RX9 yX9_fails yX9_fails, .methodLink RX9 168 yX9_noGame, .instanceMethod yX9_noGame, .selects RX9 yX9_noGame yX9_noGame, .constantLong RX9 187 (-1)] ++ wsX90)
set_option maxRecDepth 20000 in
theorem gd_c_X9_number_1 : GoodIn wm_c_X9_number (wsV RX9 33 RX9 yX9_begins wm_c_X9_begins) := goodIn_of _ (by decide +kernel)
set_option maxRecDepth 20000 in
theorem gd_c_X9_number_5 : GoodIn wm_c_X9_number (wsV RX9 168 RX9 yX9_noGame wm_c_X9_noGame) := goodIn_of _ (by decide +kernel)
set_option maxHeartbeats 4000000 in
set_option maxRecDepth 100000 in
theorem c_X9_number (l : Launch) (κ : Nat → Nat) (D : va_G) (sz : Nat) (m0 : Nat) (kl : Nat) (tl : Nat)  : Met l yX9_number wm_c_X9_number ({ frames := 11, cells := 0, slots := 0, locals := 380 }) (va_Pc [.ref m0] (PC κ D [] [(m0, .inr (16, [.int 0, .ref kl, .null, .ref tl]))] sz)) (va_Ql (fun (r : Int64) (_ : Unit) => True) (fun _ t => PB D [] [(m0, .inr (16, [.int 1, .ref kl, .null, .ref tl]))] (va_A [(m0, .inr (16, [.int 0, .ref kl, .null, .ref tl]))] sz) t) (va_A [(m0, .inr (16, [.int 0, .ref kl, .null, .ref tl]))] sz)) 0 0 (va_A [(m0, .inr (16, [.int 0, .ref kl, .null, .ref tl]))] sz) := by
  refine Met.ofW (cc := cX9_number) (maxL := 7) (ret := (some .long)) (by decide +kernel) rfl ?_
  intro p e s m args below meth c s₁ B hml hv
  obtain ⟨rfl, hsz, hP, hK, hD0, hE⟩ := hv
  have hx := B.exec
  have hb := B.bytes
  have hr := B.returns
  have hts := atoms_spec (ws := wm_c_X9_number) B.pre
  have hown : s.vm.findClass RX9 = some m.cls := findClass_of_methodNamed B.named
  have hlocks := B.notSynchronized
  have iRX9 : ∀ w ∈ u_ws RX9 TX9 4, w ∈ wm_c_X9_number := by decide +kernel
  subst hsz
  have hD := hD0.self (sz := s.heap.size)
  generalize hAe : va_A [(m0, .inr (16, [.int 0, .ref kl, .null, .ref tl]))] s.heap.size = A at hD hE ⊢
  have hA : ∀ q : Nat, s.heap.size ≤ q → A q := fun q h => by rw [← hAe]; exact Or.inr h
  have hS : va_S A s.heap s.heap [] := va_S.rf
  have hl := lv_entry ([.ref m0]) (n := 7) (Nat.le_of_ble_eq_true rfl)
  rw [lg_entry_eq]
  generalize (lg_sl ([.ref m0]) ++ List.replicate (7 - (lg_sl ([.ref m0])).length) Slot.unset).toArray = ls at hl ⊢
  have hl : lv_has ls 7 [(0, .ref m0)] := hl
  refine lv_aload_n hx hb dX9_number_0 rfl (lv_at hl 0 rfl) ?_
  have hS0 := hS
  have hFc := va_free (wc := [(m0, .inr (16, [.int 0, .ref kl, .null, .ref tl]))]) hD hS hA [0] rfl
  refine va_callv (va_runV (As := []) (rest := []) ⟨hx, hb, hml, hown, hts⟩ (c_X9_begins l κ D (s.heap).size (m0) (kl) (tl) (0) ) (cwV 0 hts gd_c_X9_number_1 rfl rfl rfl (by decide +kernel) ⟨(Nat.le_of_ble_eq_true rfl), (Nat.le_of_ble_eq_true rfl)⟩) (preV hE hK hP hD hS hA [0] rfl (by decide) [] rfl (va_recv hK hP (ci := 16) (q0 := 0) rfl rfl)) rfl rfl hl.1 rfl (lv_room (Nat.le_of_ble_eq_true rfl)) dX9_number_1 ⟨(Nat.le_of_ble_eq_true rfl), (Nat.le_of_ble_eq_true rfl)⟩) hS (fun q _ h => hFc q h) hFc (fun u t H1 locs ht hvm hw hB hz1 hk1 hS => ?_)
  try dsimp only at hw
  obtain ⟨hP, hD, hK⟩ := jn (wc := [(m0, .inr (16, [.int 0, .ref kl, .null, .ref tl]))]) (wr := []) (w1 := [(m0, .inr (16, [.int 0, .ref kl, .null, .ref tl]))]) (t1 := []) hP hD hK hS0 hA [0] [] rfl rfl (by decide) (by decide) ht hvm hk1 hB
  generalize H1 = H at hP hS ⊢
  have hP : va_P D vwCl ([(m0, .inr (16, [.int 0, .ref kl, .null, .ref tl]))]) H := hP
  have hD : va_D A ([(m0, .inr (16, [.int 0, .ref kl, .null, .ref tl]))]) := hD
  have hK : va_K D vwCl [] s := hK
  refine W.widen (k := 0) (n := 0) (Nat.le_of_ble_eq_true rfl) (Nat.le_of_ble_eq_true rfl) ?_
  refine lv_aload_n hx hb dX9_number_4 rfl (lv_at hl 0 rfl) ?_
  have hS0 := hS
  have hFc := va_free (wc := [(m0, .inr (16, [.int 0, .ref kl, .null, .ref tl]))]) hD hS hA [0] rfl
  refine va_calli (va_runV (As := []) (rest := []) ⟨hx, hb, hml, hown, hts⟩ (c_X9_noGame l κ D (H).size (m0) (kl) (tl) ) (cwV 0 hts gd_c_X9_number_5 rfl rfl rfl (by decide +kernel) ⟨(Nat.le_of_ble_eq_true rfl), (Nat.le_of_ble_eq_true rfl)⟩) (preV hE hK hP hD hS hA [0] rfl (by decide) [] rfl (va_recv hK hP (ci := 16) (q0 := 0) rfl rfl)) rfl rfl hl.1 rfl (lv_room (Nat.le_of_ble_eq_true rfl)) dX9_number_5 ⟨(Nat.le_of_ble_eq_true rfl), (Nat.le_of_ble_eq_true rfl)⟩) hS (fun q _ h => hFc q h) hFc (fun r_2 u t H1 locs ht hvm hw hB hz1 hk1 hS => ?_)
  try dsimp only at hw
  obtain ⟨hP, hD, hK⟩ := jn (wc := [(m0, .inr (16, [.int 0, .ref kl, .null, .ref tl]))]) (wr := []) (w1 := [(m0, .inr (16, [.int 1, .ref kl, .null, .ref tl]))]) (t1 := []) hP hD hK hS0 hA [0] [] rfl rfl (by decide) (by decide) ht hvm hk1 hB
  generalize H1 = H at hP hS ⊢
  have hP : va_P D vwCl ([(m0, .inr (16, [.int 1, .ref kl, .null, .ref tl]))]) H := hP
  have hD : va_D A ([(m0, .inr (16, [.int 1, .ref kl, .null, .ref tl]))]) := hD
  have hK : va_K D vwCl [] s := hK
  refine W.widen (k := 0) (n := 0) (Nat.le_of_ble_eq_true rfl) (Nat.le_of_ble_eq_true rfl) ?_
  subst hw
  refine lv_if_eq (tgt := 15) hx hb dX9_number_8 (by decide) (fun c_8 => absurd c_8 (by decide)) (fun _ => ?_)
  refine lv_ldc2 (v := (-1)) hx hb hown (hts (.constantLong RX9 187 (-1)) (by decide +kernel)) dX9_number_11 ?_
  refine W.widen (k := 0) (n := 0) (Nat.le_of_ble_eq_true rfl) (Nat.le_of_ble_eq_true rfl) ?_
  exact W.lret (v := (-1)) hx hb hr (fun t ht hW => ⟨⟨(-1), (), rfl, trivial, PB.at hP hK hD hW.alike ht [0] rfl (by decide) [] rfl⟩, hS.F ht⟩) hS.2.2 dX9_number_14

def wm_c_X9_line : List Cond := .code yX9_line cX9_line 1 (some .int) :: ([.code yX9_begins cX9_begins 1 none, .fieldLink RX9 19 "SowingcourtModel" "thrown" "I", .methodLink RX9 33 yX9_begins, .instanceMethod yX9_begins, .selects RX9 yX9_begins yX9_begins, .initialized RX9, .code yX9_noGame cX9_noGame 1 (some .boolean), .fieldLink RX9 106 "SowingcourtModel" "game" "LSowingcourtModel$Game;", .code yX9_fails cX9_fails 3 (some .boolean), .methodLink RX9 50 yX9_fails, .instanceMethod yX9_fails, .selects RX9 yX9_fails yX9_fails, .methodLink RX9 168 yX9_noGame, .instanceMethod yX9_noGame, .selects RX9 yX9_noGame yX9_noGame] ++ wsX90)
set_option maxRecDepth 20000 in
theorem gd_c_X9_line_1 : GoodIn wm_c_X9_line (wsV RX9 33 RX9 yX9_begins wm_c_X9_begins) := goodIn_of _ (by decide +kernel)
set_option maxRecDepth 20000 in
theorem gd_c_X9_line_5 : GoodIn wm_c_X9_line (wsV RX9 168 RX9 yX9_noGame wm_c_X9_noGame) := goodIn_of _ (by decide +kernel)
set_option maxHeartbeats 4000000 in
set_option maxRecDepth 100000 in
theorem c_X9_line (l : Launch) (κ : Nat → Nat) (D : va_G) (sz : Nat) (m0 : Nat) (kl : Nat) (tl : Nat)  : Met l yX9_line wm_c_X9_line ({ frames := 11, cells := 0, slots := 0, locals := 380 }) (va_Pc [.ref m0] (PC κ D [] [(m0, .inr (16, [.int 0, .ref kl, .null, .ref tl]))] sz)) (va_Qi (fun (r : Int32) (_ : Unit) => True) (fun _ t => PB D [] [(m0, .inr (16, [.int 1, .ref kl, .null, .ref tl]))] (va_A [(m0, .inr (16, [.int 0, .ref kl, .null, .ref tl]))] sz) t) (va_A [(m0, .inr (16, [.int 0, .ref kl, .null, .ref tl]))] sz)) 0 0 (va_A [(m0, .inr (16, [.int 0, .ref kl, .null, .ref tl]))] sz) := by
  refine Met.ofW (cc := cX9_line) (maxL := 1) (ret := (some .int)) (by decide +kernel) rfl ?_
  intro p e s m args below meth c s₁ B hml hv
  obtain ⟨rfl, hsz, hP, hK, hD0, hE⟩ := hv
  have hx := B.exec
  have hb := B.bytes
  have hr := B.returns
  have hts := atoms_spec (ws := wm_c_X9_line) B.pre
  have hown : s.vm.findClass RX9 = some m.cls := findClass_of_methodNamed B.named
  have hlocks := B.notSynchronized
  have iRX9 : ∀ w ∈ u_ws RX9 TX9 4, w ∈ wm_c_X9_line := by decide +kernel
  subst hsz
  have hD := hD0.self (sz := s.heap.size)
  generalize hAe : va_A [(m0, .inr (16, [.int 0, .ref kl, .null, .ref tl]))] s.heap.size = A at hD hE ⊢
  have hA : ∀ q : Nat, s.heap.size ≤ q → A q := fun q h => by rw [← hAe]; exact Or.inr h
  have hS : va_S A s.heap s.heap [] := va_S.rf
  have hl := lv_entry ([.ref m0]) (n := 1) (Nat.le_of_ble_eq_true rfl)
  rw [lg_entry_eq]
  generalize (lg_sl ([.ref m0]) ++ List.replicate (1 - (lg_sl ([.ref m0])).length) Slot.unset).toArray = ls at hl ⊢
  have hl : lv_has ls 1 [(0, .ref m0)] := hl
  refine lv_aload_n hx hb dX9_line_0 rfl (lv_at hl 0 rfl) ?_
  have hS0 := hS
  have hFc := va_free (wc := [(m0, .inr (16, [.int 0, .ref kl, .null, .ref tl]))]) hD hS hA [0] rfl
  refine va_callv (va_runV (As := []) (rest := []) ⟨hx, hb, hml, hown, hts⟩ (c_X9_begins l κ D (s.heap).size (m0) (kl) (tl) (0) ) (cwV 0 hts gd_c_X9_line_1 rfl rfl rfl (by decide +kernel) ⟨(Nat.le_of_ble_eq_true rfl), (Nat.le_of_ble_eq_true rfl)⟩) (preV hE hK hP hD hS hA [0] rfl (by decide) [] rfl (va_recv hK hP (ci := 16) (q0 := 0) rfl rfl)) rfl rfl hl.1 rfl (lv_room (Nat.le_of_ble_eq_true rfl)) dX9_line_1 ⟨(Nat.le_of_ble_eq_true rfl), (Nat.le_of_ble_eq_true rfl)⟩) hS (fun q _ h => hFc q h) hFc (fun u t H1 locs ht hvm hw hB hz1 hk1 hS => ?_)
  try dsimp only at hw
  obtain ⟨hP, hD, hK⟩ := jn (wc := [(m0, .inr (16, [.int 0, .ref kl, .null, .ref tl]))]) (wr := []) (w1 := [(m0, .inr (16, [.int 0, .ref kl, .null, .ref tl]))]) (t1 := []) hP hD hK hS0 hA [0] [] rfl rfl (by decide) (by decide) ht hvm hk1 hB
  generalize H1 = H at hP hS ⊢
  have hP : va_P D vwCl ([(m0, .inr (16, [.int 0, .ref kl, .null, .ref tl]))]) H := hP
  have hD : va_D A ([(m0, .inr (16, [.int 0, .ref kl, .null, .ref tl]))]) := hD
  have hK : va_K D vwCl [] s := hK
  refine W.widen (k := 0) (n := 0) (Nat.le_of_ble_eq_true rfl) (Nat.le_of_ble_eq_true rfl) ?_
  refine lv_aload_n hx hb dX9_line_4 rfl (lv_at hl 0 rfl) ?_
  have hS0 := hS
  have hFc := va_free (wc := [(m0, .inr (16, [.int 0, .ref kl, .null, .ref tl]))]) hD hS hA [0] rfl
  refine va_calli (va_runV (As := []) (rest := []) ⟨hx, hb, hml, hown, hts⟩ (c_X9_noGame l κ D (H).size (m0) (kl) (tl) ) (cwV 0 hts gd_c_X9_line_5 rfl rfl rfl (by decide +kernel) ⟨(Nat.le_of_ble_eq_true rfl), (Nat.le_of_ble_eq_true rfl)⟩) (preV hE hK hP hD hS hA [0] rfl (by decide) [] rfl (va_recv hK hP (ci := 16) (q0 := 0) rfl rfl)) rfl rfl hl.1 rfl (lv_room (Nat.le_of_ble_eq_true rfl)) dX9_line_5 ⟨(Nat.le_of_ble_eq_true rfl), (Nat.le_of_ble_eq_true rfl)⟩) hS (fun q _ h => hFc q h) hFc (fun r_2 u t H1 locs ht hvm hw hB hz1 hk1 hS => ?_)
  try dsimp only at hw
  obtain ⟨hP, hD, hK⟩ := jn (wc := [(m0, .inr (16, [.int 0, .ref kl, .null, .ref tl]))]) (wr := []) (w1 := [(m0, .inr (16, [.int 1, .ref kl, .null, .ref tl]))]) (t1 := []) hP hD hK hS0 hA [0] [] rfl rfl (by decide) (by decide) ht hvm hk1 hB
  generalize H1 = H at hP hS ⊢
  have hP : va_P D vwCl ([(m0, .inr (16, [.int 1, .ref kl, .null, .ref tl]))]) H := hP
  have hD : va_D A ([(m0, .inr (16, [.int 1, .ref kl, .null, .ref tl]))]) := hD
  have hK : va_K D vwCl [] s := hK
  refine W.widen (k := 0) (n := 0) (Nat.le_of_ble_eq_true rfl) (Nat.le_of_ble_eq_true rfl) ?_
  subst hw
  refine lv_if_eq (tgt := 15) hx hb dX9_line_8 (by decide) (fun c_8 => absurd c_8 (by decide)) (fun _ => ?_)
  refine lv_iconst (v := (-1)) hx hb dX9_line_11 (by decide) ?_
  refine lv_goto (tgt := 22) hx hb dX9_line_12 (by decide) ?_
  refine W.widen (k := 0) (n := 0) (Nat.le_of_ble_eq_true rfl) (Nat.le_of_ble_eq_true rfl) ?_
  exact W.iret (v := (-1)) hx hb hr (fun t ht hW => ⟨⟨(-1), (), rfl, trivial, PB.at hP hK hD hW.alike ht [0] rfl (by decide) [] rfl⟩, hS.F ht⟩) hS.2.2 dX9_line_22

def wm_c_X9_sign : List Cond := .code yX9_sign cX9_sign 2 (some .char) :: ([.code yX9_begins cX9_begins 1 none, .fieldLink RX9 19 "SowingcourtModel" "thrown" "I", .methodLink RX9 33 yX9_begins, .instanceMethod yX9_begins, .selects RX9 yX9_begins yX9_begins, .initialized RX9, .code yX9_noGame cX9_noGame 1 (some .boolean), .fieldLink RX9 106 "SowingcourtModel" "game" "LSowingcourtModel$Game;", .code yX9_fails cX9_fails 3 (some .boolean), .methodLink RX9 50 yX9_fails, .instanceMethod yX9_fails, .selects RX9 yX9_fails yX9_fails, .methodLink RX9 168 yX9_noGame, .instanceMethod yX9_noGame, .selects RX9 yX9_noGame yX9_noGame] ++ wsX90)
set_option maxRecDepth 20000 in
theorem gd_c_X9_sign_1 : GoodIn wm_c_X9_sign (wsV RX9 33 RX9 yX9_begins wm_c_X9_begins) := goodIn_of _ (by decide +kernel)
set_option maxRecDepth 20000 in
theorem gd_c_X9_sign_5 : GoodIn wm_c_X9_sign (wsV RX9 168 RX9 yX9_noGame wm_c_X9_noGame) := goodIn_of _ (by decide +kernel)
set_option maxHeartbeats 4000000 in
set_option maxRecDepth 100000 in
theorem c_X9_sign (l : Launch) (κ : Nat → Nat) (D : va_G) (sz : Nat) (m0 : Nat) (kl : Nat) (tl : Nat) (p0 : Int32)  : Met l yX9_sign wm_c_X9_sign ({ frames := 11, cells := 0, slots := 0, locals := 380 }) (va_Pc [.ref m0, .int p0] (PC κ D [] [(m0, .inr (16, [.int 0, .ref kl, .null, .ref tl]))] sz)) (va_Qi (fun (r : Int32) (_ : Unit) => True) (fun _ t => PB D [] [(m0, .inr (16, [.int 1, .ref kl, .null, .ref tl]))] (va_A [(m0, .inr (16, [.int 0, .ref kl, .null, .ref tl]))] sz) t) (va_A [(m0, .inr (16, [.int 0, .ref kl, .null, .ref tl]))] sz)) 0 0 (va_A [(m0, .inr (16, [.int 0, .ref kl, .null, .ref tl]))] sz) := by
  refine Met.ofW (cc := cX9_sign) (maxL := 2) (ret := (some .char)) (by decide +kernel) rfl ?_
  intro p e s m args below meth c s₁ B hml hv
  obtain ⟨rfl, hsz, hP, hK, hD0, hE⟩ := hv
  have hx := B.exec
  have hb := B.bytes
  have hr := B.returns
  have hts := atoms_spec (ws := wm_c_X9_sign) B.pre
  have hown : s.vm.findClass RX9 = some m.cls := findClass_of_methodNamed B.named
  have hlocks := B.notSynchronized
  have iRX9 : ∀ w ∈ u_ws RX9 TX9 4, w ∈ wm_c_X9_sign := by decide +kernel
  subst hsz
  have hD := hD0.self (sz := s.heap.size)
  generalize hAe : va_A [(m0, .inr (16, [.int 0, .ref kl, .null, .ref tl]))] s.heap.size = A at hD hE ⊢
  have hA : ∀ q : Nat, s.heap.size ≤ q → A q := fun q h => by rw [← hAe]; exact Or.inr h
  have hS : va_S A s.heap s.heap [] := va_S.rf
  have hl := lv_entry ([.ref m0, .int p0]) (n := 2) (Nat.le_of_ble_eq_true rfl)
  rw [lg_entry_eq]
  generalize (lg_sl ([.ref m0, .int p0]) ++ List.replicate (2 - (lg_sl ([.ref m0, .int p0])).length) Slot.unset).toArray = ls at hl ⊢
  have hl : lv_has ls 2 [(0, .ref m0), (1, .int p0)] := hl
  refine lv_aload_n hx hb dX9_sign_0 rfl (lv_at hl 0 rfl) ?_
  have hS0 := hS
  have hFc := va_free (wc := [(m0, .inr (16, [.int 0, .ref kl, .null, .ref tl]))]) hD hS hA [0] rfl
  refine va_callv (va_runV (As := []) (rest := []) ⟨hx, hb, hml, hown, hts⟩ (c_X9_begins l κ D (s.heap).size (m0) (kl) (tl) (0) ) (cwV 0 hts gd_c_X9_sign_1 rfl rfl rfl (by decide +kernel) ⟨(Nat.le_of_ble_eq_true rfl), (Nat.le_of_ble_eq_true rfl)⟩) (preV hE hK hP hD hS hA [0] rfl (by decide) [] rfl (va_recv hK hP (ci := 16) (q0 := 0) rfl rfl)) rfl rfl hl.1 rfl (lv_room (Nat.le_of_ble_eq_true rfl)) dX9_sign_1 ⟨(Nat.le_of_ble_eq_true rfl), (Nat.le_of_ble_eq_true rfl)⟩) hS (fun q _ h => hFc q h) hFc (fun u t H1 locs ht hvm hw hB hz1 hk1 hS => ?_)
  try dsimp only at hw
  obtain ⟨hP, hD, hK⟩ := jn (wc := [(m0, .inr (16, [.int 0, .ref kl, .null, .ref tl]))]) (wr := []) (w1 := [(m0, .inr (16, [.int 0, .ref kl, .null, .ref tl]))]) (t1 := []) hP hD hK hS0 hA [0] [] rfl rfl (by decide) (by decide) ht hvm hk1 hB
  generalize H1 = H at hP hS ⊢
  have hP : va_P D vwCl ([(m0, .inr (16, [.int 0, .ref kl, .null, .ref tl]))]) H := hP
  have hD : va_D A ([(m0, .inr (16, [.int 0, .ref kl, .null, .ref tl]))]) := hD
  have hK : va_K D vwCl [] s := hK
  refine W.widen (k := 0) (n := 0) (Nat.le_of_ble_eq_true rfl) (Nat.le_of_ble_eq_true rfl) ?_
  refine lv_aload_n hx hb dX9_sign_4 rfl (lv_at hl 0 rfl) ?_
  have hS0 := hS
  have hFc := va_free (wc := [(m0, .inr (16, [.int 0, .ref kl, .null, .ref tl]))]) hD hS hA [0] rfl
  refine va_calli (va_runV (As := []) (rest := []) ⟨hx, hb, hml, hown, hts⟩ (c_X9_noGame l κ D (H).size (m0) (kl) (tl) ) (cwV 0 hts gd_c_X9_sign_5 rfl rfl rfl (by decide +kernel) ⟨(Nat.le_of_ble_eq_true rfl), (Nat.le_of_ble_eq_true rfl)⟩) (preV hE hK hP hD hS hA [0] rfl (by decide) [] rfl (va_recv hK hP (ci := 16) (q0 := 0) rfl rfl)) rfl rfl hl.1 rfl (lv_room (Nat.le_of_ble_eq_true rfl)) dX9_sign_5 ⟨(Nat.le_of_ble_eq_true rfl), (Nat.le_of_ble_eq_true rfl)⟩) hS (fun q _ h => hFc q h) hFc (fun r_2 u t H1 locs ht hvm hw hB hz1 hk1 hS => ?_)
  try dsimp only at hw
  obtain ⟨hP, hD, hK⟩ := jn (wc := [(m0, .inr (16, [.int 0, .ref kl, .null, .ref tl]))]) (wr := []) (w1 := [(m0, .inr (16, [.int 1, .ref kl, .null, .ref tl]))]) (t1 := []) hP hD hK hS0 hA [0] [] rfl rfl (by decide) (by decide) ht hvm hk1 hB
  generalize H1 = H at hP hS ⊢
  have hP : va_P D vwCl ([(m0, .inr (16, [.int 1, .ref kl, .null, .ref tl]))]) H := hP
  have hD : va_D A ([(m0, .inr (16, [.int 1, .ref kl, .null, .ref tl]))]) := hD
  have hK : va_K D vwCl [] s := hK
  refine W.widen (k := 0) (n := 0) (Nat.le_of_ble_eq_true rfl) (Nat.le_of_ble_eq_true rfl) ?_
  subst hw
  refine lv_if_ne (tgt := 43) hx hb dX9_sign_8 (by decide) (fun _ => ?_) (fun c_8 => absurd c_8 (by decide))
  refine lv_bipush (v := 32) hx hb dX9_sign_43 (by decide) ?_
  refine lv_goto (tgt := 56) hx hb dX9_sign_45 (by decide) ?_
  refine W.widen (k := 0) (n := 0) (Nat.le_of_ble_eq_true rfl) (Nat.le_of_ble_eq_true rfl) ?_
  exact W.zret (v := 32) hx hb hr (by decide) (fun t ht hW => ⟨⟨32, (), rfl, trivial, PB.at hP hK hD hW.alike ht [0] rfl (by decide) [] rfl⟩, hS.F ht⟩) hS.2.2 dX9_sign_56

def wm_c_X9_undo : List Cond := .code yX9_undo cX9_undo 2 (some .int) :: ([.code yX9_begins cX9_begins 1 none, .fieldLink RX9 19 "SowingcourtModel" "thrown" "I", .methodLink RX9 33 yX9_begins, .instanceMethod yX9_begins, .selects RX9 yX9_begins yX9_begins, .initialized RX9, .fieldLink RX9 106 "SowingcourtModel" "game" "LSowingcourtModel$Game;", .code yX9_fails cX9_fails 3 (some .boolean), .methodLink RX9 50 yX9_fails, .instanceMethod yX9_fails, .selects RX9 yX9_fails yX9_fails] ++ wsX90)
set_option maxRecDepth 20000 in
theorem gd_c_X9_undo_1 : GoodIn wm_c_X9_undo (wsV RX9 33 RX9 yX9_begins wm_c_X9_begins) := goodIn_of _ (by decide +kernel)
set_option maxRecDepth 20000 in
theorem gd_c_X9_undo_34 : GoodIn wm_c_X9_undo (wsV RX9 50 RX9 yX9_fails wm_c_X9_fails_1) := goodIn_of _ (by decide +kernel)
set_option maxHeartbeats 4000000 in
set_option maxRecDepth 100000 in
theorem c_X9_undo (l : Launch) (κ : Nat → Nat) (D : va_G) (sz : Nat) (m0 : Nat) (kl : Nat) (tl : Nat)  : Met l yX9_undo wm_c_X9_undo ({ frames := 11, cells := 0, slots := 0, locals := 380 }) (va_Pc [.ref m0] (PC κ D [] [(m0, .inr (16, [.int 0, .ref kl, .null, .ref tl]))] sz)) (va_Qi (fun (r : Int32) (_ : Unit) => True) (fun _ t => PB D [] [(m0, .inr (16, [.int 1, .ref kl, .null, .ref tl]))] (va_A [(m0, .inr (16, [.int 0, .ref kl, .null, .ref tl]))] sz) t) (va_A [(m0, .inr (16, [.int 0, .ref kl, .null, .ref tl]))] sz)) 0 0 (va_A [(m0, .inr (16, [.int 0, .ref kl, .null, .ref tl]))] sz) := by
  refine Met.ofW (cc := cX9_undo) (maxL := 2) (ret := (some .int)) (by decide +kernel) rfl ?_
  intro p e s m args below meth c s₁ B hml hv
  obtain ⟨rfl, hsz, hP, hK, hD0, hE⟩ := hv
  have hx := B.exec
  have hb := B.bytes
  have hr := B.returns
  have hts := atoms_spec (ws := wm_c_X9_undo) B.pre
  have hown : s.vm.findClass RX9 = some m.cls := findClass_of_methodNamed B.named
  have hlocks := B.notSynchronized
  have iRX9 : ∀ w ∈ u_ws RX9 TX9 4, w ∈ wm_c_X9_undo := by decide +kernel
  subst hsz
  have hD := hD0.self (sz := s.heap.size)
  generalize hAe : va_A [(m0, .inr (16, [.int 0, .ref kl, .null, .ref tl]))] s.heap.size = A at hD hE ⊢
  have hA : ∀ q : Nat, s.heap.size ≤ q → A q := fun q h => by rw [← hAe]; exact Or.inr h
  have hS : va_S A s.heap s.heap [] := va_S.rf
  have hl := lv_entry ([.ref m0]) (n := 2) (Nat.le_of_ble_eq_true rfl)
  rw [lg_entry_eq]
  generalize (lg_sl ([.ref m0]) ++ List.replicate (2 - (lg_sl ([.ref m0])).length) Slot.unset).toArray = ls at hl ⊢
  have hl : lv_has ls 2 [(0, .ref m0)] := hl
  refine lv_aload_n hx hb dX9_undo_0 rfl (lv_at hl 0 rfl) ?_
  have hS0 := hS
  have hFc := va_free (wc := [(m0, .inr (16, [.int 0, .ref kl, .null, .ref tl]))]) hD hS hA [0] rfl
  refine va_callv (va_runV (As := []) (rest := []) ⟨hx, hb, hml, hown, hts⟩ (c_X9_begins l κ D (s.heap).size (m0) (kl) (tl) (0) ) (cwV 0 hts gd_c_X9_undo_1 rfl rfl rfl (by decide +kernel) ⟨(Nat.le_of_ble_eq_true rfl), (Nat.le_of_ble_eq_true rfl)⟩) (preV hE hK hP hD hS hA [0] rfl (by decide) [] rfl (va_recv hK hP (ci := 16) (q0 := 0) rfl rfl)) rfl rfl hl.1 rfl (lv_room (Nat.le_of_ble_eq_true rfl)) dX9_undo_1 ⟨(Nat.le_of_ble_eq_true rfl), (Nat.le_of_ble_eq_true rfl)⟩) hS (fun q _ h => hFc q h) hFc (fun u t H1 locs ht hvm hw hB hz1 hk1 hS => ?_)
  try dsimp only at hw
  obtain ⟨hP, hD, hK⟩ := jn (wc := [(m0, .inr (16, [.int 0, .ref kl, .null, .ref tl]))]) (wr := []) (w1 := [(m0, .inr (16, [.int 0, .ref kl, .null, .ref tl]))]) (t1 := []) hP hD hK hS0 hA [0] [] rfl rfl (by decide) (by decide) ht hvm hk1 hB
  generalize H1 = H at hP hS ⊢
  have hP : va_P D vwCl ([(m0, .inr (16, [.int 0, .ref kl, .null, .ref tl]))]) H := hP
  have hD : va_D A ([(m0, .inr (16, [.int 0, .ref kl, .null, .ref tl]))]) := hD
  have hK : va_K D vwCl [] s := hK
  refine W.widen (k := 0) (n := 0) (Nat.le_of_ble_eq_true rfl) (Nat.le_of_ble_eq_true rfl) ?_
  refine lv_aload_n hx hb dX9_undo_4 rfl (lv_at hl 0 rfl) ?_
  refine lv_aload_n hx hb dX9_undo_5 rfl (lv_at hl 0 rfl) ?_
  refine va_get (D := D) (ci := 16) (v := .null) (C := RX9) (T := TX9) (N := 4) hx hb hts iRX9 hown hK hP 0 rfl rfl 2 (by decide) (hts (.fieldLink RX9 106 "SowingcourtModel" "game" "LSowingcourtModel$Game;") (by decide +kernel)) (fun _ h9 => h9) rfl dX9_undo_6 ?_
  refine lv_ifnullN (tgt := 28) hx hb dX9_undo_9 (by decide) ?_
  refine lv_iconst (v := 1) hx hb dX9_undo_28 (by decide) ?_
  refine lv_goto (tgt := 33) hx hb dX9_undo_29 (by decide) ?_
  refine lv_iconst (v := 1) hx hb dX9_undo_33 (by decide) ?_
  have hS0 := hS
  have hFc := va_free (wc := [(m0, .inr (16, [.int 0, .ref kl, .null, .ref tl]))]) hD hS hA [0] rfl
  refine va_calli (va_runV (As := [.int 1, .int 1]) (rest := []) ⟨hx, hb, hml, hown, hts⟩ (c_X9_fails_1 l κ D (H).size (m0) (kl) (tl) ) (cwV 2 hts gd_c_X9_undo_34 rfl rfl rfl (by decide +kernel) ⟨(Nat.le_of_ble_eq_true rfl), (Nat.le_of_ble_eq_true rfl)⟩) (preV hE hK hP hD hS hA [0] rfl (by decide) [] rfl (va_recv hK hP (ci := 16) (q0 := 0) rfl rfl)) rfl rfl hl.1 rfl (lv_room (Nat.le_of_ble_eq_true rfl)) dX9_undo_34 ⟨(Nat.le_of_ble_eq_true rfl), (Nat.le_of_ble_eq_true rfl)⟩) hS (fun q _ h => hFc q h) hFc (fun r_2 u t H1 locs ht hvm hw hB hz1 hk1 hS => ?_)
  try dsimp only at hw
  obtain ⟨hP, hD, hK⟩ := jn (wc := [(m0, .inr (16, [.int 0, .ref kl, .null, .ref tl]))]) (wr := []) (w1 := [(m0, .inr (16, [.int 1, .ref kl, .null, .ref tl]))]) (t1 := []) hP hD hK hS0 hA [0] [] rfl rfl (by decide) (by decide) ht hvm hk1 hB
  generalize H1 = H at hP hS ⊢
  have hP : va_P D vwCl ([(m0, .inr (16, [.int 1, .ref kl, .null, .ref tl]))]) H := hP
  have hD : va_D A ([(m0, .inr (16, [.int 1, .ref kl, .null, .ref tl]))]) := hD
  have hK : va_K D vwCl [] s := hK
  refine W.widen (k := 0) (n := 0) (Nat.le_of_ble_eq_true rfl) (Nat.le_of_ble_eq_true rfl) ?_
  subst hw
  refine lv_if_eq (tgt := 42) hx hb dX9_undo_37 (by decide) (fun c_37 => absurd c_37 (by decide)) (fun _ => ?_)
  refine lv_iconst (v := (-1)) hx hb dX9_undo_40 (by decide) ?_
  refine W.widen (k := 0) (n := 0) (Nat.le_of_ble_eq_true rfl) (Nat.le_of_ble_eq_true rfl) ?_
  exact W.iret (v := (-1)) hx hb hr (fun t ht hW => ⟨⟨(-1), (), rfl, trivial, PB.at hP hK hD hW.alike ht [0] rfl (by decide) [] rfl⟩, hS.F ht⟩) hS.2.2 dX9_undo_41

def wm_c_X9_explainer : List Cond := .code yX9_explainer cX9_explainer 5 (some .int) :: ([.code yX9_begins cX9_begins 1 none, .fieldLink RX9 19 "SowingcourtModel" "thrown" "I", .methodLink RX9 33 yX9_begins, .instanceMethod yX9_begins, .selects RX9 yX9_begins yX9_begins, .initialized RX9, .fieldLink RX9 10 "SowingcourtModel" "kinds" "Ljava/util/List;", .code yJx4a65c_isEmpty_aae02 cJx4a65c_isEmpty_aae02 1 (some .boolean), .fieldLink RJx4a65c 48 "java/util/ArrayList" "size" "I", .methodLink RX9 241 ⟨"java/util/List", "isEmpty", "()Z"⟩, .selects RJx4a65c ⟨"java/util/List", "isEmpty", "()Z"⟩ yJx4a65c_isEmpty_aae02, .instanceMethod yJx4a65c_isEmpty_aae02, .initialized RJx4a65c, .code yX9_fails cX9_fails 3 (some .boolean), .methodLink RX9 50 yX9_fails, .instanceMethod yX9_fails, .selects RX9 yX9_fails yX9_fails] ++ wsX90 ++ wsJx4a65c0)
set_option maxRecDepth 20000 in
theorem gd_c_X9_explainer_1 : GoodIn wm_c_X9_explainer (wsV RX9 33 RX9 yX9_begins wm_c_X9_begins) := goodIn_of _ (by decide +kernel)
set_option maxRecDepth 20000 in
theorem gd_c_X9_explainer_9 : GoodIn wm_c_X9_explainer (va_wsF RX9 241 RJx4a65c ⟨"java/util/List", "isEmpty", "()Z"⟩ yJx4a65c_isEmpty_aae02 wm_c_JAL_isEmpty) := goodIn_of _ (by decide +kernel)
set_option maxRecDepth 20000 in
theorem gd_c_X9_explainer_35 : GoodIn wm_c_X9_explainer (wsV RX9 50 RX9 yX9_fails wm_c_X9_fails_1) := goodIn_of _ (by decide +kernel)
set_option maxHeartbeats 4000000 in
set_option maxRecDepth 100000 in
theorem c_X9_explainer (l : Launch) (κ : Nat → Nat) (D : va_G) (sz : Nat) (m0 : Nat) (kl : Nat) (tl : Nat)  : Met l yX9_explainer wm_c_X9_explainer ({ frames := 11, cells := 0, slots := 0, locals := 380 }) (va_Pc [.ref m0] (PC κ D [] [(m0, .inr (16, [.int 0, .ref kl, .null, .ref tl])), (kl, .inr (6, [.int 0, .ref (κ 0), .int 0]))] sz)) (va_Qi (fun (r : Int32) (_ : Unit) => True) (fun _ t => PB D [] [(m0, .inr (16, [.int 1, .ref kl, .null, .ref tl]))] (va_A [(m0, .inr (16, [.int 0, .ref kl, .null, .ref tl])), (kl, .inr (6, [.int 0, .ref (κ 0), .int 0]))] sz) t) (va_A [(m0, .inr (16, [.int 0, .ref kl, .null, .ref tl])), (kl, .inr (6, [.int 0, .ref (κ 0), .int 0]))] sz)) 0 0 (va_A [(m0, .inr (16, [.int 0, .ref kl, .null, .ref tl])), (kl, .inr (6, [.int 0, .ref (κ 0), .int 0]))] sz) := by
  refine Met.ofW (cc := cX9_explainer) (maxL := 5) (ret := (some .int)) (by decide +kernel) rfl ?_
  intro p e s m args below meth c s₁ B hml hv
  obtain ⟨rfl, hsz, hP, hK, hD0, hE⟩ := hv
  have hx := B.exec
  have hb := B.bytes
  have hr := B.returns
  have hts := atoms_spec (ws := wm_c_X9_explainer) B.pre
  have hown : s.vm.findClass RX9 = some m.cls := findClass_of_methodNamed B.named
  have hlocks := B.notSynchronized
  have iRX9 : ∀ w ∈ u_ws RX9 TX9 4, w ∈ wm_c_X9_explainer := by decide +kernel
  have iRJx4a65c : ∀ w ∈ u_ws RJx4a65c TJx4a65c 3, w ∈ wm_c_X9_explainer := by decide +kernel
  subst hsz
  have hD := hD0.self (sz := s.heap.size)
  generalize hAe : va_A [(m0, .inr (16, [.int 0, .ref kl, .null, .ref tl])), (kl, .inr (6, [.int 0, .ref (κ 0), .int 0]))] s.heap.size = A at hD hE ⊢
  have hA : ∀ q : Nat, s.heap.size ≤ q → A q := fun q h => by rw [← hAe]; exact Or.inr h
  have hS : va_S A s.heap s.heap [] := va_S.rf
  have hl := lv_entry ([.ref m0]) (n := 5) (Nat.le_of_ble_eq_true rfl)
  rw [lg_entry_eq]
  generalize (lg_sl ([.ref m0]) ++ List.replicate (5 - (lg_sl ([.ref m0])).length) Slot.unset).toArray = ls at hl ⊢
  have hl : lv_has ls 5 [(0, .ref m0)] := hl
  refine lv_aload_n hx hb dX9_explainer_0 rfl (lv_at hl 0 rfl) ?_
  have hS0 := hS
  have hFc := va_free (wc := [(m0, .inr (16, [.int 0, .ref kl, .null, .ref tl]))]) hD hS hA [0] rfl
  refine va_callv (va_runV (As := []) (rest := []) ⟨hx, hb, hml, hown, hts⟩ (c_X9_begins l κ D (s.heap).size (m0) (kl) (tl) (0) ) (cwV 0 hts gd_c_X9_explainer_1 rfl rfl rfl (by decide +kernel) ⟨(Nat.le_of_ble_eq_true rfl), (Nat.le_of_ble_eq_true rfl)⟩) (preV hE hK hP hD hS hA [0] rfl (by decide) [] rfl (va_recv hK hP (ci := 16) (q0 := 0) rfl rfl)) rfl rfl hl.1 rfl (lv_room (Nat.le_of_ble_eq_true rfl)) dX9_explainer_1 ⟨(Nat.le_of_ble_eq_true rfl), (Nat.le_of_ble_eq_true rfl)⟩) hS (fun q _ h => hFc q h) hFc (fun u t H1 locs ht hvm hw hB hz1 hk1 hS => ?_)
  try dsimp only at hw
  obtain ⟨hP, hD, hK⟩ := jn (wc := [(m0, .inr (16, [.int 0, .ref kl, .null, .ref tl]))]) (wr := [(kl, .inr (6, [.int 0, .ref (κ 0), .int 0]))]) (w1 := [(m0, .inr (16, [.int 0, .ref kl, .null, .ref tl]))]) (t1 := []) hP hD hK hS0 hA [0] [1] rfl rfl (by decide) (by decide) ht hvm hk1 hB
  generalize H1 = H at hP hS ⊢
  have hP : va_P D vwCl ([(kl, .inr (6, [.int 0, .ref (κ 0), .int 0])), (m0, .inr (16, [.int 0, .ref kl, .null, .ref tl]))]) H := hP
  have hD : va_D A ([(kl, .inr (6, [.int 0, .ref (κ 0), .int 0])), (m0, .inr (16, [.int 0, .ref kl, .null, .ref tl]))]) := hD
  have hK : va_K D vwCl [] s := hK
  refine W.widen (k := 0) (n := 0) (Nat.le_of_ble_eq_true rfl) (Nat.le_of_ble_eq_true rfl) ?_
  refine lv_aload_n hx hb dX9_explainer_4 rfl (lv_at hl 0 rfl) ?_
  refine lv_aload_n hx hb dX9_explainer_5 rfl (lv_at hl 0 rfl) ?_
  refine va_get (D := D) (ci := 16) (v := .ref kl) (C := RX9) (T := TX9) (N := 4) hx hb hts iRX9 hown hK hP 1 rfl rfl 1 (by decide) (hts (.fieldLink RX9 10 "SowingcourtModel" "kinds" "Ljava/util/List;") (by decide +kernel)) (fun _ h9 => h9) rfl dX9_explainer_6 ?_
  have hS0 := hS
  have hFc := va_free (wc := [(kl, .inr (6, [.int 0, .ref (κ 0), .int 0]))]) hD hS hA [0] rfl
  refine va_callFi (va_runF (hK.1 6 _ rfl).2 (As := []) (rest := [.ref m0]) ⟨hx, hb, hml, hown, hts⟩ (c_JAL_isEmpty l κ D (H).size (kl) (0) ((κ 0)) ) (va_cwF 0 hts gd_c_X9_explainer_9 rfl rfl rfl hE.fw2 (by decide +kernel) ⟨(Nat.le_of_ble_eq_true rfl), (Nat.le_of_ble_eq_true rfl)⟩) (preV hE hK hP hD hS hA [0] rfl (by decide) [] rfl (va_recv hK hP (ci := 6) (q0 := 0) rfl rfl)) rfl rfl hl.1 rfl (lv_room (Nat.le_of_ble_eq_true rfl)) dX9_explainer_9 ⟨(Nat.le_of_ble_eq_true rfl), (Nat.le_of_ble_eq_true rfl)⟩) hS (fun q _ h => hFc q h) hFc (fun r_2 u t H1 locs ht hvm hw hB hz1 hk1 hS => ?_)
  try dsimp only at hw
  obtain ⟨hP, hD, hK⟩ := jn (wc := [(kl, .inr (6, [.int 0, .ref (κ 0), .int 0]))]) (wr := [(m0, .inr (16, [.int 0, .ref kl, .null, .ref tl]))]) (w1 := [(kl, .inr (6, [.int 0, .ref (κ 0), .int 0]))]) (t1 := []) hP hD hK hS0 hA [0] [1] rfl rfl (by decide) (by decide) ht hvm hk1 hB
  generalize H1 = H at hP hS ⊢
  have hP : va_P D vwCl ([(m0, .inr (16, [.int 0, .ref kl, .null, .ref tl])), (kl, .inr (6, [.int 0, .ref (κ 0), .int 0]))]) H := hP
  have hD : va_D A ([(m0, .inr (16, [.int 0, .ref kl, .null, .ref tl])), (kl, .inr (6, [.int 0, .ref (κ 0), .int 0]))]) := hD
  have hK : va_K D vwCl [] s := hK
  refine W.widen (k := 0) (n := 0) (Nat.le_of_ble_eq_true rfl) (Nat.le_of_ble_eq_true rfl) ?_
  subst hw
  refine lv_if_ne (tgt := 29) hx hb dX9_explainer_14 (by decide) (fun _ => ?_) (fun c_14 => absurd c_14 (by decide))
  refine lv_iconst (v := 1) hx hb dX9_explainer_29 (by decide) ?_
  refine lv_goto (tgt := 34) hx hb dX9_explainer_30 (by decide) ?_
  refine lv_iconst (v := 1) hx hb dX9_explainer_34 (by decide) ?_
  have hS0 := hS
  have hFc := va_free (wc := [(m0, .inr (16, [.int 0, .ref kl, .null, .ref tl]))]) hD hS hA [0] rfl
  refine va_calli (va_runV (As := [.int 1, .int 1]) (rest := []) ⟨hx, hb, hml, hown, hts⟩ (c_X9_fails_1 l κ D (H).size (m0) (kl) (tl) ) (cwV 2 hts gd_c_X9_explainer_35 rfl rfl rfl (by decide +kernel) ⟨(Nat.le_of_ble_eq_true rfl), (Nat.le_of_ble_eq_true rfl)⟩) (preV hE hK hP hD hS hA [0] rfl (by decide) [] rfl (va_recv hK hP (ci := 16) (q0 := 0) rfl rfl)) rfl rfl hl.1 rfl (lv_room (Nat.le_of_ble_eq_true rfl)) dX9_explainer_35 ⟨(Nat.le_of_ble_eq_true rfl), (Nat.le_of_ble_eq_true rfl)⟩) hS (fun q _ h => hFc q h) hFc (fun r_3 u t H1 locs ht hvm hw hB hz1 hk1 hS => ?_)
  try dsimp only at hw
  obtain ⟨hP, hD, hK⟩ := jn (wc := [(m0, .inr (16, [.int 0, .ref kl, .null, .ref tl]))]) (wr := [(kl, .inr (6, [.int 0, .ref (κ 0), .int 0]))]) (w1 := [(m0, .inr (16, [.int 1, .ref kl, .null, .ref tl]))]) (t1 := []) hP hD hK hS0 hA [0] [1] rfl rfl (by decide) (by decide) ht hvm hk1 hB
  generalize H1 = H at hP hS ⊢
  have hP : va_P D vwCl ([(kl, .inr (6, [.int 0, .ref (κ 0), .int 0])), (m0, .inr (16, [.int 1, .ref kl, .null, .ref tl]))]) H := hP
  have hD : va_D A ([(kl, .inr (6, [.int 0, .ref (κ 0), .int 0])), (m0, .inr (16, [.int 1, .ref kl, .null, .ref tl]))]) := hD
  have hK : va_K D vwCl [] s := hK
  refine W.widen (k := 0) (n := 0) (Nat.le_of_ble_eq_true rfl) (Nat.le_of_ble_eq_true rfl) ?_
  subst hw
  refine lv_if_eq (tgt := 43) hx hb dX9_explainer_38 (by decide) (fun c_38 => absurd c_38 (by decide)) (fun _ => ?_)
  refine lv_iconst (v := (-1)) hx hb dX9_explainer_41 (by decide) ?_
  refine W.widen (k := 0) (n := 0) (Nat.le_of_ble_eq_true rfl) (Nat.le_of_ble_eq_true rfl) ?_
  exact W.iret (v := (-1)) hx hb hr (fun t ht hW => ⟨⟨(-1), (), rfl, trivial, PB.at hP hK hD hW.alike ht [1] rfl (by decide) [] rfl⟩, hS.F ht⟩) hS.2.2 dX9_explainer_42

def wm_c_X9_meanUnlike : List Cond := .code yX9_meanUnlike cX9_meanUnlike 3 (some .double) :: ([.code yX9_begins cX9_begins 1 none, .fieldLink RX9 19 "SowingcourtModel" "thrown" "I", .methodLink RX9 33 yX9_begins, .instanceMethod yX9_begins, .selects RX9 yX9_begins yX9_begins, .initialized RX9, .fieldLink RX9 10 "SowingcourtModel" "kinds" "Ljava/util/List;", .code yJx4a65c_size_8abf5 cJx4a65c_size_8abf5 1 (some .int), .fieldLink RJx4a65c 48 "java/util/ArrayList" "size" "I", .methodLink RX9 23 ⟨"java/util/List", "size", "()I"⟩, .selects RJx4a65c ⟨"java/util/List", "size", "()I"⟩ yJx4a65c_size_8abf5, .instanceMethod yJx4a65c_size_8abf5, .initialized RJx4a65c, .code yX9_fails cX9_fails 3 (some .boolean), .methodLink RX9 50 yX9_fails, .instanceMethod yX9_fails, .selects RX9 yX9_fails yX9_fails] ++ wsX90 ++ wsJx4a65c0)
set_option maxRecDepth 20000 in
theorem gd_c_X9_meanUnlike_1 : GoodIn wm_c_X9_meanUnlike (wsV RX9 33 RX9 yX9_begins wm_c_X9_begins) := goodIn_of _ (by decide +kernel)
set_option maxRecDepth 20000 in
theorem gd_c_X9_meanUnlike_13 : GoodIn wm_c_X9_meanUnlike (va_wsF RX9 23 RJx4a65c ⟨"java/util/List", "size", "()I"⟩ yJx4a65c_size_8abf5 wm_c_JAL_size) := goodIn_of _ (by decide +kernel)
set_option maxRecDepth 20000 in
theorem gd_c_X9_meanUnlike_68 : GoodIn wm_c_X9_meanUnlike (va_wsF RX9 23 RJx4a65c ⟨"java/util/List", "size", "()I"⟩ yJx4a65c_size_8abf5 wm_c_JAL_size) := goodIn_of _ (by decide +kernel)
set_option maxRecDepth 20000 in
theorem gd_c_X9_meanUnlike_83 : GoodIn wm_c_X9_meanUnlike (wsV RX9 50 RX9 yX9_fails wm_c_X9_fails_1) := goodIn_of _ (by decide +kernel)
set_option maxHeartbeats 4000000 in
set_option maxRecDepth 100000 in
theorem c_X9_meanUnlike (l : Launch) (κ : Nat → Nat) (D : va_G) (sz : Nat) (m0 : Nat) (kl : Nat) (tl : Nat)  : Met l yX9_meanUnlike wm_c_X9_meanUnlike ({ frames := 11, cells := 0, slots := 0, locals := 380 }) (va_Pc [.ref m0] (PC κ D [] [(m0, .inr (16, [.int 0, .ref kl, .null, .ref tl])), (kl, .inr (6, [.int 0, .ref (κ 0), .int 0]))] sz)) (va_Qd (fun (r : UInt64) (_ : Unit) => True) (fun _ t => PB D [] [(m0, .inr (16, [.int 1, .ref kl, .null, .ref tl]))] (va_A [(m0, .inr (16, [.int 0, .ref kl, .null, .ref tl])), (kl, .inr (6, [.int 0, .ref (κ 0), .int 0]))] sz) t) (va_A [(m0, .inr (16, [.int 0, .ref kl, .null, .ref tl])), (kl, .inr (6, [.int 0, .ref (κ 0), .int 0]))] sz)) 0 0 (va_A [(m0, .inr (16, [.int 0, .ref kl, .null, .ref tl])), (kl, .inr (6, [.int 0, .ref (κ 0), .int 0]))] sz) := by
  refine Met.ofW (cc := cX9_meanUnlike) (maxL := 3) (ret := (some .double)) (by decide +kernel) rfl ?_
  intro p e s m args below meth c s₁ B hml hv
  obtain ⟨rfl, hsz, hP, hK, hD0, hE⟩ := hv
  have hx := B.exec
  have hb := B.bytes
  have hr := B.returns
  have hts := atoms_spec (ws := wm_c_X9_meanUnlike) B.pre
  have hown : s.vm.findClass RX9 = some m.cls := findClass_of_methodNamed B.named
  have hlocks := B.notSynchronized
  have iRX9 : ∀ w ∈ u_ws RX9 TX9 4, w ∈ wm_c_X9_meanUnlike := by decide +kernel
  have iRJx4a65c : ∀ w ∈ u_ws RJx4a65c TJx4a65c 3, w ∈ wm_c_X9_meanUnlike := by decide +kernel
  subst hsz
  have hD := hD0.self (sz := s.heap.size)
  generalize hAe : va_A [(m0, .inr (16, [.int 0, .ref kl, .null, .ref tl])), (kl, .inr (6, [.int 0, .ref (κ 0), .int 0]))] s.heap.size = A at hD hE ⊢
  have hA : ∀ q : Nat, s.heap.size ≤ q → A q := fun q h => by rw [← hAe]; exact Or.inr h
  have hS : va_S A s.heap s.heap [] := va_S.rf
  have hl := lv_entry ([.ref m0]) (n := 3) (Nat.le_of_ble_eq_true rfl)
  rw [lg_entry_eq]
  generalize (lg_sl ([.ref m0]) ++ List.replicate (3 - (lg_sl ([.ref m0])).length) Slot.unset).toArray = ls at hl ⊢
  have hl : lv_has ls 3 [(0, .ref m0)] := hl
  refine lv_aload_n hx hb dX9_meanUnlike_0 rfl (lv_at hl 0 rfl) ?_
  have hS0 := hS
  have hFc := va_free (wc := [(m0, .inr (16, [.int 0, .ref kl, .null, .ref tl]))]) hD hS hA [0] rfl
  refine va_callv (va_runV (As := []) (rest := []) ⟨hx, hb, hml, hown, hts⟩ (c_X9_begins l κ D (s.heap).size (m0) (kl) (tl) (0) ) (cwV 0 hts gd_c_X9_meanUnlike_1 rfl rfl rfl (by decide +kernel) ⟨(Nat.le_of_ble_eq_true rfl), (Nat.le_of_ble_eq_true rfl)⟩) (preV hE hK hP hD hS hA [0] rfl (by decide) [] rfl (va_recv hK hP (ci := 16) (q0 := 0) rfl rfl)) rfl rfl hl.1 rfl (lv_room (Nat.le_of_ble_eq_true rfl)) dX9_meanUnlike_1 ⟨(Nat.le_of_ble_eq_true rfl), (Nat.le_of_ble_eq_true rfl)⟩) hS (fun q _ h => hFc q h) hFc (fun u t H1 locs ht hvm hw hB hz1 hk1 hS => ?_)
  try dsimp only at hw
  obtain ⟨hP, hD, hK⟩ := jn (wc := [(m0, .inr (16, [.int 0, .ref kl, .null, .ref tl]))]) (wr := [(kl, .inr (6, [.int 0, .ref (κ 0), .int 0]))]) (w1 := [(m0, .inr (16, [.int 0, .ref kl, .null, .ref tl]))]) (t1 := []) hP hD hK hS0 hA [0] [1] rfl rfl (by decide) (by decide) ht hvm hk1 hB
  generalize H1 = H at hP hS ⊢
  have hP : va_P D vwCl ([(kl, .inr (6, [.int 0, .ref (κ 0), .int 0])), (m0, .inr (16, [.int 0, .ref kl, .null, .ref tl]))]) H := hP
  have hD : va_D A ([(kl, .inr (6, [.int 0, .ref (κ 0), .int 0])), (m0, .inr (16, [.int 0, .ref kl, .null, .ref tl]))]) := hD
  have hK : va_K D vwCl [] s := hK
  refine W.widen (k := 0) (n := 0) (Nat.le_of_ble_eq_true rfl) (Nat.le_of_ble_eq_true rfl) ?_
  refine lv_iconst (v := 0) hx hb dX9_meanUnlike_4 (by decide) ?_
  refine lv_istore_n (lv' := [(1, .int 0), (0, .ref m0)]) hx hb dX9_meanUnlike_5 rfl hl (by decide) rfl (fun ls hl => ?_)
  refine lv_iconst (v := 1) hx hb dX9_meanUnlike_6 (by decide) ?_
  refine lv_istore_n (lv' := [(2, .int 1), (1, .int 0), (0, .ref m0)]) hx hb dX9_meanUnlike_7 rfl hl (by decide) rfl (fun ls hl => ?_)
  refine lv_iload_n hx hb dX9_meanUnlike_8 rfl (lv_at hl 0 rfl) ?_
  refine lv_aload_n hx hb dX9_meanUnlike_9 rfl (lv_at hl 2 rfl) ?_
  refine va_get (D := D) (ci := 16) (v := .ref kl) (C := RX9) (T := TX9) (N := 4) hx hb hts iRX9 hown hK hP 1 rfl rfl 1 (by decide) (hts (.fieldLink RX9 10 "SowingcourtModel" "kinds" "Ljava/util/List;") (by decide +kernel)) (fun _ h9 => h9) rfl dX9_meanUnlike_10 ?_
  have hS0 := hS
  have hFc := va_free (wc := [(kl, .inr (6, [.int 0, .ref (κ 0), .int 0]))]) hD hS hA [0] rfl
  refine va_callFi (va_runF (hK.1 6 _ rfl).2 (As := []) (rest := [.int 1]) ⟨hx, hb, hml, hown, hts⟩ (c_JAL_size l κ D (H).size (kl) (0) (0) ((κ 0)) ) (va_cwF 0 hts gd_c_X9_meanUnlike_13 rfl rfl rfl hE.fw0 (by decide +kernel) ⟨(Nat.le_of_ble_eq_true rfl), (Nat.le_of_ble_eq_true rfl)⟩) (preV hE hK hP hD hS hA [0] rfl (by decide) [] rfl (va_recv hK hP (ci := 6) (q0 := 0) rfl rfl)) rfl rfl hl.1 rfl (lv_room (Nat.le_of_ble_eq_true rfl)) dX9_meanUnlike_13 ⟨(Nat.le_of_ble_eq_true rfl), (Nat.le_of_ble_eq_true rfl)⟩) hS (fun q _ h => hFc q h) hFc (fun r_2 u t H1 locs ht hvm hw hB hz1 hk1 hS => ?_)
  try dsimp only at hw
  obtain ⟨hP, hD, hK⟩ := jn (wc := [(kl, .inr (6, [.int 0, .ref (κ 0), .int 0]))]) (wr := [(m0, .inr (16, [.int 0, .ref kl, .null, .ref tl]))]) (w1 := [(kl, .inr (6, [.int 0, .ref (κ 0), .int 0]))]) (t1 := []) hP hD hK hS0 hA [0] [1] rfl rfl (by decide) (by decide) ht hvm hk1 hB
  generalize H1 = H at hP hS ⊢
  have hP : va_P D vwCl ([(m0, .inr (16, [.int 0, .ref kl, .null, .ref tl])), (kl, .inr (6, [.int 0, .ref (κ 0), .int 0]))]) H := hP
  have hD : va_D A ([(m0, .inr (16, [.int 0, .ref kl, .null, .ref tl])), (kl, .inr (6, [.int 0, .ref (κ 0), .int 0]))]) := hD
  have hK : va_K D vwCl [] s := hK
  refine W.widen (k := 0) (n := 0) (Nat.le_of_ble_eq_true rfl) (Nat.le_of_ble_eq_true rfl) ?_
  subst hw
  refine lv_icmp_ge (tgt := 63) hx hb dX9_meanUnlike_18 (by decide) (fun _ => ?_) (fun c_18 => absurd c_18 (by decide))
  refine lv_aload_n hx hb dX9_meanUnlike_63 rfl (lv_at hl 2 rfl) ?_
  refine lv_aload_n hx hb dX9_meanUnlike_64 rfl (lv_at hl 2 rfl) ?_
  refine va_get (D := D) (ci := 16) (v := .ref kl) (C := RX9) (T := TX9) (N := 4) hx hb hts iRX9 hown hK hP 0 rfl rfl 1 (by decide) (hts (.fieldLink RX9 10 "SowingcourtModel" "kinds" "Ljava/util/List;") (by decide +kernel)) (fun _ h9 => h9) rfl dX9_meanUnlike_65 ?_
  have hS0 := hS
  have hFc := va_free (wc := [(kl, .inr (6, [.int 0, .ref (κ 0), .int 0]))]) hD hS hA [1] rfl
  refine va_callFi (va_runF (hK.1 6 _ rfl).2 (As := []) (rest := [.ref m0]) ⟨hx, hb, hml, hown, hts⟩ (c_JAL_size l κ D (H).size (kl) (0) (0) ((κ 0)) ) (va_cwF 0 hts gd_c_X9_meanUnlike_68 rfl rfl rfl hE.fw0 (by decide +kernel) ⟨(Nat.le_of_ble_eq_true rfl), (Nat.le_of_ble_eq_true rfl)⟩) (preV hE hK hP hD hS hA [1] rfl (by decide) [] rfl (va_recv hK hP (ci := 6) (q0 := 1) rfl rfl)) rfl rfl hl.1 rfl (lv_room (Nat.le_of_ble_eq_true rfl)) dX9_meanUnlike_68 ⟨(Nat.le_of_ble_eq_true rfl), (Nat.le_of_ble_eq_true rfl)⟩) hS (fun q _ h => hFc q h) hFc (fun r_3 u t H1 locs ht hvm hw hB hz1 hk1 hS => ?_)
  try dsimp only at hw
  obtain ⟨hP, hD, hK⟩ := jn (wc := [(kl, .inr (6, [.int 0, .ref (κ 0), .int 0]))]) (wr := [(m0, .inr (16, [.int 0, .ref kl, .null, .ref tl]))]) (w1 := [(kl, .inr (6, [.int 0, .ref (κ 0), .int 0]))]) (t1 := []) hP hD hK hS0 hA [1] [0] rfl rfl (by decide) (by decide) ht hvm hk1 hB
  generalize H1 = H at hP hS ⊢
  have hP : va_P D vwCl ([(m0, .inr (16, [.int 0, .ref kl, .null, .ref tl])), (kl, .inr (6, [.int 0, .ref (κ 0), .int 0]))]) H := hP
  have hD : va_D A ([(m0, .inr (16, [.int 0, .ref kl, .null, .ref tl])), (kl, .inr (6, [.int 0, .ref (κ 0), .int 0]))]) := hD
  have hK : va_K D vwCl [] s := hK
  refine W.widen (k := 0) (n := 0) (Nat.le_of_ble_eq_true rfl) (Nat.le_of_ble_eq_true rfl) ?_
  subst hw
  refine lv_iconst (v := 2) hx hb dX9_meanUnlike_73 (by decide) ?_
  refine lv_icmp_ge (tgt := 81) hx hb dX9_meanUnlike_74 (by decide) (fun c_74 => absurd c_74 (by decide)) (fun _ => ?_)
  refine lv_iconst (v := 1) hx hb dX9_meanUnlike_77 (by decide) ?_
  refine lv_goto (tgt := 82) hx hb dX9_meanUnlike_78 (by decide) ?_
  refine lv_iconst (v := 1) hx hb dX9_meanUnlike_82 (by decide) ?_
  have hS0 := hS
  have hFc := va_free (wc := [(m0, .inr (16, [.int 0, .ref kl, .null, .ref tl]))]) hD hS hA [0] rfl
  refine va_calli (va_runV (As := [.int 1, .int 1]) (rest := []) ⟨hx, hb, hml, hown, hts⟩ (c_X9_fails_1 l κ D (H).size (m0) (kl) (tl) ) (cwV 2 hts gd_c_X9_meanUnlike_83 rfl rfl rfl (by decide +kernel) ⟨(Nat.le_of_ble_eq_true rfl), (Nat.le_of_ble_eq_true rfl)⟩) (preV hE hK hP hD hS hA [0] rfl (by decide) [] rfl (va_recv hK hP (ci := 16) (q0 := 0) rfl rfl)) rfl rfl hl.1 rfl (lv_room (Nat.le_of_ble_eq_true rfl)) dX9_meanUnlike_83 ⟨(Nat.le_of_ble_eq_true rfl), (Nat.le_of_ble_eq_true rfl)⟩) hS (fun q _ h => hFc q h) hFc (fun r_4 u t H1 locs ht hvm hw hB hz1 hk1 hS => ?_)
  try dsimp only at hw
  obtain ⟨hP, hD, hK⟩ := jn (wc := [(m0, .inr (16, [.int 0, .ref kl, .null, .ref tl]))]) (wr := [(kl, .inr (6, [.int 0, .ref (κ 0), .int 0]))]) (w1 := [(m0, .inr (16, [.int 1, .ref kl, .null, .ref tl]))]) (t1 := []) hP hD hK hS0 hA [0] [1] rfl rfl (by decide) (by decide) ht hvm hk1 hB
  generalize H1 = H at hP hS ⊢
  have hP : va_P D vwCl ([(kl, .inr (6, [.int 0, .ref (κ 0), .int 0])), (m0, .inr (16, [.int 1, .ref kl, .null, .ref tl]))]) H := hP
  have hD : va_D A ([(kl, .inr (6, [.int 0, .ref (κ 0), .int 0])), (m0, .inr (16, [.int 1, .ref kl, .null, .ref tl]))]) := hD
  have hK : va_K D vwCl [] s := hK
  refine W.widen (k := 0) (n := 0) (Nat.le_of_ble_eq_true rfl) (Nat.le_of_ble_eq_true rfl) ?_
  subst hw
  refine lv_if_eq (tgt := 93) hx hb dX9_meanUnlike_86 (by decide) (fun c_86 => absurd c_86 (by decide)) (fun _ => ?_)
  refine lv_dconst0 hx hb dX9_meanUnlike_89 ?_
  refine lv_goto (tgt := 108) hx hb dX9_meanUnlike_90 (by decide) ?_
  refine W.widen (k := 0) (n := 0) (Nat.le_of_ble_eq_true rfl) (Nat.le_of_ble_eq_true rfl) ?_
  exact W.dret (v := 0) hx hb hr (fun t ht hW => ⟨⟨0, (), rfl, trivial, PB.at hP hK hD hW.alike ht [1] rfl (by decide) [] rfl⟩, hS.F ht⟩) hS.2.2 dX9_meanUnlike_108

def wm_c_X9_wipe : List Cond := .code yX9_wipe cX9_wipe 2 (some .int) :: ([.code yX9_begins cX9_begins 1 none, .fieldLink RX9 19 "SowingcourtModel" "thrown" "I", .methodLink RX9 33 yX9_begins, .instanceMethod yX9_begins, .selects RX9 yX9_begins yX9_begins, .initialized RX9, .fieldLink RX9 16 "SowingcourtModel" "typed" "Ljava/util/List;", .code yJx4a65c_size_8abf5 cJx4a65c_size_8abf5 1 (some .int), .fieldLink RJx4a65c 48 "java/util/ArrayList" "size" "I", .methodLink RX9 23 ⟨"java/util/List", "size", "()I"⟩, .selects RJx4a65c ⟨"java/util/List", "size", "()I"⟩ yJx4a65c_size_8abf5, .instanceMethod yJx4a65c_size_8abf5, .initialized RJx4a65c, .code yJx4a65c_clear_da8c8 cJx4a65c_clear_da8c8 4 none, .sameField "java/util/ArrayList" "java/util/AbstractList" "modCount" "I", .fieldLink RJx4a65c 63 "java/util/ArrayList" "modCount" "I", .fieldLink RJx4a65c 9 "java/util/ArrayList" "elementData" "[Ljava/lang/Object;", .methodLink RX9 232 ⟨"java/util/List", "clear", "()V"⟩, .selects RJx4a65c ⟨"java/util/List", "clear", "()V"⟩ yJx4a65c_clear_da8c8, .instanceMethod yJx4a65c_clear_da8c8] ++ wsX90 ++ wsJx4a65c0)
set_option maxRecDepth 20000 in
theorem gd_c_X9_wipe_1 : GoodIn wm_c_X9_wipe (wsV RX9 33 RX9 yX9_begins wm_c_X9_begins) := goodIn_of _ (by decide +kernel)
set_option maxRecDepth 20000 in
theorem gd_c_X9_wipe_8 : GoodIn wm_c_X9_wipe (va_wsF RX9 23 RJx4a65c ⟨"java/util/List", "size", "()I"⟩ yJx4a65c_size_8abf5 wm_c_JAL_size) := goodIn_of _ (by decide +kernel)
set_option maxRecDepth 20000 in
theorem gd_c_X9_wipe_18 : GoodIn wm_c_X9_wipe (va_wsF RX9 232 RJx4a65c ⟨"java/util/List", "clear", "()V"⟩ yJx4a65c_clear_da8c8 wm_c_JAL_clear) := goodIn_of _ (by decide +kernel)
set_option maxHeartbeats 4000000 in
set_option maxRecDepth 100000 in
theorem c_X9_wipe (l : Launch) (κ : Nat → Nat) (D : va_G) (sz : Nat) (m0 : Nat) (kl : Nat) (tl : Nat)  : Met l yX9_wipe wm_c_X9_wipe ({ frames := 11, cells := 0, slots := 0, locals := 380 }) (va_Pc [.ref m0] (PC κ D [] [(m0, .inr (16, [.int 0, .ref kl, .null, .ref tl])), (tl, .inr (6, [.int 0, .ref (κ 0), .int 0]))] sz)) (va_Qi (fun (r : Int32) (_ : Unit) => r = 0) (fun _ t => PB D [] [(m0, .inr (16, [.int 0, .ref kl, .null, .ref tl]))] (va_A [(m0, .inr (16, [.int 0, .ref kl, .null, .ref tl])), (tl, .inr (6, [.int 0, .ref (κ 0), .int 0]))] sz) t) (va_A [(m0, .inr (16, [.int 0, .ref kl, .null, .ref tl])), (tl, .inr (6, [.int 0, .ref (κ 0), .int 0]))] sz)) 0 0 (va_A [(m0, .inr (16, [.int 0, .ref kl, .null, .ref tl])), (tl, .inr (6, [.int 0, .ref (κ 0), .int 0]))] sz) := by
  refine Met.ofW (cc := cX9_wipe) (maxL := 2) (ret := (some .int)) (by decide +kernel) rfl ?_
  intro p e s m args below meth c s₁ B hml hv
  obtain ⟨rfl, hsz, hP, hK, hD0, hE⟩ := hv
  have hx := B.exec
  have hb := B.bytes
  have hr := B.returns
  have hts := atoms_spec (ws := wm_c_X9_wipe) B.pre
  have hown : s.vm.findClass RX9 = some m.cls := findClass_of_methodNamed B.named
  have hlocks := B.notSynchronized
  have iRX9 : ∀ w ∈ u_ws RX9 TX9 4, w ∈ wm_c_X9_wipe := by decide +kernel
  have iRJx4a65c : ∀ w ∈ u_ws RJx4a65c TJx4a65c 3, w ∈ wm_c_X9_wipe := by decide +kernel
  subst hsz
  have hD := hD0.self (sz := s.heap.size)
  generalize hAe : va_A [(m0, .inr (16, [.int 0, .ref kl, .null, .ref tl])), (tl, .inr (6, [.int 0, .ref (κ 0), .int 0]))] s.heap.size = A at hD hE ⊢
  have hA : ∀ q : Nat, s.heap.size ≤ q → A q := fun q h => by rw [← hAe]; exact Or.inr h
  have hS : va_S A s.heap s.heap [] := va_S.rf
  have hl := lv_entry ([.ref m0]) (n := 2) (Nat.le_of_ble_eq_true rfl)
  rw [lg_entry_eq]
  generalize (lg_sl ([.ref m0]) ++ List.replicate (2 - (lg_sl ([.ref m0])).length) Slot.unset).toArray = ls at hl ⊢
  have hl : lv_has ls 2 [(0, .ref m0)] := hl
  refine lv_aload_n hx hb dX9_wipe_0 rfl (lv_at hl 0 rfl) ?_
  have hS0 := hS
  have hFc := va_free (wc := [(m0, .inr (16, [.int 0, .ref kl, .null, .ref tl]))]) hD hS hA [0] rfl
  refine va_callv (va_runV (As := []) (rest := []) ⟨hx, hb, hml, hown, hts⟩ (c_X9_begins l κ D (s.heap).size (m0) (kl) (tl) (0) ) (cwV 0 hts gd_c_X9_wipe_1 rfl rfl rfl (by decide +kernel) ⟨(Nat.le_of_ble_eq_true rfl), (Nat.le_of_ble_eq_true rfl)⟩) (preV hE hK hP hD hS hA [0] rfl (by decide) [] rfl (va_recv hK hP (ci := 16) (q0 := 0) rfl rfl)) rfl rfl hl.1 rfl (lv_room (Nat.le_of_ble_eq_true rfl)) dX9_wipe_1 ⟨(Nat.le_of_ble_eq_true rfl), (Nat.le_of_ble_eq_true rfl)⟩) hS (fun q _ h => hFc q h) hFc (fun u t H1 locs ht hvm hw hB hz1 hk1 hS => ?_)
  try dsimp only at hw
  obtain ⟨hP, hD, hK⟩ := jn (wc := [(m0, .inr (16, [.int 0, .ref kl, .null, .ref tl]))]) (wr := [(tl, .inr (6, [.int 0, .ref (κ 0), .int 0]))]) (w1 := [(m0, .inr (16, [.int 0, .ref kl, .null, .ref tl]))]) (t1 := []) hP hD hK hS0 hA [0] [1] rfl rfl (by decide) (by decide) ht hvm hk1 hB
  generalize H1 = H at hP hS ⊢
  have hP : va_P D vwCl ([(tl, .inr (6, [.int 0, .ref (κ 0), .int 0])), (m0, .inr (16, [.int 0, .ref kl, .null, .ref tl]))]) H := hP
  have hD : va_D A ([(tl, .inr (6, [.int 0, .ref (κ 0), .int 0])), (m0, .inr (16, [.int 0, .ref kl, .null, .ref tl]))]) := hD
  have hK : va_K D vwCl [] s := hK
  refine W.widen (k := 0) (n := 0) (Nat.le_of_ble_eq_true rfl) (Nat.le_of_ble_eq_true rfl) ?_
  refine lv_aload_n hx hb dX9_wipe_4 rfl (lv_at hl 0 rfl) ?_
  refine va_get (D := D) (ci := 16) (v := .ref tl) (C := RX9) (T := TX9) (N := 4) hx hb hts iRX9 hown hK hP 1 rfl rfl 3 (by decide) (hts (.fieldLink RX9 16 "SowingcourtModel" "typed" "Ljava/util/List;") (by decide +kernel)) (fun _ h9 => h9) rfl dX9_wipe_5 ?_
  have hS0 := hS
  have hFc := va_free (wc := [(tl, .inr (6, [.int 0, .ref (κ 0), .int 0]))]) hD hS hA [0] rfl
  refine va_callFi (va_runF (hK.1 6 _ rfl).2 (As := []) (rest := []) ⟨hx, hb, hml, hown, hts⟩ (c_JAL_size l κ D (H).size (tl) (0) (0) ((κ 0)) ) (va_cwF 0 hts gd_c_X9_wipe_8 rfl rfl rfl hE.fw0 (by decide +kernel) ⟨(Nat.le_of_ble_eq_true rfl), (Nat.le_of_ble_eq_true rfl)⟩) (preV hE hK hP hD hS hA [0] rfl (by decide) [] rfl (va_recv hK hP (ci := 6) (q0 := 0) rfl rfl)) rfl rfl hl.1 rfl (lv_room (Nat.le_of_ble_eq_true rfl)) dX9_wipe_8 ⟨(Nat.le_of_ble_eq_true rfl), (Nat.le_of_ble_eq_true rfl)⟩) hS (fun q _ h => hFc q h) hFc (fun r_2 u t H1 locs ht hvm hw hB hz1 hk1 hS => ?_)
  try dsimp only at hw
  obtain ⟨hP, hD, hK⟩ := jn (wc := [(tl, .inr (6, [.int 0, .ref (κ 0), .int 0]))]) (wr := [(m0, .inr (16, [.int 0, .ref kl, .null, .ref tl]))]) (w1 := [(tl, .inr (6, [.int 0, .ref (κ 0), .int 0]))]) (t1 := []) hP hD hK hS0 hA [0] [1] rfl rfl (by decide) (by decide) ht hvm hk1 hB
  generalize H1 = H at hP hS ⊢
  have hP : va_P D vwCl ([(m0, .inr (16, [.int 0, .ref kl, .null, .ref tl])), (tl, .inr (6, [.int 0, .ref (κ 0), .int 0]))]) H := hP
  have hD : va_D A ([(m0, .inr (16, [.int 0, .ref kl, .null, .ref tl])), (tl, .inr (6, [.int 0, .ref (κ 0), .int 0]))]) := hD
  have hK : va_K D vwCl [] s := hK
  refine W.widen (k := 0) (n := 0) (Nat.le_of_ble_eq_true rfl) (Nat.le_of_ble_eq_true rfl) ?_
  subst hw
  refine lv_istore_n (lv' := [(1, .int 0), (0, .ref m0)]) hx hb dX9_wipe_13 rfl hl (by decide) rfl (fun ls hl => ?_)
  refine lv_aload_n hx hb dX9_wipe_14 rfl (lv_at hl 1 rfl) ?_
  refine va_get (D := D) (ci := 16) (v := .ref tl) (C := RX9) (T := TX9) (N := 4) hx hb hts iRX9 hown hK hP 0 rfl rfl 3 (by decide) (hts (.fieldLink RX9 16 "SowingcourtModel" "typed" "Ljava/util/List;") (by decide +kernel)) (fun _ h9 => h9) rfl dX9_wipe_15 ?_
  have hS0 := hS
  have hFc := va_free (wc := [(tl, .inr (6, [.int 0, .ref (κ 0), .int 0]))]) hD hS hA [1] rfl
  refine va_callFv (va_runF (hK.1 6 _ rfl).2 (As := []) (rest := []) ⟨hx, hb, hml, hown, hts⟩ (c_JAL_clear l κ D (H).size (tl) (0) ((κ 0)) ) (va_cwF 0 hts gd_c_X9_wipe_18 rfl rfl rfl hE.fw3 (by decide +kernel) ⟨(Nat.le_of_ble_eq_true rfl), (Nat.le_of_ble_eq_true rfl)⟩) (preV hE hK hP hD hS hA [1] rfl (by decide) [] rfl (va_recv hK hP (ci := 6) (q0 := 1) rfl rfl)) rfl rfl hl.1 rfl (lv_room (Nat.le_of_ble_eq_true rfl)) dX9_wipe_18 ⟨(Nat.le_of_ble_eq_true rfl), (Nat.le_of_ble_eq_true rfl)⟩) hS (fun q _ h => hFc q h) hFc (fun u t H1 locs ht hvm hw hB hz1 hk1 hS => ?_)
  try dsimp only at hw
  obtain ⟨hP, hD, hK⟩ := jn (wc := [(tl, .inr (6, [.int 0, .ref (κ 0), .int 0]))]) (wr := [(m0, .inr (16, [.int 0, .ref kl, .null, .ref tl]))]) (w1 := []) (t1 := []) hP hD hK hS0 hA [1] [0] rfl rfl (by decide) (by decide) ht hvm hk1 hB
  generalize H1 = H at hP hS ⊢
  have hP : va_P D vwCl ([(m0, .inr (16, [.int 0, .ref kl, .null, .ref tl]))]) H := hP
  have hD : va_D A ([(m0, .inr (16, [.int 0, .ref kl, .null, .ref tl]))]) := hD
  have hK : va_K D vwCl [] s := hK
  refine W.widen (k := 0) (n := 0) (Nat.le_of_ble_eq_true rfl) (Nat.le_of_ble_eq_true rfl) ?_
  refine lv_iload_n hx hb dX9_wipe_23 rfl (lv_at hl 0 rfl) ?_
  refine W.widen (k := 0) (n := 0) (Nat.le_of_ble_eq_true rfl) (Nat.le_of_ble_eq_true rfl) ?_
  exact W.iret (v := 0) hx hb hr (fun t ht hW => ⟨⟨0, (), rfl, rfl, PB.at hP hK hD hW.alike ht [0] rfl (by decide) [] rfl⟩, hS.F ht⟩) hS.2.2 dX9_wipe_24

def wm_c_X9_checksum : List Cond := .code yX9_checksum cX9_checksum 7 (some .long) :: ([.code yX9_begins cX9_begins 1 none, .fieldLink RX9 19 "SowingcourtModel" "thrown" "I", .methodLink RX9 33 yX9_begins, .instanceMethod yX9_begins, .selects RX9 yX9_begins yX9_begins, .initialized RX9, .constantLong RX9 277 (7), .fieldLink RX9 106 "SowingcourtModel" "game" "LSowingcourtModel$Game;"] ++ wsX90)
set_option maxRecDepth 20000 in
theorem gd_c_X9_checksum_1 : GoodIn wm_c_X9_checksum (wsV RX9 33 RX9 yX9_begins wm_c_X9_begins) := goodIn_of _ (by decide +kernel)
set_option maxHeartbeats 4000000 in
set_option maxRecDepth 100000 in
theorem c_X9_checksum (l : Launch) (κ : Nat → Nat) (D : va_G) (sz : Nat) (m0 : Nat) (kl : Nat) (tl : Nat)  : Met l yX9_checksum wm_c_X9_checksum ({ frames := 11, cells := 0, slots := 0, locals := 380 }) (va_Pc [.ref m0] (PC κ D [] [(m0, .inr (16, [.int 0, .ref kl, .null, .ref tl]))] sz)) (va_Ql (fun (r : Int64) (_ : Unit) => r = 7) (fun _ t => PB D [] [(m0, .inr (16, [.int 0, .ref kl, .null, .ref tl]))] (va_A [(m0, .inr (16, [.int 0, .ref kl, .null, .ref tl]))] sz) t) (va_A [(m0, .inr (16, [.int 0, .ref kl, .null, .ref tl]))] sz)) 0 0 (va_A [(m0, .inr (16, [.int 0, .ref kl, .null, .ref tl]))] sz) := by
  refine Met.ofW (cc := cX9_checksum) (maxL := 7) (ret := (some .long)) (by decide +kernel) rfl ?_
  intro p e s m args below meth c s₁ B hml hv
  obtain ⟨rfl, hsz, hP, hK, hD0, hE⟩ := hv
  have hx := B.exec
  have hb := B.bytes
  have hr := B.returns
  have hts := atoms_spec (ws := wm_c_X9_checksum) B.pre
  have hown : s.vm.findClass RX9 = some m.cls := findClass_of_methodNamed B.named
  have hlocks := B.notSynchronized
  have iRX9 : ∀ w ∈ u_ws RX9 TX9 4, w ∈ wm_c_X9_checksum := by decide +kernel
  subst hsz
  have hD := hD0.self (sz := s.heap.size)
  generalize hAe : va_A [(m0, .inr (16, [.int 0, .ref kl, .null, .ref tl]))] s.heap.size = A at hD hE ⊢
  have hA : ∀ q : Nat, s.heap.size ≤ q → A q := fun q h => by rw [← hAe]; exact Or.inr h
  have hS : va_S A s.heap s.heap [] := va_S.rf
  have hl := lv_entry ([.ref m0]) (n := 7) (Nat.le_of_ble_eq_true rfl)
  rw [lg_entry_eq]
  generalize (lg_sl ([.ref m0]) ++ List.replicate (7 - (lg_sl ([.ref m0])).length) Slot.unset).toArray = ls at hl ⊢
  have hl : lv_has ls 7 [(0, .ref m0)] := hl
  refine lv_aload_n hx hb dX9_checksum_0 rfl (lv_at hl 0 rfl) ?_
  have hS0 := hS
  have hFc := va_free (wc := [(m0, .inr (16, [.int 0, .ref kl, .null, .ref tl]))]) hD hS hA [0] rfl
  refine va_callv (va_runV (As := []) (rest := []) ⟨hx, hb, hml, hown, hts⟩ (c_X9_begins l κ D (s.heap).size (m0) (kl) (tl) (0) ) (cwV 0 hts gd_c_X9_checksum_1 rfl rfl rfl (by decide +kernel) ⟨(Nat.le_of_ble_eq_true rfl), (Nat.le_of_ble_eq_true rfl)⟩) (preV hE hK hP hD hS hA [0] rfl (by decide) [] rfl (va_recv hK hP (ci := 16) (q0 := 0) rfl rfl)) rfl rfl hl.1 rfl (lv_room (Nat.le_of_ble_eq_true rfl)) dX9_checksum_1 ⟨(Nat.le_of_ble_eq_true rfl), (Nat.le_of_ble_eq_true rfl)⟩) hS (fun q _ h => hFc q h) hFc (fun u t H1 locs ht hvm hw hB hz1 hk1 hS => ?_)
  try dsimp only at hw
  obtain ⟨hP, hD, hK⟩ := jn (wc := [(m0, .inr (16, [.int 0, .ref kl, .null, .ref tl]))]) (wr := []) (w1 := [(m0, .inr (16, [.int 0, .ref kl, .null, .ref tl]))]) (t1 := []) hP hD hK hS0 hA [0] [] rfl rfl (by decide) (by decide) ht hvm hk1 hB
  generalize H1 = H at hP hS ⊢
  have hP : va_P D vwCl ([(m0, .inr (16, [.int 0, .ref kl, .null, .ref tl]))]) H := hP
  have hD : va_D A ([(m0, .inr (16, [.int 0, .ref kl, .null, .ref tl]))]) := hD
  have hK : va_K D vwCl [] s := hK
  refine W.widen (k := 0) (n := 0) (Nat.le_of_ble_eq_true rfl) (Nat.le_of_ble_eq_true rfl) ?_
  refine lv_ldc2 (v := 7) hx hb hown (hts (.constantLong RX9 277 (7)) (by decide +kernel)) dX9_checksum_4 ?_
  refine lv_lstore_n (lv' := [(1, .long 7), (0, .ref m0)]) hx hb dX9_checksum_7 rfl hl (by decide) rfl (fun ls hl => ?_)
  refine lv_aload_n hx hb dX9_checksum_8 rfl (lv_at hl 1 rfl) ?_
  refine va_get (D := D) (ci := 16) (v := .null) (C := RX9) (T := TX9) (N := 4) hx hb hts iRX9 hown hK hP 0 rfl rfl 2 (by decide) (hts (.fieldLink RX9 106 "SowingcourtModel" "game" "LSowingcourtModel$Game;") (by decide +kernel)) (fun _ h9 => h9) rfl dX9_checksum_9 ?_
  refine lv_ifnullN (tgt := 124) hx hb dX9_checksum_12 (by decide) ?_
  refine lv_lload_n hx hb dX9_checksum_124 rfl (lv_at hl 0 rfl) ?_
  refine W.widen (k := 0) (n := 0) (Nat.le_of_ble_eq_true rfl) (Nat.le_of_ble_eq_true rfl) ?_
  exact W.lret (v := 7) hx hb hr (fun t ht hW => ⟨⟨7, (), rfl, rfl, PB.at hP hK hD hW.alike ht [0] rfl (by decide) [] rfl⟩, hS.F ht⟩) hS.2.2 dX9_checksum_125

def wm_c_X9_isSound : List Cond := .code yX9_isSound cX9_isSound 1 (some .boolean) :: ([.code yX9_begins cX9_begins 1 none, .fieldLink RX9 19 "SowingcourtModel" "thrown" "I", .methodLink RX9 33 yX9_begins, .instanceMethod yX9_begins, .selects RX9 yX9_begins yX9_begins, .initialized RX9] ++ wsX90)
set_option maxRecDepth 20000 in
theorem gd_c_X9_isSound_1 : GoodIn wm_c_X9_isSound (wsV RX9 33 RX9 yX9_begins wm_c_X9_begins) := goodIn_of _ (by decide +kernel)
set_option maxHeartbeats 4000000 in
set_option maxRecDepth 100000 in
theorem c_X9_isSound (l : Launch) (κ : Nat → Nat) (D : va_G) (sz : Nat) (m0 : Nat) (kl : Nat) (tl : Nat)  : Met l yX9_isSound wm_c_X9_isSound ({ frames := 11, cells := 0, slots := 0, locals := 380 }) (va_Pc [.ref m0] (PC κ D [] [(m0, .inr (16, [.int 0, .ref kl, .null, .ref tl]))] sz)) (va_Qi (fun (r : Int32) (_ : Unit) => r = 1) (fun _ t => PB D [] [(m0, .inr (16, [.int 0, .ref kl, .null, .ref tl]))] (va_A [(m0, .inr (16, [.int 0, .ref kl, .null, .ref tl]))] sz) t) (va_A [(m0, .inr (16, [.int 0, .ref kl, .null, .ref tl]))] sz)) 0 0 (va_A [(m0, .inr (16, [.int 0, .ref kl, .null, .ref tl]))] sz) := by
  refine Met.ofW (cc := cX9_isSound) (maxL := 1) (ret := (some .boolean)) (by decide +kernel) rfl ?_
  intro p e s m args below meth c s₁ B hml hv
  obtain ⟨rfl, hsz, hP, hK, hD0, hE⟩ := hv
  have hx := B.exec
  have hb := B.bytes
  have hr := B.returns
  have hts := atoms_spec (ws := wm_c_X9_isSound) B.pre
  have hown : s.vm.findClass RX9 = some m.cls := findClass_of_methodNamed B.named
  have hlocks := B.notSynchronized
  have iRX9 : ∀ w ∈ u_ws RX9 TX9 4, w ∈ wm_c_X9_isSound := by decide +kernel
  subst hsz
  have hD := hD0.self (sz := s.heap.size)
  generalize hAe : va_A [(m0, .inr (16, [.int 0, .ref kl, .null, .ref tl]))] s.heap.size = A at hD hE ⊢
  have hA : ∀ q : Nat, s.heap.size ≤ q → A q := fun q h => by rw [← hAe]; exact Or.inr h
  have hS : va_S A s.heap s.heap [] := va_S.rf
  have hl := lv_entry ([.ref m0]) (n := 1) (Nat.le_of_ble_eq_true rfl)
  rw [lg_entry_eq]
  generalize (lg_sl ([.ref m0]) ++ List.replicate (1 - (lg_sl ([.ref m0])).length) Slot.unset).toArray = ls at hl ⊢
  have hl : lv_has ls 1 [(0, .ref m0)] := hl
  refine lv_aload_n hx hb dX9_isSound_0 rfl (lv_at hl 0 rfl) ?_
  have hS0 := hS
  have hFc := va_free (wc := [(m0, .inr (16, [.int 0, .ref kl, .null, .ref tl]))]) hD hS hA [0] rfl
  refine va_callv (va_runV (As := []) (rest := []) ⟨hx, hb, hml, hown, hts⟩ (c_X9_begins l κ D (s.heap).size (m0) (kl) (tl) (0) ) (cwV 0 hts gd_c_X9_isSound_1 rfl rfl rfl (by decide +kernel) ⟨(Nat.le_of_ble_eq_true rfl), (Nat.le_of_ble_eq_true rfl)⟩) (preV hE hK hP hD hS hA [0] rfl (by decide) [] rfl (va_recv hK hP (ci := 16) (q0 := 0) rfl rfl)) rfl rfl hl.1 rfl (lv_room (Nat.le_of_ble_eq_true rfl)) dX9_isSound_1 ⟨(Nat.le_of_ble_eq_true rfl), (Nat.le_of_ble_eq_true rfl)⟩) hS (fun q _ h => hFc q h) hFc (fun u t H1 locs ht hvm hw hB hz1 hk1 hS => ?_)
  try dsimp only at hw
  obtain ⟨hP, hD, hK⟩ := jn (wc := [(m0, .inr (16, [.int 0, .ref kl, .null, .ref tl]))]) (wr := []) (w1 := [(m0, .inr (16, [.int 0, .ref kl, .null, .ref tl]))]) (t1 := []) hP hD hK hS0 hA [0] [] rfl rfl (by decide) (by decide) ht hvm hk1 hB
  generalize H1 = H at hP hS ⊢
  have hP : va_P D vwCl ([(m0, .inr (16, [.int 0, .ref kl, .null, .ref tl]))]) H := hP
  have hD : va_D A ([(m0, .inr (16, [.int 0, .ref kl, .null, .ref tl]))]) := hD
  have hK : va_K D vwCl [] s := hK
  refine W.widen (k := 0) (n := 0) (Nat.le_of_ble_eq_true rfl) (Nat.le_of_ble_eq_true rfl) ?_
  refine lv_iconst (v := 1) hx hb dX9_isSound_4 (by decide) ?_
  refine W.widen (k := 0) (n := 0) (Nat.le_of_ble_eq_true rfl) (Nat.le_of_ble_eq_true rfl) ?_
  exact W.zret (v := 1) hx hb hr (by decide) (fun t ht hW => ⟨⟨1, (), rfl, rfl, PB.at hP hK hD hW.alike ht [0] rfl (by decide) [] rfl⟩, hS.F ht⟩) hS.2.2 dX9_isSound_5
