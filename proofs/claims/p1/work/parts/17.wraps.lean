def wm_c_L_rule : List Cond := .codeWith yL_rule cL_rule 6 (some .int) [(0, 19, 22, 21), (0, 19, 26, 13)] :: ([.code yX5_rule cX5_rule 6 (some .boolean), .code yX5_needKind cX5_needKind 2 none, .classLink RX5 193 "java/lang/IndexOutOfBoundsException", .initialized "java/lang/IndexOutOfBoundsException", .fieldLink RX5 80 "Sowingcourt" "kindCount" "I", .methodLink RX5 97 yX5_needKind, .instanceMethod yX5_needKind, .selects RX5 yX5_needKind yX5_needKind, .initialized RX5, .methodLink RL 17 yX5_rule, .instanceMethod yX5_rule, .selects RX5 yX5_rule yX5_rule, .classLink RL 21 "java/lang/IndexOutOfBoundsException"] ++ (vx_atS RX5 197 "java/lang/IndexOutOfBoundsException" supX).filter goodWord ++ wsX50)
set_option maxRecDepth 20000 in
theorem gd_c_L_rule_7 : GoodIn wm_c_L_rule (wsV RL 17 RX5 yX5_rule wm_c_X5_rule) := goodIn_of _ (by decide +kernel)
set_option maxHeartbeats 4000000 in
set_option maxRecDepth 100000 in
theorem c_L_rule (l : Launch) (hl0 : l.stackTraces = false) (κ : Nat → Nat) (D : va_G) (sz : Nat) (h0 : Nat) (o0 : Nat) (g0 : Nat) (o2 : Nat) (o3 : Nat) (o4 : Nat) (o5 : Nat) (o6 : Nat) (p0 : Int32) (p1 : Int32) (p2 : Int32) (u0 : Nat) (cL : ClassId) (fo : Nat → Int64)  : Met l yL_rule wm_c_L_rule ({ frames := 13, cells := 1, slots := 6, locals := 500 }) (va_Pc [.ref h0, .int p0, .int p1, .int p2, .ref u0] (PC κ D [(cL, .long)] [(h0, .inr (12, [.ref o0, .int 0, .ref g0, .ref o2, .ref o3, .ref o4, .ref o5, .int 0, .ref o6])), (u0, .inl (cL, 1, .inr (.inl fo)))] sz)) (va_Qi (fun (r : Int32) (_ : Unit) => r = 1) (fun _ t => PB D [] [] (va_A [(h0, .inr (12, [.ref o0, .int 0, .ref g0, .ref o2, .ref o3, .ref o4, .ref o5, .int 0, .ref o6])), (u0, .inl (cL, 1, .inr (.inl fo)))] sz) t) (va_A [(h0, .inr (12, [.ref o0, .int 0, .ref g0, .ref o2, .ref o3, .ref o4, .ref o5, .int 0, .ref o6])), (u0, .inl (cL, 1, .inr (.inl fo)))] sz)) 1 6 (va_A [(h0, .inr (12, [.ref o0, .int 0, .ref g0, .ref o2, .ref o3, .ref o4, .ref o5, .int 0, .ref o6])), (u0, .inl (cL, 1, .inr (.inl fo)))] sz) := by
  refine va_MetW (cc := cL_rule) (maxL := 6) (ret := (some .int)) (by decide +kernel) rfl ?_
  intro p e s m args below meth c s₁ B hml hv
  obtain ⟨rfl, hsz, hP, hK, hD0, hE⟩ := hv
  have hx := B.exec
  have hb := B.bytes
  have hr := B.returns
  have hts := atoms_spec (ws := wm_c_L_rule) B.pre
  have hown : s.vm.findClass RL = some m.cls := findClass_of_methodNamed B.named
  have hlocks := B.notSynchronized
  have htb : c.exceptionTable.toList = tableOf [(0, 19, 22, 21), (0, 19, 26, 13)] := vx_table (x := yL_rule) B (hts _ List.mem_cons_self)
  have iRX5 : ∀ w ∈ u_ws RX5 TX5 9, w ∈ wm_c_L_rule := by decide +kernel
  subst hsz
  have hD := hD0.self (sz := s.heap.size)
  generalize hAe : va_A [(h0, .inr (12, [.ref o0, .int 0, .ref g0, .ref o2, .ref o3, .ref o4, .ref o5, .int 0, .ref o6])), (u0, .inl (cL, 1, .inr (.inl fo)))] s.heap.size = A at hD hE ⊢
  have hA : ∀ q : Nat, s.heap.size ≤ q → A q := fun q h => by rw [← hAe]; exact Or.inr h
  have hS : va_S A s.heap s.heap [] := va_S.rf
  have hl := lv_entry ([.ref h0, .int p0, .int p1, .int p2, .ref u0]) (n := 6) (Nat.le_of_ble_eq_true rfl)
  rw [lg_entry_eq]
  generalize (lg_sl ([.ref h0, .int p0, .int p1, .int p2, .ref u0]) ++ List.replicate (6 - (lg_sl ([.ref h0, .int p0, .int p1, .int p2, .ref u0])).length) Slot.unset).toArray = ls at hl ⊢
  have hl : lv_has ls 6 [(0, .ref h0), (1, .int p0), (2, .int p1), (3, .int p2), (4, .ref u0)] := hl
  refine lv_aload hx hb dL_rule_0 (lv_at hl 4 rfl) ?_
  refine lv_iconst (v := 0) hx hb dL_rule_2 (by decide) ?_
  refine lv_aload_n hx hb dL_rule_3 rfl (lv_at hl 0 rfl) ?_
  refine lv_iload_n hx hb dL_rule_4 rfl (lv_at hl 1 rfl) ?_
  refine lv_iload_n hx hb dL_rule_5 rfl (lv_at hl 2 rfl) ?_
  refine lv_iload_n hx hb dL_rule_6 rfl (lv_at hl 3 rfl) ?_
  have hS0 := hS
  have hFc := va_free (wc := [(h0, .inr (12, [.ref o0, .int 0, .ref g0, .ref o2, .ref o3, .ref o4, .ref o5, .int 0, .ref o6]))]) hD hS hA [0] rfl
  refine vx_calli (vx_runV (As := [.int p0, .int p1, .int p2]) (rest := [.int 0, .ref u0]) ⟨hx, hb, hml, hown, hts⟩ (c_X5_rule l hl0 κ D (s.heap).size (h0) (o0) (g0) (o2) (o3) (o4) (o5) (o6) (p0) (p1) (p2) ) (cwV 3 hts gd_c_L_rule_7 rfl rfl rfl (by decide +kernel) ⟨(Nat.le_of_ble_eq_true rfl), (Nat.le_of_ble_eq_true rfl)⟩) (preV hE hK hP hD hS hA [0] rfl (by decide) [] rfl (va_recv hK hP (ci := 12) (q0 := 0) rfl rfl)) rfl rfl hl.1 rfl (lv_room (Nat.le_of_ble_eq_true rfl)) dL_rule_7 ⟨(Nat.le_of_ble_eq_true rfl), (Nat.le_of_ble_eq_true rfl)⟩) hS (fun q _ h => hFc q h) hFc (fun q _ h => hFc q h) (fun E9 ce q9 u9 t H1 locs ht hvm _ hB hz1 hk1 hS hce hcv hcl => ?_) (fun _ _ _ _ _ _ _ hw => hw.elim)
  obtain ⟨rfl, hB⟩ := hB
  obtain ⟨hP, hD, hK⟩ := jn (wc := [(h0, .inr (12, [.ref o0, .int 0, .ref g0, .ref o2, .ref o3, .ref o4, .ref o5, .int 0, .ref o6]))]) (wr := [(u0, .inl (cL, 1, .inr (.inl fo)))]) (w1 := [(h0, .inr (12, [.ref o0, .int 0, .ref g0, .ref o2, .ref o3, .ref o4, .ref o5, .int 0, .ref o6]))]) (t1 := []) hP hD hK hS0 hA [0] [1] rfl rfl (by decide) (by decide) ht hvm hk1 hB
  generalize H1 = H at hP hS hce ⊢
  have hP : va_P D vwCl ([(u0, .inl (cL, 1, .inr (.inl fo))), (h0, .inr (12, [.ref o0, .int 0, .ref g0, .ref o2, .ref o3, .ref o4, .ref o5, .int 0, .ref o6]))]) H := hP
  have hD : va_D A ([(u0, .inl (cL, 1, .inr (.inl fo))), (h0, .inr (12, [.ref o0, .int 0, .ref g0, .ref o2, .ref o3, .ref o4, .ref o5, .int 0, .ref o6]))]) := hD
  have hK : va_K D vwCl [(cL, .long)] s := hK
  refine vx_widen (k := 1) (n := 6) (Nat.le_of_ble_eq_true rfl) (Nat.le_of_ble_eq_true rfl) ?_
  refine vx_catch (E := "java/lang/IndexOutOfBoundsException") (name := "java/lang/IndexOutOfBoundsException") hown [] ⟨0, 19, 22, 21⟩ [⟨0, 19, 26, 13⟩] htb (fun z hz => absurd hz List.not_mem_nil) (by decide) (by decide) (hts (.classLink RL 21 "java/lang/IndexOutOfBoundsException") (by decide +kernel)) (va_Nw.use rfl hE.ca2) hce hcv hcl ?_
  refine W.eq (g2 := F0 m 22 ls [.ref q9]) rfl ?_
  refine lv_astore (lv' := [(5, .ref q9), (0, .ref h0), (1, .int p0), (2, .int p1), (3, .int p2), (4, .ref u0)]) hx hb dL_rule_22 hl (by decide) rfl (fun ls hl => ?_)
  refine lv_iconst (v := 1) hx hb dL_rule_24 (by decide) ?_
  refine W.widen (k := 1) (n := 6) (Nat.le_of_ble_eq_true rfl) (Nat.le_of_ble_eq_true rfl) ?_
  exact W.iret (v := 1) hx hb hr (fun t ht hW => ⟨⟨1, (), rfl, rfl, PB.at hP hK hD hW.alike ht [] rfl (by decide) [] rfl⟩, hS.F ht⟩) hS.2.2 dL_rule_25

def wm_c_L_holds : List Cond := .codeWith yL_holds cL_holds 5 (some .int) [(0, 17, 20, 21), (0, 17, 24, 13)] :: ([.code yX5_holds cX5_holds 3 (some .boolean), .code yX5_needKind cX5_needKind 2 none, .classLink RX5 193 "java/lang/IndexOutOfBoundsException", .initialized "java/lang/IndexOutOfBoundsException", .fieldLink RX5 80 "Sowingcourt" "kindCount" "I", .methodLink RX5 97 yX5_needKind, .instanceMethod yX5_needKind, .selects RX5 yX5_needKind yX5_needKind, .initialized RX5, .methodLink RL 23 yX5_holds, .instanceMethod yX5_holds, .selects RX5 yX5_holds yX5_holds, .classLink RL 21 "java/lang/IndexOutOfBoundsException"] ++ (vx_atS RX5 197 "java/lang/IndexOutOfBoundsException" supX).filter goodWord ++ wsX50)
set_option maxRecDepth 20000 in
theorem gd_c_L_holds_5 : GoodIn wm_c_L_holds (wsV RL 23 RX5 yX5_holds wm_c_X5_holds) := goodIn_of _ (by decide +kernel)
set_option maxHeartbeats 4000000 in
set_option maxRecDepth 100000 in
theorem c_L_holds (l : Launch) (hl0 : l.stackTraces = false) (κ : Nat → Nat) (D : va_G) (sz : Nat) (h0 : Nat) (o0 : Nat) (g0 : Nat) (o2 : Nat) (o3 : Nat) (o4 : Nat) (o5 : Nat) (o6 : Nat) (p0 : Int32) (p1 : Int32) (u0 : Nat) (cL : ClassId) (fo : Nat → Int64)  : Met l yL_holds wm_c_L_holds ({ frames := 13, cells := 1, slots := 6, locals := 500 }) (va_Pc [.ref h0, .int p0, .int p1, .ref u0] (PC κ D [(cL, .long)] [(h0, .inr (12, [.ref o0, .int 0, .ref g0, .ref o2, .ref o3, .ref o4, .ref o5, .int 0, .ref o6])), (u0, .inl (cL, 1, .inr (.inl fo)))] sz)) (va_Qi (fun (r : Int32) (_ : Unit) => r = 1) (fun _ t => PB D [] [] (va_A [(h0, .inr (12, [.ref o0, .int 0, .ref g0, .ref o2, .ref o3, .ref o4, .ref o5, .int 0, .ref o6])), (u0, .inl (cL, 1, .inr (.inl fo)))] sz) t) (va_A [(h0, .inr (12, [.ref o0, .int 0, .ref g0, .ref o2, .ref o3, .ref o4, .ref o5, .int 0, .ref o6])), (u0, .inl (cL, 1, .inr (.inl fo)))] sz)) 1 6 (va_A [(h0, .inr (12, [.ref o0, .int 0, .ref g0, .ref o2, .ref o3, .ref o4, .ref o5, .int 0, .ref o6])), (u0, .inl (cL, 1, .inr (.inl fo)))] sz) := by
  refine va_MetW (cc := cL_holds) (maxL := 5) (ret := (some .int)) (by decide +kernel) rfl ?_
  intro p e s m args below meth c s₁ B hml hv
  obtain ⟨rfl, hsz, hP, hK, hD0, hE⟩ := hv
  have hx := B.exec
  have hb := B.bytes
  have hr := B.returns
  have hts := atoms_spec (ws := wm_c_L_holds) B.pre
  have hown : s.vm.findClass RL = some m.cls := findClass_of_methodNamed B.named
  have hlocks := B.notSynchronized
  have htb : c.exceptionTable.toList = tableOf [(0, 17, 20, 21), (0, 17, 24, 13)] := vx_table (x := yL_holds) B (hts _ List.mem_cons_self)
  have iRX5 : ∀ w ∈ u_ws RX5 TX5 9, w ∈ wm_c_L_holds := by decide +kernel
  subst hsz
  have hD := hD0.self (sz := s.heap.size)
  generalize hAe : va_A [(h0, .inr (12, [.ref o0, .int 0, .ref g0, .ref o2, .ref o3, .ref o4, .ref o5, .int 0, .ref o6])), (u0, .inl (cL, 1, .inr (.inl fo)))] s.heap.size = A at hD hE ⊢
  have hA : ∀ q : Nat, s.heap.size ≤ q → A q := fun q h => by rw [← hAe]; exact Or.inr h
  have hS : va_S A s.heap s.heap [] := va_S.rf
  have hl := lv_entry ([.ref h0, .int p0, .int p1, .ref u0]) (n := 5) (Nat.le_of_ble_eq_true rfl)
  rw [lg_entry_eq]
  generalize (lg_sl ([.ref h0, .int p0, .int p1, .ref u0]) ++ List.replicate (5 - (lg_sl ([.ref h0, .int p0, .int p1, .ref u0])).length) Slot.unset).toArray = ls at hl ⊢
  have hl : lv_has ls 5 [(0, .ref h0), (1, .int p0), (2, .int p1), (3, .ref u0)] := hl
  refine lv_aload_n hx hb dL_holds_0 rfl (lv_at hl 3 rfl) ?_
  refine lv_iconst (v := 0) hx hb dL_holds_1 (by decide) ?_
  refine lv_aload_n hx hb dL_holds_2 rfl (lv_at hl 0 rfl) ?_
  refine lv_iload_n hx hb dL_holds_3 rfl (lv_at hl 1 rfl) ?_
  refine lv_iload_n hx hb dL_holds_4 rfl (lv_at hl 2 rfl) ?_
  have hS0 := hS
  have hFc := va_free (wc := [(h0, .inr (12, [.ref o0, .int 0, .ref g0, .ref o2, .ref o3, .ref o4, .ref o5, .int 0, .ref o6]))]) hD hS hA [0] rfl
  refine vx_calli (vx_runV (As := [.int p0, .int p1]) (rest := [.int 0, .ref u0]) ⟨hx, hb, hml, hown, hts⟩ (c_X5_holds l hl0 κ D (s.heap).size (h0) (o0) (g0) (o2) (o3) (o4) (o5) (o6) (p0) (p1) ) (cwV 2 hts gd_c_L_holds_5 rfl rfl rfl (by decide +kernel) ⟨(Nat.le_of_ble_eq_true rfl), (Nat.le_of_ble_eq_true rfl)⟩) (preV hE hK hP hD hS hA [0] rfl (by decide) [] rfl (va_recv hK hP (ci := 12) (q0 := 0) rfl rfl)) rfl rfl hl.1 rfl (lv_room (Nat.le_of_ble_eq_true rfl)) dL_holds_5 ⟨(Nat.le_of_ble_eq_true rfl), (Nat.le_of_ble_eq_true rfl)⟩) hS (fun q _ h => hFc q h) hFc (fun q _ h => hFc q h) (fun E9 ce q9 u9 t H1 locs ht hvm _ hB hz1 hk1 hS hce hcv hcl => ?_) (fun _ _ _ _ _ _ _ hw => hw.elim)
  obtain ⟨rfl, hB⟩ := hB
  obtain ⟨hP, hD, hK⟩ := jn (wc := [(h0, .inr (12, [.ref o0, .int 0, .ref g0, .ref o2, .ref o3, .ref o4, .ref o5, .int 0, .ref o6]))]) (wr := [(u0, .inl (cL, 1, .inr (.inl fo)))]) (w1 := [(h0, .inr (12, [.ref o0, .int 0, .ref g0, .ref o2, .ref o3, .ref o4, .ref o5, .int 0, .ref o6]))]) (t1 := []) hP hD hK hS0 hA [0] [1] rfl rfl (by decide) (by decide) ht hvm hk1 hB
  generalize H1 = H at hP hS hce ⊢
  have hP : va_P D vwCl ([(u0, .inl (cL, 1, .inr (.inl fo))), (h0, .inr (12, [.ref o0, .int 0, .ref g0, .ref o2, .ref o3, .ref o4, .ref o5, .int 0, .ref o6]))]) H := hP
  have hD : va_D A ([(u0, .inl (cL, 1, .inr (.inl fo))), (h0, .inr (12, [.ref o0, .int 0, .ref g0, .ref o2, .ref o3, .ref o4, .ref o5, .int 0, .ref o6]))]) := hD
  have hK : va_K D vwCl [(cL, .long)] s := hK
  refine vx_widen (k := 1) (n := 6) (Nat.le_of_ble_eq_true rfl) (Nat.le_of_ble_eq_true rfl) ?_
  refine vx_catch (E := "java/lang/IndexOutOfBoundsException") (name := "java/lang/IndexOutOfBoundsException") hown [] ⟨0, 17, 20, 21⟩ [⟨0, 17, 24, 13⟩] htb (fun z hz => absurd hz List.not_mem_nil) (by decide) (by decide) (hts (.classLink RL 21 "java/lang/IndexOutOfBoundsException") (by decide +kernel)) (va_Nw.use rfl hE.ca2) hce hcv hcl ?_
  refine W.eq (g2 := F0 m 20 ls [.ref q9]) rfl ?_
  refine lv_astore (lv' := [(4, .ref q9), (0, .ref h0), (1, .int p0), (2, .int p1), (3, .ref u0)]) hx hb dL_holds_20 hl (by decide) rfl (fun ls hl => ?_)
  refine lv_iconst (v := 1) hx hb dL_holds_22 (by decide) ?_
  refine W.widen (k := 1) (n := 6) (Nat.le_of_ble_eq_true rfl) (Nat.le_of_ble_eq_true rfl) ?_
  exact W.iret (v := 1) hx hb hr (fun t ht hW => ⟨⟨1, (), rfl, rfl, PB.at hP hK hD hW.alike ht [] rfl (by decide) [] rfl⟩, hS.F ht⟩) hS.2.2 dL_holds_23

def wm_c_L_copy : List Cond := .codeWith yL_copy cL_copy 4 (some .int) [(0, 9, 12, 21), (0, 9, 15, 15)] :: ([.code yX5_copy cX5_copy 2 (some .int), .code yX5_needKind cX5_needKind 2 none, .classLink RX5 193 "java/lang/IndexOutOfBoundsException", .initialized "java/lang/IndexOutOfBoundsException", .fieldLink RX5 80 "Sowingcourt" "kindCount" "I", .methodLink RX5 97 yX5_needKind, .instanceMethod yX5_needKind, .selects RX5 yX5_needKind yX5_needKind, .initialized RX5, .methodLink RL 27 yX5_copy, .instanceMethod yX5_copy, .selects RX5 yX5_copy yX5_copy, .classLink RL 21 "java/lang/IndexOutOfBoundsException"] ++ (vx_atS RX5 197 "java/lang/IndexOutOfBoundsException" supX).filter goodWord ++ wsX50)
set_option maxRecDepth 20000 in
theorem gd_c_L_copy_4 : GoodIn wm_c_L_copy (wsV RL 27 RX5 yX5_copy wm_c_X5_copy) := goodIn_of _ (by decide +kernel)
set_option maxHeartbeats 4000000 in
set_option maxRecDepth 100000 in
theorem c_L_copy (l : Launch) (hl0 : l.stackTraces = false) (κ : Nat → Nat) (D : va_G) (sz : Nat) (h0 : Nat) (o0 : Nat) (g0 : Nat) (o2 : Nat) (o3 : Nat) (o4 : Nat) (o5 : Nat) (o6 : Nat) (p0 : Int32) (u0 : Nat) (cL : ClassId) (fo : Nat → Int64)  : Met l yL_copy wm_c_L_copy ({ frames := 13, cells := 1, slots := 6, locals := 500 }) (va_Pc [.ref h0, .int p0, .ref u0] (PC κ D [(cL, .long)] [(h0, .inr (12, [.ref o0, .int 0, .ref g0, .ref o2, .ref o3, .ref o4, .ref o5, .int 0, .ref o6])), (u0, .inl (cL, 1, .inr (.inl fo)))] sz)) (va_Qi (fun (r : Int32) (_ : Unit) => r = 1) (fun _ t => PB D [] [] (va_A [(h0, .inr (12, [.ref o0, .int 0, .ref g0, .ref o2, .ref o3, .ref o4, .ref o5, .int 0, .ref o6])), (u0, .inl (cL, 1, .inr (.inl fo)))] sz) t) (va_A [(h0, .inr (12, [.ref o0, .int 0, .ref g0, .ref o2, .ref o3, .ref o4, .ref o5, .int 0, .ref o6])), (u0, .inl (cL, 1, .inr (.inl fo)))] sz)) 1 6 (va_A [(h0, .inr (12, [.ref o0, .int 0, .ref g0, .ref o2, .ref o3, .ref o4, .ref o5, .int 0, .ref o6])), (u0, .inl (cL, 1, .inr (.inl fo)))] sz) := by
  refine va_MetW (cc := cL_copy) (maxL := 4) (ret := (some .int)) (by decide +kernel) rfl ?_
  intro p e s m args below meth c s₁ B hml hv
  obtain ⟨rfl, hsz, hP, hK, hD0, hE⟩ := hv
  have hx := B.exec
  have hb := B.bytes
  have hr := B.returns
  have hts := atoms_spec (ws := wm_c_L_copy) B.pre
  have hown : s.vm.findClass RL = some m.cls := findClass_of_methodNamed B.named
  have hlocks := B.notSynchronized
  have htb : c.exceptionTable.toList = tableOf [(0, 9, 12, 21), (0, 9, 15, 15)] := vx_table (x := yL_copy) B (hts _ List.mem_cons_self)
  have iRX5 : ∀ w ∈ u_ws RX5 TX5 9, w ∈ wm_c_L_copy := by decide +kernel
  subst hsz
  have hD := hD0.self (sz := s.heap.size)
  generalize hAe : va_A [(h0, .inr (12, [.ref o0, .int 0, .ref g0, .ref o2, .ref o3, .ref o4, .ref o5, .int 0, .ref o6])), (u0, .inl (cL, 1, .inr (.inl fo)))] s.heap.size = A at hD hE ⊢
  have hA : ∀ q : Nat, s.heap.size ≤ q → A q := fun q h => by rw [← hAe]; exact Or.inr h
  have hS : va_S A s.heap s.heap [] := va_S.rf
  have hl := lv_entry ([.ref h0, .int p0, .ref u0]) (n := 4) (Nat.le_of_ble_eq_true rfl)
  rw [lg_entry_eq]
  generalize (lg_sl ([.ref h0, .int p0, .ref u0]) ++ List.replicate (4 - (lg_sl ([.ref h0, .int p0, .ref u0])).length) Slot.unset).toArray = ls at hl ⊢
  have hl : lv_has ls 4 [(0, .ref h0), (1, .int p0), (2, .ref u0)] := hl
  refine lv_aload_n hx hb dL_copy_0 rfl (lv_at hl 2 rfl) ?_
  refine lv_iconst (v := 0) hx hb dL_copy_1 (by decide) ?_
  refine lv_aload_n hx hb dL_copy_2 rfl (lv_at hl 0 rfl) ?_
  refine lv_iload_n hx hb dL_copy_3 rfl (lv_at hl 1 rfl) ?_
  have hS0 := hS
  have hFc := va_free (wc := [(h0, .inr (12, [.ref o0, .int 0, .ref g0, .ref o2, .ref o3, .ref o4, .ref o5, .int 0, .ref o6]))]) hD hS hA [0] rfl
  refine vx_calli (vx_runV (As := [.int p0]) (rest := [.int 0, .ref u0]) ⟨hx, hb, hml, hown, hts⟩ (c_X5_copy l hl0 κ D (s.heap).size (h0) (o0) (g0) (o2) (o3) (o4) (o5) (o6) (p0) ) (cwV 1 hts gd_c_L_copy_4 rfl rfl rfl (by decide +kernel) ⟨(Nat.le_of_ble_eq_true rfl), (Nat.le_of_ble_eq_true rfl)⟩) (preV hE hK hP hD hS hA [0] rfl (by decide) [] rfl (va_recv hK hP (ci := 12) (q0 := 0) rfl rfl)) rfl rfl hl.1 rfl (lv_room (Nat.le_of_ble_eq_true rfl)) dL_copy_4 ⟨(Nat.le_of_ble_eq_true rfl), (Nat.le_of_ble_eq_true rfl)⟩) hS (fun q _ h => hFc q h) hFc (fun q _ h => hFc q h) (fun E9 ce q9 u9 t H1 locs ht hvm _ hB hz1 hk1 hS hce hcv hcl => ?_) (fun _ _ _ _ _ _ _ hw => hw.elim)
  obtain ⟨rfl, hB⟩ := hB
  obtain ⟨hP, hD, hK⟩ := jn (wc := [(h0, .inr (12, [.ref o0, .int 0, .ref g0, .ref o2, .ref o3, .ref o4, .ref o5, .int 0, .ref o6]))]) (wr := [(u0, .inl (cL, 1, .inr (.inl fo)))]) (w1 := [(h0, .inr (12, [.ref o0, .int 0, .ref g0, .ref o2, .ref o3, .ref o4, .ref o5, .int 0, .ref o6]))]) (t1 := []) hP hD hK hS0 hA [0] [1] rfl rfl (by decide) (by decide) ht hvm hk1 hB
  generalize H1 = H at hP hS hce ⊢
  have hP : va_P D vwCl ([(u0, .inl (cL, 1, .inr (.inl fo))), (h0, .inr (12, [.ref o0, .int 0, .ref g0, .ref o2, .ref o3, .ref o4, .ref o5, .int 0, .ref o6]))]) H := hP
  have hD : va_D A ([(u0, .inl (cL, 1, .inr (.inl fo))), (h0, .inr (12, [.ref o0, .int 0, .ref g0, .ref o2, .ref o3, .ref o4, .ref o5, .int 0, .ref o6]))]) := hD
  have hK : va_K D vwCl [(cL, .long)] s := hK
  refine vx_widen (k := 1) (n := 6) (Nat.le_of_ble_eq_true rfl) (Nat.le_of_ble_eq_true rfl) ?_
  refine vx_catch (E := "java/lang/IndexOutOfBoundsException") (name := "java/lang/IndexOutOfBoundsException") hown [] ⟨0, 9, 12, 21⟩ [⟨0, 9, 15, 15⟩] htb (fun z hz => absurd hz List.not_mem_nil) (by decide) (by decide) (hts (.classLink RL 21 "java/lang/IndexOutOfBoundsException") (by decide +kernel)) (va_Nw.use rfl hE.ca2) hce hcv hcl ?_
  refine W.eq (g2 := F0 m 12 ls [.ref q9]) rfl ?_
  refine lv_astore_n (lv' := [(3, .ref q9), (0, .ref h0), (1, .int p0), (2, .ref u0)]) hx hb dL_copy_12 rfl hl (by decide) rfl (fun ls hl => ?_)
  refine lv_iconst (v := 1) hx hb dL_copy_13 (by decide) ?_
  refine W.widen (k := 1) (n := 6) (Nat.le_of_ble_eq_true rfl) (Nat.le_of_ble_eq_true rfl) ?_
  exact W.iret (v := 1) hx hb hr (fun t ht hW => ⟨⟨1, (), rfl, rfl, PB.at hP hK hD hW.alike ht [] rfl (by decide) [] rfl⟩, hS.F ht⟩) hS.2.2 dL_copy_14

def wm_c_L_unlike : List Cond := .codeWith yL_unlike cL_unlike 5 (some .int) [(0, 10, 13, 21)] :: ([.code yX5_unlike cX5_unlike 3 (some .int), .code yX5_needKind cX5_needKind 2 none, .classLink RX5 193 "java/lang/IndexOutOfBoundsException", .initialized "java/lang/IndexOutOfBoundsException", .fieldLink RX5 80 "Sowingcourt" "kindCount" "I", .methodLink RX5 97 yX5_needKind, .instanceMethod yX5_needKind, .selects RX5 yX5_needKind yX5_needKind, .initialized RX5, .methodLink RL 31 yX5_unlike, .instanceMethod yX5_unlike, .selects RX5 yX5_unlike yX5_unlike, .classLink RL 21 "java/lang/IndexOutOfBoundsException"] ++ (vx_atS RX5 197 "java/lang/IndexOutOfBoundsException" supX).filter goodWord ++ wsX50)
set_option maxRecDepth 20000 in
theorem gd_c_L_unlike_5 : GoodIn wm_c_L_unlike (wsV RL 31 RX5 yX5_unlike wm_c_X5_unlike) := goodIn_of _ (by decide +kernel)
set_option maxHeartbeats 4000000 in
set_option maxRecDepth 100000 in
theorem c_L_unlike (l : Launch) (hl0 : l.stackTraces = false) (κ : Nat → Nat) (D : va_G) (sz : Nat) (h0 : Nat) (o0 : Nat) (g0 : Nat) (o2 : Nat) (o3 : Nat) (o4 : Nat) (o5 : Nat) (o6 : Nat) (p0 : Int32) (p1 : Int32) (u0 : Nat) (cL : ClassId) (fo : Nat → Int64)  : Met l yL_unlike wm_c_L_unlike ({ frames := 13, cells := 1, slots := 6, locals := 500 }) (va_Pc [.ref h0, .int p0, .int p1, .ref u0] (PC κ D [(cL, .long)] [(h0, .inr (12, [.ref o0, .int 0, .ref g0, .ref o2, .ref o3, .ref o4, .ref o5, .int 0, .ref o6])), (u0, .inl (cL, 1, .inr (.inl fo)))] sz)) (va_Qi (fun (r : Int32) (_ : Unit) => r = 1) (fun _ t => PB D [] [] (va_A [(h0, .inr (12, [.ref o0, .int 0, .ref g0, .ref o2, .ref o3, .ref o4, .ref o5, .int 0, .ref o6])), (u0, .inl (cL, 1, .inr (.inl fo)))] sz) t) (va_A [(h0, .inr (12, [.ref o0, .int 0, .ref g0, .ref o2, .ref o3, .ref o4, .ref o5, .int 0, .ref o6])), (u0, .inl (cL, 1, .inr (.inl fo)))] sz)) 1 6 (va_A [(h0, .inr (12, [.ref o0, .int 0, .ref g0, .ref o2, .ref o3, .ref o4, .ref o5, .int 0, .ref o6])), (u0, .inl (cL, 1, .inr (.inl fo)))] sz) := by
  refine va_MetW (cc := cL_unlike) (maxL := 5) (ret := (some .int)) (by decide +kernel) rfl ?_
  intro p e s m args below meth c s₁ B hml hv
  obtain ⟨rfl, hsz, hP, hK, hD0, hE⟩ := hv
  have hx := B.exec
  have hb := B.bytes
  have hr := B.returns
  have hts := atoms_spec (ws := wm_c_L_unlike) B.pre
  have hown : s.vm.findClass RL = some m.cls := findClass_of_methodNamed B.named
  have hlocks := B.notSynchronized
  have htb : c.exceptionTable.toList = tableOf [(0, 10, 13, 21)] := vx_table (x := yL_unlike) B (hts _ List.mem_cons_self)
  have iRX5 : ∀ w ∈ u_ws RX5 TX5 9, w ∈ wm_c_L_unlike := by decide +kernel
  subst hsz
  have hD := hD0.self (sz := s.heap.size)
  generalize hAe : va_A [(h0, .inr (12, [.ref o0, .int 0, .ref g0, .ref o2, .ref o3, .ref o4, .ref o5, .int 0, .ref o6])), (u0, .inl (cL, 1, .inr (.inl fo)))] s.heap.size = A at hD hE ⊢
  have hA : ∀ q : Nat, s.heap.size ≤ q → A q := fun q h => by rw [← hAe]; exact Or.inr h
  have hS : va_S A s.heap s.heap [] := va_S.rf
  have hl := lv_entry ([.ref h0, .int p0, .int p1, .ref u0]) (n := 5) (Nat.le_of_ble_eq_true rfl)
  rw [lg_entry_eq]
  generalize (lg_sl ([.ref h0, .int p0, .int p1, .ref u0]) ++ List.replicate (5 - (lg_sl ([.ref h0, .int p0, .int p1, .ref u0])).length) Slot.unset).toArray = ls at hl ⊢
  have hl : lv_has ls 5 [(0, .ref h0), (1, .int p0), (2, .int p1), (3, .ref u0)] := hl
  refine lv_aload_n hx hb dL_unlike_0 rfl (lv_at hl 3 rfl) ?_
  refine lv_iconst (v := 0) hx hb dL_unlike_1 (by decide) ?_
  refine lv_aload_n hx hb dL_unlike_2 rfl (lv_at hl 0 rfl) ?_
  refine lv_iload_n hx hb dL_unlike_3 rfl (lv_at hl 1 rfl) ?_
  refine lv_iload_n hx hb dL_unlike_4 rfl (lv_at hl 2 rfl) ?_
  have hS0 := hS
  have hFc := va_free (wc := [(h0, .inr (12, [.ref o0, .int 0, .ref g0, .ref o2, .ref o3, .ref o4, .ref o5, .int 0, .ref o6]))]) hD hS hA [0] rfl
  refine vx_calli (vx_runV (As := [.int p0, .int p1]) (rest := [.int 0, .ref u0]) ⟨hx, hb, hml, hown, hts⟩ (c_X5_unlike l hl0 κ D (s.heap).size (h0) (o0) (g0) (o2) (o3) (o4) (o5) (o6) (p0) (p1) ) (cwV 2 hts gd_c_L_unlike_5 rfl rfl rfl (by decide +kernel) ⟨(Nat.le_of_ble_eq_true rfl), (Nat.le_of_ble_eq_true rfl)⟩) (preV hE hK hP hD hS hA [0] rfl (by decide) [] rfl (va_recv hK hP (ci := 12) (q0 := 0) rfl rfl)) rfl rfl hl.1 rfl (lv_room (Nat.le_of_ble_eq_true rfl)) dL_unlike_5 ⟨(Nat.le_of_ble_eq_true rfl), (Nat.le_of_ble_eq_true rfl)⟩) hS (fun q _ h => hFc q h) hFc (fun q _ h => hFc q h) (fun E9 ce q9 u9 t H1 locs ht hvm _ hB hz1 hk1 hS hce hcv hcl => ?_) (fun _ _ _ _ _ _ _ hw => hw.elim)
  obtain ⟨rfl, hB⟩ := hB
  obtain ⟨hP, hD, hK⟩ := jn (wc := [(h0, .inr (12, [.ref o0, .int 0, .ref g0, .ref o2, .ref o3, .ref o4, .ref o5, .int 0, .ref o6]))]) (wr := [(u0, .inl (cL, 1, .inr (.inl fo)))]) (w1 := [(h0, .inr (12, [.ref o0, .int 0, .ref g0, .ref o2, .ref o3, .ref o4, .ref o5, .int 0, .ref o6]))]) (t1 := []) hP hD hK hS0 hA [0] [1] rfl rfl (by decide) (by decide) ht hvm hk1 hB
  generalize H1 = H at hP hS hce ⊢
  have hP : va_P D vwCl ([(u0, .inl (cL, 1, .inr (.inl fo))), (h0, .inr (12, [.ref o0, .int 0, .ref g0, .ref o2, .ref o3, .ref o4, .ref o5, .int 0, .ref o6]))]) H := hP
  have hD : va_D A ([(u0, .inl (cL, 1, .inr (.inl fo))), (h0, .inr (12, [.ref o0, .int 0, .ref g0, .ref o2, .ref o3, .ref o4, .ref o5, .int 0, .ref o6]))]) := hD
  have hK : va_K D vwCl [(cL, .long)] s := hK
  refine vx_widen (k := 1) (n := 6) (Nat.le_of_ble_eq_true rfl) (Nat.le_of_ble_eq_true rfl) ?_
  refine vx_catch (E := "java/lang/IndexOutOfBoundsException") (name := "java/lang/IndexOutOfBoundsException") hown [] ⟨0, 10, 13, 21⟩ [] htb (fun z hz => absurd hz List.not_mem_nil) (by decide) (by decide) (hts (.classLink RL 21 "java/lang/IndexOutOfBoundsException") (by decide +kernel)) (va_Nw.use rfl hE.ca2) hce hcv hcl ?_
  refine W.eq (g2 := F0 m 13 ls [.ref q9]) rfl ?_
  refine lv_astore (lv' := [(4, .ref q9), (0, .ref h0), (1, .int p0), (2, .int p1), (3, .ref u0)]) hx hb dL_unlike_13 hl (by decide) rfl (fun ls hl => ?_)
  refine lv_iconst (v := 1) hx hb dL_unlike_15 (by decide) ?_
  refine W.widen (k := 1) (n := 6) (Nat.le_of_ble_eq_true rfl) (Nat.le_of_ble_eq_true rfl) ?_
  exact W.iret (v := 1) hx hb hr (fun t ht hW => ⟨⟨1, (), rfl, rfl, PB.at hP hK hD hW.alike ht [] rfl (by decide) [] rfl⟩, hS.F ht⟩) hS.2.2 dL_unlike_16

def wm_c_L_parent : List Cond := .codeWith yL_parent cL_parent 4 (some .int) [(0, 9, 12, 21), (0, 9, 15, 38)] :: ([.code yX5_parent cX5_parent 2 (some .int), .code yX5_needKind cX5_needKind 2 none, .classLink RX5 193 "java/lang/IndexOutOfBoundsException", .initialized "java/lang/IndexOutOfBoundsException", .fieldLink RX5 80 "Sowingcourt" "kindCount" "I", .methodLink RX5 97 yX5_needKind, .instanceMethod yX5_needKind, .selects RX5 yX5_needKind yX5_needKind, .initialized RX5, .methodLink RL 35 yX5_parent, .instanceMethod yX5_parent, .selects RX5 yX5_parent yX5_parent, .classLink RL 21 "java/lang/IndexOutOfBoundsException"] ++ (vx_atS RX5 197 "java/lang/IndexOutOfBoundsException" supX).filter goodWord ++ wsX50)
set_option maxRecDepth 20000 in
theorem gd_c_L_parent_4 : GoodIn wm_c_L_parent (wsV RL 35 RX5 yX5_parent wm_c_X5_parent) := goodIn_of _ (by decide +kernel)
set_option maxHeartbeats 4000000 in
set_option maxRecDepth 100000 in
theorem c_L_parent (l : Launch) (hl0 : l.stackTraces = false) (κ : Nat → Nat) (D : va_G) (sz : Nat) (h0 : Nat) (o0 : Nat) (g0 : Nat) (o2 : Nat) (o3 : Nat) (o4 : Nat) (o5 : Nat) (o6 : Nat) (p0 : Int32) (u0 : Nat) (cL : ClassId) (fo : Nat → Int64)  : Met l yL_parent wm_c_L_parent ({ frames := 13, cells := 1, slots := 6, locals := 500 }) (va_Pc [.ref h0, .int p0, .ref u0] (PC κ D [(cL, .long)] [(h0, .inr (12, [.ref o0, .int 0, .ref g0, .ref o2, .ref o3, .ref o4, .ref o5, .int 0, .ref o6])), (u0, .inl (cL, 1, .inr (.inl fo)))] sz)) (va_Qi (fun (r : Int32) (_ : Unit) => r = 1) (fun _ t => PB D [] [] (va_A [(h0, .inr (12, [.ref o0, .int 0, .ref g0, .ref o2, .ref o3, .ref o4, .ref o5, .int 0, .ref o6])), (u0, .inl (cL, 1, .inr (.inl fo)))] sz) t) (va_A [(h0, .inr (12, [.ref o0, .int 0, .ref g0, .ref o2, .ref o3, .ref o4, .ref o5, .int 0, .ref o6])), (u0, .inl (cL, 1, .inr (.inl fo)))] sz)) 1 6 (va_A [(h0, .inr (12, [.ref o0, .int 0, .ref g0, .ref o2, .ref o3, .ref o4, .ref o5, .int 0, .ref o6])), (u0, .inl (cL, 1, .inr (.inl fo)))] sz) := by
  refine va_MetW (cc := cL_parent) (maxL := 4) (ret := (some .int)) (by decide +kernel) rfl ?_
  intro p e s m args below meth c s₁ B hml hv
  obtain ⟨rfl, hsz, hP, hK, hD0, hE⟩ := hv
  have hx := B.exec
  have hb := B.bytes
  have hr := B.returns
  have hts := atoms_spec (ws := wm_c_L_parent) B.pre
  have hown : s.vm.findClass RL = some m.cls := findClass_of_methodNamed B.named
  have hlocks := B.notSynchronized
  have htb : c.exceptionTable.toList = tableOf [(0, 9, 12, 21), (0, 9, 15, 38)] := vx_table (x := yL_parent) B (hts _ List.mem_cons_self)
  have iRX5 : ∀ w ∈ u_ws RX5 TX5 9, w ∈ wm_c_L_parent := by decide +kernel
  subst hsz
  have hD := hD0.self (sz := s.heap.size)
  generalize hAe : va_A [(h0, .inr (12, [.ref o0, .int 0, .ref g0, .ref o2, .ref o3, .ref o4, .ref o5, .int 0, .ref o6])), (u0, .inl (cL, 1, .inr (.inl fo)))] s.heap.size = A at hD hE ⊢
  have hA : ∀ q : Nat, s.heap.size ≤ q → A q := fun q h => by rw [← hAe]; exact Or.inr h
  have hS : va_S A s.heap s.heap [] := va_S.rf
  have hl := lv_entry ([.ref h0, .int p0, .ref u0]) (n := 4) (Nat.le_of_ble_eq_true rfl)
  rw [lg_entry_eq]
  generalize (lg_sl ([.ref h0, .int p0, .ref u0]) ++ List.replicate (4 - (lg_sl ([.ref h0, .int p0, .ref u0])).length) Slot.unset).toArray = ls at hl ⊢
  have hl : lv_has ls 4 [(0, .ref h0), (1, .int p0), (2, .ref u0)] := hl
  refine lv_aload_n hx hb dL_parent_0 rfl (lv_at hl 2 rfl) ?_
  refine lv_iconst (v := 0) hx hb dL_parent_1 (by decide) ?_
  refine lv_aload_n hx hb dL_parent_2 rfl (lv_at hl 0 rfl) ?_
  refine lv_iload_n hx hb dL_parent_3 rfl (lv_at hl 1 rfl) ?_
  have hS0 := hS
  have hFc := va_free (wc := [(h0, .inr (12, [.ref o0, .int 0, .ref g0, .ref o2, .ref o3, .ref o4, .ref o5, .int 0, .ref o6]))]) hD hS hA [0] rfl
  refine vx_calli (vx_runV (As := [.int p0]) (rest := [.int 0, .ref u0]) ⟨hx, hb, hml, hown, hts⟩ (c_X5_parent l hl0 κ D (s.heap).size (h0) (o0) (g0) (o2) (o3) (o4) (o5) (o6) (p0) ) (cwV 1 hts gd_c_L_parent_4 rfl rfl rfl (by decide +kernel) ⟨(Nat.le_of_ble_eq_true rfl), (Nat.le_of_ble_eq_true rfl)⟩) (preV hE hK hP hD hS hA [0] rfl (by decide) [] rfl (va_recv hK hP (ci := 12) (q0 := 0) rfl rfl)) rfl rfl hl.1 rfl (lv_room (Nat.le_of_ble_eq_true rfl)) dL_parent_4 ⟨(Nat.le_of_ble_eq_true rfl), (Nat.le_of_ble_eq_true rfl)⟩) hS (fun q _ h => hFc q h) hFc (fun q _ h => hFc q h) (fun E9 ce q9 u9 t H1 locs ht hvm _ hB hz1 hk1 hS hce hcv hcl => ?_) (fun _ _ _ _ _ _ _ hw => hw.elim)
  obtain ⟨rfl, hB⟩ := hB
  obtain ⟨hP, hD, hK⟩ := jn (wc := [(h0, .inr (12, [.ref o0, .int 0, .ref g0, .ref o2, .ref o3, .ref o4, .ref o5, .int 0, .ref o6]))]) (wr := [(u0, .inl (cL, 1, .inr (.inl fo)))]) (w1 := [(h0, .inr (12, [.ref o0, .int 0, .ref g0, .ref o2, .ref o3, .ref o4, .ref o5, .int 0, .ref o6]))]) (t1 := []) hP hD hK hS0 hA [0] [1] rfl rfl (by decide) (by decide) ht hvm hk1 hB
  generalize H1 = H at hP hS hce ⊢
  have hP : va_P D vwCl ([(u0, .inl (cL, 1, .inr (.inl fo))), (h0, .inr (12, [.ref o0, .int 0, .ref g0, .ref o2, .ref o3, .ref o4, .ref o5, .int 0, .ref o6]))]) H := hP
  have hD : va_D A ([(u0, .inl (cL, 1, .inr (.inl fo))), (h0, .inr (12, [.ref o0, .int 0, .ref g0, .ref o2, .ref o3, .ref o4, .ref o5, .int 0, .ref o6]))]) := hD
  have hK : va_K D vwCl [(cL, .long)] s := hK
  refine vx_widen (k := 1) (n := 6) (Nat.le_of_ble_eq_true rfl) (Nat.le_of_ble_eq_true rfl) ?_
  refine vx_catch (E := "java/lang/IndexOutOfBoundsException") (name := "java/lang/IndexOutOfBoundsException") hown [] ⟨0, 9, 12, 21⟩ [⟨0, 9, 15, 38⟩] htb (fun z hz => absurd hz List.not_mem_nil) (by decide) (by decide) (hts (.classLink RL 21 "java/lang/IndexOutOfBoundsException") (by decide +kernel)) (va_Nw.use rfl hE.ca2) hce hcv hcl ?_
  refine W.eq (g2 := F0 m 12 ls [.ref q9]) rfl ?_
  refine lv_astore_n (lv' := [(3, .ref q9), (0, .ref h0), (1, .int p0), (2, .ref u0)]) hx hb dL_parent_12 rfl hl (by decide) rfl (fun ls hl => ?_)
  refine lv_iconst (v := 1) hx hb dL_parent_13 (by decide) ?_
  refine W.widen (k := 1) (n := 6) (Nat.le_of_ble_eq_true rfl) (Nat.le_of_ble_eq_true rfl) ?_
  exact W.iret (v := 1) hx hb hr (fun t ht hW => ⟨⟨1, (), rfl, rfl, PB.at hP hK hD hW.alike ht [] rfl (by decide) [] rfl⟩, hS.F ht⟩) hS.2.2 dL_parent_14

def wm_c_L_start : List Cond := .codeWith yL_start cL_start 4 (some .int) [(0, 9, 12, 21)] :: ([.code yX5_start cX5_start 2 (some .int), .code yX5_needKind cX5_needKind 2 none, .classLink RX5 193 "java/lang/IndexOutOfBoundsException", .initialized "java/lang/IndexOutOfBoundsException", .fieldLink RX5 80 "Sowingcourt" "kindCount" "I", .methodLink RX5 97 yX5_needKind, .instanceMethod yX5_needKind, .selects RX5 yX5_needKind yX5_needKind, .initialized RX5, .methodLink RL 40 yX5_start, .instanceMethod yX5_start, .selects RX5 yX5_start yX5_start, .classLink RL 21 "java/lang/IndexOutOfBoundsException"] ++ (vx_atS RX5 197 "java/lang/IndexOutOfBoundsException" supX).filter goodWord ++ wsX50)
set_option maxRecDepth 20000 in
theorem gd_c_L_start_4 : GoodIn wm_c_L_start (wsV RL 40 RX5 yX5_start wm_c_X5_start) := goodIn_of _ (by decide +kernel)
set_option maxHeartbeats 4000000 in
set_option maxRecDepth 100000 in
theorem c_L_start (l : Launch) (hl0 : l.stackTraces = false) (κ : Nat → Nat) (D : va_G) (sz : Nat) (h0 : Nat) (o0 : Nat) (g0 : Nat) (o2 : Nat) (o3 : Nat) (o4 : Nat) (o5 : Nat) (o6 : Nat) (p0 : Int32) (u0 : Nat) (cL : ClassId) (fo : Nat → Int64)  : Met l yL_start wm_c_L_start ({ frames := 13, cells := 1, slots := 6, locals := 500 }) (va_Pc [.ref h0, .int p0, .ref u0] (PC κ D [(cL, .long)] [(h0, .inr (12, [.ref o0, .int 0, .ref g0, .ref o2, .ref o3, .ref o4, .ref o5, .int 0, .ref o6])), (u0, .inl (cL, 1, .inr (.inl fo)))] sz)) (va_Qi (fun (r : Int32) (_ : Unit) => r = 1) (fun _ t => PB D [] [] (va_A [(h0, .inr (12, [.ref o0, .int 0, .ref g0, .ref o2, .ref o3, .ref o4, .ref o5, .int 0, .ref o6])), (u0, .inl (cL, 1, .inr (.inl fo)))] sz) t) (va_A [(h0, .inr (12, [.ref o0, .int 0, .ref g0, .ref o2, .ref o3, .ref o4, .ref o5, .int 0, .ref o6])), (u0, .inl (cL, 1, .inr (.inl fo)))] sz)) 1 6 (va_A [(h0, .inr (12, [.ref o0, .int 0, .ref g0, .ref o2, .ref o3, .ref o4, .ref o5, .int 0, .ref o6])), (u0, .inl (cL, 1, .inr (.inl fo)))] sz) := by
  refine va_MetW (cc := cL_start) (maxL := 4) (ret := (some .int)) (by decide +kernel) rfl ?_
  intro p e s m args below meth c s₁ B hml hv
  obtain ⟨rfl, hsz, hP, hK, hD0, hE⟩ := hv
  have hx := B.exec
  have hb := B.bytes
  have hr := B.returns
  have hts := atoms_spec (ws := wm_c_L_start) B.pre
  have hown : s.vm.findClass RL = some m.cls := findClass_of_methodNamed B.named
  have hlocks := B.notSynchronized
  have htb : c.exceptionTable.toList = tableOf [(0, 9, 12, 21)] := vx_table (x := yL_start) B (hts _ List.mem_cons_self)
  have iRX5 : ∀ w ∈ u_ws RX5 TX5 9, w ∈ wm_c_L_start := by decide +kernel
  subst hsz
  have hD := hD0.self (sz := s.heap.size)
  generalize hAe : va_A [(h0, .inr (12, [.ref o0, .int 0, .ref g0, .ref o2, .ref o3, .ref o4, .ref o5, .int 0, .ref o6])), (u0, .inl (cL, 1, .inr (.inl fo)))] s.heap.size = A at hD hE ⊢
  have hA : ∀ q : Nat, s.heap.size ≤ q → A q := fun q h => by rw [← hAe]; exact Or.inr h
  have hS : va_S A s.heap s.heap [] := va_S.rf
  have hl := lv_entry ([.ref h0, .int p0, .ref u0]) (n := 4) (Nat.le_of_ble_eq_true rfl)
  rw [lg_entry_eq]
  generalize (lg_sl ([.ref h0, .int p0, .ref u0]) ++ List.replicate (4 - (lg_sl ([.ref h0, .int p0, .ref u0])).length) Slot.unset).toArray = ls at hl ⊢
  have hl : lv_has ls 4 [(0, .ref h0), (1, .int p0), (2, .ref u0)] := hl
  refine lv_aload_n hx hb dL_start_0 rfl (lv_at hl 2 rfl) ?_
  refine lv_iconst (v := 0) hx hb dL_start_1 (by decide) ?_
  refine lv_aload_n hx hb dL_start_2 rfl (lv_at hl 0 rfl) ?_
  refine lv_iload_n hx hb dL_start_3 rfl (lv_at hl 1 rfl) ?_
  have hS0 := hS
  have hFc := va_free (wc := [(h0, .inr (12, [.ref o0, .int 0, .ref g0, .ref o2, .ref o3, .ref o4, .ref o5, .int 0, .ref o6]))]) hD hS hA [0] rfl
  refine vx_calli (vx_runV (As := [.int p0]) (rest := [.int 0, .ref u0]) ⟨hx, hb, hml, hown, hts⟩ (c_X5_start l hl0 κ D (s.heap).size (h0) (o0) (g0) (o2) (o3) (o4) (o5) (o6) (p0) ) (cwV 1 hts gd_c_L_start_4 rfl rfl rfl (by decide +kernel) ⟨(Nat.le_of_ble_eq_true rfl), (Nat.le_of_ble_eq_true rfl)⟩) (preV hE hK hP hD hS hA [0] rfl (by decide) [] rfl (va_recv hK hP (ci := 12) (q0 := 0) rfl rfl)) rfl rfl hl.1 rfl (lv_room (Nat.le_of_ble_eq_true rfl)) dL_start_4 ⟨(Nat.le_of_ble_eq_true rfl), (Nat.le_of_ble_eq_true rfl)⟩) hS (fun q _ h => hFc q h) hFc (fun q _ h => hFc q h) (fun E9 ce q9 u9 t H1 locs ht hvm _ hB hz1 hk1 hS hce hcv hcl => ?_) (fun _ _ _ _ _ _ _ hw => hw.elim)
  obtain ⟨rfl, hB⟩ := hB
  obtain ⟨hP, hD, hK⟩ := jn (wc := [(h0, .inr (12, [.ref o0, .int 0, .ref g0, .ref o2, .ref o3, .ref o4, .ref o5, .int 0, .ref o6]))]) (wr := [(u0, .inl (cL, 1, .inr (.inl fo)))]) (w1 := [(h0, .inr (12, [.ref o0, .int 0, .ref g0, .ref o2, .ref o3, .ref o4, .ref o5, .int 0, .ref o6]))]) (t1 := []) hP hD hK hS0 hA [0] [1] rfl rfl (by decide) (by decide) ht hvm hk1 hB
  generalize H1 = H at hP hS hce ⊢
  have hP : va_P D vwCl ([(u0, .inl (cL, 1, .inr (.inl fo))), (h0, .inr (12, [.ref o0, .int 0, .ref g0, .ref o2, .ref o3, .ref o4, .ref o5, .int 0, .ref o6]))]) H := hP
  have hD : va_D A ([(u0, .inl (cL, 1, .inr (.inl fo))), (h0, .inr (12, [.ref o0, .int 0, .ref g0, .ref o2, .ref o3, .ref o4, .ref o5, .int 0, .ref o6]))]) := hD
  have hK : va_K D vwCl [(cL, .long)] s := hK
  refine vx_widen (k := 1) (n := 6) (Nat.le_of_ble_eq_true rfl) (Nat.le_of_ble_eq_true rfl) ?_
  refine vx_catch (E := "java/lang/IndexOutOfBoundsException") (name := "java/lang/IndexOutOfBoundsException") hown [] ⟨0, 9, 12, 21⟩ [] htb (fun z hz => absurd hz List.not_mem_nil) (by decide) (by decide) (hts (.classLink RL 21 "java/lang/IndexOutOfBoundsException") (by decide +kernel)) (va_Nw.use rfl hE.ca2) hce hcv hcl ?_
  refine W.eq (g2 := F0 m 12 ls [.ref q9]) rfl ?_
  refine lv_astore_n (lv' := [(3, .ref q9), (0, .ref h0), (1, .int p0), (2, .ref u0)]) hx hb dL_start_12 rfl hl (by decide) rfl (fun ls hl => ?_)
  refine lv_iconst (v := 1) hx hb dL_start_13 (by decide) ?_
  refine W.widen (k := 1) (n := 6) (Nat.le_of_ble_eq_true rfl) (Nat.le_of_ble_eq_true rfl) ?_
  exact W.iret (v := 1) hx hb hr (fun t ht hW => ⟨⟨1, (), rfl, rfl, PB.at hP hK hD hW.alike ht [] rfl (by decide) [] rfl⟩, hS.F ht⟩) hS.2.2 dL_start_14

def wm_c_L_play : List Cond := .codeWith yL_play cL_play 5 (some .int) [(0, 10, 13, 21), (0, 10, 17, 13)] :: ([.code yX5_play cX5_play 4 (some .int), .code yX5_needKind cX5_needKind 2 none, .classLink RX5 193 "java/lang/IndexOutOfBoundsException", .initialized "java/lang/IndexOutOfBoundsException", .fieldLink RX5 80 "Sowingcourt" "kindCount" "I", .methodLink RX5 97 yX5_needKind, .instanceMethod yX5_needKind, .selects RX5 yX5_needKind yX5_needKind, .initialized RX5, .methodLink RL 112 yX5_play, .instanceMethod yX5_play, .selects RX5 yX5_play yX5_play, .classLink RL 21 "java/lang/IndexOutOfBoundsException"] ++ (vx_atS RX5 197 "java/lang/IndexOutOfBoundsException" supX).filter goodWord ++ wsX50)
set_option maxRecDepth 20000 in
theorem gd_c_L_play_5 : GoodIn wm_c_L_play (wsV RL 112 RX5 yX5_play wm_c_X5_play) := goodIn_of _ (by decide +kernel)
set_option maxHeartbeats 4000000 in
set_option maxRecDepth 100000 in
theorem c_L_play (l : Launch) (hl0 : l.stackTraces = false) (κ : Nat → Nat) (D : va_G) (sz : Nat) (h0 : Nat) (o0 : Nat) (g0 : Nat) (o2 : Nat) (o3 : Nat) (o4 : Nat) (o5 : Nat) (o6 : Nat) (p0 : Int32) (p1 : Int32) (u0 : Nat) (cL : ClassId) (fo : Nat → Int64)  : Met l yL_play wm_c_L_play ({ frames := 13, cells := 1, slots := 6, locals := 500 }) (va_Pc [.ref h0, .int p0, .int p1, .ref u0] (PC κ D [(cL, .long)] [(h0, .inr (12, [.ref o0, .int 0, .ref g0, .ref o2, .ref o3, .ref o4, .ref o5, .int 0, .ref o6])), (u0, .inl (cL, 1, .inr (.inl fo)))] sz)) (va_Qi (fun (r : Int32) (_ : Unit) => r = 1) (fun _ t => PB D [] [] (va_A [(h0, .inr (12, [.ref o0, .int 0, .ref g0, .ref o2, .ref o3, .ref o4, .ref o5, .int 0, .ref o6])), (u0, .inl (cL, 1, .inr (.inl fo)))] sz) t) (va_A [(h0, .inr (12, [.ref o0, .int 0, .ref g0, .ref o2, .ref o3, .ref o4, .ref o5, .int 0, .ref o6])), (u0, .inl (cL, 1, .inr (.inl fo)))] sz)) 1 6 (va_A [(h0, .inr (12, [.ref o0, .int 0, .ref g0, .ref o2, .ref o3, .ref o4, .ref o5, .int 0, .ref o6])), (u0, .inl (cL, 1, .inr (.inl fo)))] sz) := by
  refine va_MetW (cc := cL_play) (maxL := 5) (ret := (some .int)) (by decide +kernel) rfl ?_
  intro p e s m args below meth c s₁ B hml hv
  obtain ⟨rfl, hsz, hP, hK, hD0, hE⟩ := hv
  have hx := B.exec
  have hb := B.bytes
  have hr := B.returns
  have hts := atoms_spec (ws := wm_c_L_play) B.pre
  have hown : s.vm.findClass RL = some m.cls := findClass_of_methodNamed B.named
  have hlocks := B.notSynchronized
  have htb : c.exceptionTable.toList = tableOf [(0, 10, 13, 21), (0, 10, 17, 13)] := vx_table (x := yL_play) B (hts _ List.mem_cons_self)
  have iRX5 : ∀ w ∈ u_ws RX5 TX5 9, w ∈ wm_c_L_play := by decide +kernel
  subst hsz
  have hD := hD0.self (sz := s.heap.size)
  generalize hAe : va_A [(h0, .inr (12, [.ref o0, .int 0, .ref g0, .ref o2, .ref o3, .ref o4, .ref o5, .int 0, .ref o6])), (u0, .inl (cL, 1, .inr (.inl fo)))] s.heap.size = A at hD hE ⊢
  have hA : ∀ q : Nat, s.heap.size ≤ q → A q := fun q h => by rw [← hAe]; exact Or.inr h
  have hS : va_S A s.heap s.heap [] := va_S.rf
  have hl := lv_entry ([.ref h0, .int p0, .int p1, .ref u0]) (n := 5) (Nat.le_of_ble_eq_true rfl)
  rw [lg_entry_eq]
  generalize (lg_sl ([.ref h0, .int p0, .int p1, .ref u0]) ++ List.replicate (5 - (lg_sl ([.ref h0, .int p0, .int p1, .ref u0])).length) Slot.unset).toArray = ls at hl ⊢
  have hl : lv_has ls 5 [(0, .ref h0), (1, .int p0), (2, .int p1), (3, .ref u0)] := hl
  refine lv_aload_n hx hb dL_play_0 rfl (lv_at hl 3 rfl) ?_
  refine lv_iconst (v := 0) hx hb dL_play_1 (by decide) ?_
  refine lv_aload_n hx hb dL_play_2 rfl (lv_at hl 0 rfl) ?_
  refine lv_iload_n hx hb dL_play_3 rfl (lv_at hl 1 rfl) ?_
  refine lv_iload_n hx hb dL_play_4 rfl (lv_at hl 2 rfl) ?_
  have hS0 := hS
  have hFc := va_free (wc := [(h0, .inr (12, [.ref o0, .int 0, .ref g0, .ref o2, .ref o3, .ref o4, .ref o5, .int 0, .ref o6]))]) hD hS hA [0] rfl
  refine vx_calli (vx_runV (As := [.int p0, .int p1]) (rest := [.int 0, .ref u0]) ⟨hx, hb, hml, hown, hts⟩ (c_X5_play l hl0 κ D (s.heap).size (h0) (o0) (g0) (o2) (o3) (o4) (o5) (o6) (p0) (p1) ) (cwV 2 hts gd_c_L_play_5 rfl rfl rfl (by decide +kernel) ⟨(Nat.le_of_ble_eq_true rfl), (Nat.le_of_ble_eq_true rfl)⟩) (preV hE hK hP hD hS hA [0] rfl (by decide) [] rfl (va_recv hK hP (ci := 12) (q0 := 0) rfl rfl)) rfl rfl hl.1 rfl (lv_room (Nat.le_of_ble_eq_true rfl)) dL_play_5 ⟨(Nat.le_of_ble_eq_true rfl), (Nat.le_of_ble_eq_true rfl)⟩) hS (fun q _ h => hFc q h) hFc (fun q _ h => hFc q h) (fun E9 ce q9 u9 t H1 locs ht hvm _ hB hz1 hk1 hS hce hcv hcl => ?_) (fun _ _ _ _ _ _ _ hw => hw.elim)
  obtain ⟨rfl, hB⟩ := hB
  obtain ⟨hP, hD, hK⟩ := jn (wc := [(h0, .inr (12, [.ref o0, .int 0, .ref g0, .ref o2, .ref o3, .ref o4, .ref o5, .int 0, .ref o6]))]) (wr := [(u0, .inl (cL, 1, .inr (.inl fo)))]) (w1 := [(h0, .inr (12, [.ref o0, .int 0, .ref g0, .ref o2, .ref o3, .ref o4, .ref o5, .int 0, .ref o6]))]) (t1 := []) hP hD hK hS0 hA [0] [1] rfl rfl (by decide) (by decide) ht hvm hk1 hB
  generalize H1 = H at hP hS hce ⊢
  have hP : va_P D vwCl ([(u0, .inl (cL, 1, .inr (.inl fo))), (h0, .inr (12, [.ref o0, .int 0, .ref g0, .ref o2, .ref o3, .ref o4, .ref o5, .int 0, .ref o6]))]) H := hP
  have hD : va_D A ([(u0, .inl (cL, 1, .inr (.inl fo))), (h0, .inr (12, [.ref o0, .int 0, .ref g0, .ref o2, .ref o3, .ref o4, .ref o5, .int 0, .ref o6]))]) := hD
  have hK : va_K D vwCl [(cL, .long)] s := hK
  refine vx_widen (k := 1) (n := 6) (Nat.le_of_ble_eq_true rfl) (Nat.le_of_ble_eq_true rfl) ?_
  refine vx_catch (E := "java/lang/IndexOutOfBoundsException") (name := "java/lang/IndexOutOfBoundsException") hown [] ⟨0, 10, 13, 21⟩ [⟨0, 10, 17, 13⟩] htb (fun z hz => absurd hz List.not_mem_nil) (by decide) (by decide) (hts (.classLink RL 21 "java/lang/IndexOutOfBoundsException") (by decide +kernel)) (va_Nw.use rfl hE.ca2) hce hcv hcl ?_
  refine W.eq (g2 := F0 m 13 ls [.ref q9]) rfl ?_
  refine lv_astore (lv' := [(4, .ref q9), (0, .ref h0), (1, .int p0), (2, .int p1), (3, .ref u0)]) hx hb dL_play_13 hl (by decide) rfl (fun ls hl => ?_)
  refine lv_iconst (v := 1) hx hb dL_play_15 (by decide) ?_
  refine W.widen (k := 1) (n := 6) (Nat.le_of_ble_eq_true rfl) (Nat.le_of_ble_eq_true rfl) ?_
  exact W.iret (v := 1) hx hb hr (fun t ht hW => ⟨⟨1, (), rfl, rfl, PB.at hP hK hD hW.alike ht [] rfl (by decide) [] rfl⟩, hS.F ht⟩) hS.2.2 dL_play_16

def wm_c_L_explains : List Cond := .codeWith yL_explains cL_explains 4 (some .int) [(0, 9, 12, 21)] :: ([.code yX5_explains cX5_explains 2 (some .int), .code yX5_needKind cX5_needKind 2 none, .classLink RX5 193 "java/lang/IndexOutOfBoundsException", .initialized "java/lang/IndexOutOfBoundsException", .fieldLink RX5 80 "Sowingcourt" "kindCount" "I", .methodLink RX5 97 yX5_needKind, .instanceMethod yX5_needKind, .selects RX5 yX5_needKind yX5_needKind, .initialized RX5, .methodLink RL 119 yX5_explains, .instanceMethod yX5_explains, .selects RX5 yX5_explains yX5_explains, .classLink RL 21 "java/lang/IndexOutOfBoundsException"] ++ (vx_atS RX5 197 "java/lang/IndexOutOfBoundsException" supX).filter goodWord ++ wsX50)
set_option maxRecDepth 20000 in
theorem gd_c_L_explains_4 : GoodIn wm_c_L_explains (wsV RL 119 RX5 yX5_explains wm_c_X5_explains) := goodIn_of _ (by decide +kernel)
set_option maxHeartbeats 4000000 in
set_option maxRecDepth 100000 in
theorem c_L_explains (l : Launch) (hl0 : l.stackTraces = false) (κ : Nat → Nat) (D : va_G) (sz : Nat) (h0 : Nat) (o0 : Nat) (g0 : Nat) (o2 : Nat) (o3 : Nat) (o4 : Nat) (o5 : Nat) (o6 : Nat) (p0 : Int32) (u0 : Nat) (cL : ClassId) (fo : Nat → Int64)  : Met l yL_explains wm_c_L_explains ({ frames := 13, cells := 1, slots := 6, locals := 500 }) (va_Pc [.ref h0, .int p0, .ref u0] (PC κ D [(cL, .long)] [(h0, .inr (12, [.ref o0, .int 0, .ref g0, .ref o2, .ref o3, .ref o4, .ref o5, .int 0, .ref o6])), (u0, .inl (cL, 1, .inr (.inl fo)))] sz)) (va_Qi (fun (r : Int32) (_ : Unit) => r = 1) (fun _ t => PB D [] [] (va_A [(h0, .inr (12, [.ref o0, .int 0, .ref g0, .ref o2, .ref o3, .ref o4, .ref o5, .int 0, .ref o6])), (u0, .inl (cL, 1, .inr (.inl fo)))] sz) t) (va_A [(h0, .inr (12, [.ref o0, .int 0, .ref g0, .ref o2, .ref o3, .ref o4, .ref o5, .int 0, .ref o6])), (u0, .inl (cL, 1, .inr (.inl fo)))] sz)) 1 6 (va_A [(h0, .inr (12, [.ref o0, .int 0, .ref g0, .ref o2, .ref o3, .ref o4, .ref o5, .int 0, .ref o6])), (u0, .inl (cL, 1, .inr (.inl fo)))] sz) := by
  refine va_MetW (cc := cL_explains) (maxL := 4) (ret := (some .int)) (by decide +kernel) rfl ?_
  intro p e s m args below meth c s₁ B hml hv
  obtain ⟨rfl, hsz, hP, hK, hD0, hE⟩ := hv
  have hx := B.exec
  have hb := B.bytes
  have hr := B.returns
  have hts := atoms_spec (ws := wm_c_L_explains) B.pre
  have hown : s.vm.findClass RL = some m.cls := findClass_of_methodNamed B.named
  have hlocks := B.notSynchronized
  have htb : c.exceptionTable.toList = tableOf [(0, 9, 12, 21)] := vx_table (x := yL_explains) B (hts _ List.mem_cons_self)
  have iRX5 : ∀ w ∈ u_ws RX5 TX5 9, w ∈ wm_c_L_explains := by decide +kernel
  subst hsz
  have hD := hD0.self (sz := s.heap.size)
  generalize hAe : va_A [(h0, .inr (12, [.ref o0, .int 0, .ref g0, .ref o2, .ref o3, .ref o4, .ref o5, .int 0, .ref o6])), (u0, .inl (cL, 1, .inr (.inl fo)))] s.heap.size = A at hD hE ⊢
  have hA : ∀ q : Nat, s.heap.size ≤ q → A q := fun q h => by rw [← hAe]; exact Or.inr h
  have hS : va_S A s.heap s.heap [] := va_S.rf
  have hl := lv_entry ([.ref h0, .int p0, .ref u0]) (n := 4) (Nat.le_of_ble_eq_true rfl)
  rw [lg_entry_eq]
  generalize (lg_sl ([.ref h0, .int p0, .ref u0]) ++ List.replicate (4 - (lg_sl ([.ref h0, .int p0, .ref u0])).length) Slot.unset).toArray = ls at hl ⊢
  have hl : lv_has ls 4 [(0, .ref h0), (1, .int p0), (2, .ref u0)] := hl
  refine lv_aload_n hx hb dL_explains_0 rfl (lv_at hl 2 rfl) ?_
  refine lv_iconst (v := 0) hx hb dL_explains_1 (by decide) ?_
  refine lv_aload_n hx hb dL_explains_2 rfl (lv_at hl 0 rfl) ?_
  refine lv_iload_n hx hb dL_explains_3 rfl (lv_at hl 1 rfl) ?_
  have hS0 := hS
  have hFc := va_free (wc := [(h0, .inr (12, [.ref o0, .int 0, .ref g0, .ref o2, .ref o3, .ref o4, .ref o5, .int 0, .ref o6]))]) hD hS hA [0] rfl
  refine vx_calli (vx_runV (As := [.int p0]) (rest := [.int 0, .ref u0]) ⟨hx, hb, hml, hown, hts⟩ (c_X5_explains l hl0 κ D (s.heap).size (h0) (o0) (g0) (o2) (o3) (o4) (o5) (o6) (p0) ) (cwV 1 hts gd_c_L_explains_4 rfl rfl rfl (by decide +kernel) ⟨(Nat.le_of_ble_eq_true rfl), (Nat.le_of_ble_eq_true rfl)⟩) (preV hE hK hP hD hS hA [0] rfl (by decide) [] rfl (va_recv hK hP (ci := 12) (q0 := 0) rfl rfl)) rfl rfl hl.1 rfl (lv_room (Nat.le_of_ble_eq_true rfl)) dL_explains_4 ⟨(Nat.le_of_ble_eq_true rfl), (Nat.le_of_ble_eq_true rfl)⟩) hS (fun q _ h => hFc q h) hFc (fun q _ h => hFc q h) (fun E9 ce q9 u9 t H1 locs ht hvm _ hB hz1 hk1 hS hce hcv hcl => ?_) (fun _ _ _ _ _ _ _ hw => hw.elim)
  obtain ⟨rfl, hB⟩ := hB
  obtain ⟨hP, hD, hK⟩ := jn (wc := [(h0, .inr (12, [.ref o0, .int 0, .ref g0, .ref o2, .ref o3, .ref o4, .ref o5, .int 0, .ref o6]))]) (wr := [(u0, .inl (cL, 1, .inr (.inl fo)))]) (w1 := [(h0, .inr (12, [.ref o0, .int 0, .ref g0, .ref o2, .ref o3, .ref o4, .ref o5, .int 0, .ref o6]))]) (t1 := []) hP hD hK hS0 hA [0] [1] rfl rfl (by decide) (by decide) ht hvm hk1 hB
  generalize H1 = H at hP hS hce ⊢
  have hP : va_P D vwCl ([(u0, .inl (cL, 1, .inr (.inl fo))), (h0, .inr (12, [.ref o0, .int 0, .ref g0, .ref o2, .ref o3, .ref o4, .ref o5, .int 0, .ref o6]))]) H := hP
  have hD : va_D A ([(u0, .inl (cL, 1, .inr (.inl fo))), (h0, .inr (12, [.ref o0, .int 0, .ref g0, .ref o2, .ref o3, .ref o4, .ref o5, .int 0, .ref o6]))]) := hD
  have hK : va_K D vwCl [(cL, .long)] s := hK
  refine vx_widen (k := 1) (n := 6) (Nat.le_of_ble_eq_true rfl) (Nat.le_of_ble_eq_true rfl) ?_
  refine vx_catch (E := "java/lang/IndexOutOfBoundsException") (name := "java/lang/IndexOutOfBoundsException") hown [] ⟨0, 9, 12, 21⟩ [] htb (fun z hz => absurd hz List.not_mem_nil) (by decide) (by decide) (hts (.classLink RL 21 "java/lang/IndexOutOfBoundsException") (by decide +kernel)) (va_Nw.use rfl hE.ca2) hce hcv hcl ?_
  refine W.eq (g2 := F0 m 12 ls [.ref q9]) rfl ?_
  refine lv_astore_n (lv' := [(3, .ref q9), (0, .ref h0), (1, .int p0), (2, .ref u0)]) hx hb dL_explains_12 rfl hl (by decide) rfl (fun ls hl => ?_)
  refine lv_iconst (v := 1) hx hb dL_explains_13 (by decide) ?_
  refine W.widen (k := 1) (n := 6) (Nat.le_of_ble_eq_true rfl) (Nat.le_of_ble_eq_true rfl) ?_
  exact W.iret (v := 1) hx hb hr (fun t ht hW => ⟨⟨1, (), rfl, rfl, PB.at hP hK hD hW.alike ht [] rfl (by decide) [] rfl⟩, hS.F ht⟩) hS.2.2 dL_explains_14

def wm_c_L_give : List Cond := .codeWith yL_give cL_give 5 (some .int) [(0, 10, 13, 15), (0, 10, 17, 21), (0, 10, 21, 13), (0, 10, 25, 46)] :: ([.code yX5_give cX5_give 3 (some .int), .code yX5_needGameOn cX5_needGameOn 1 none, .fieldLink RX5 19 "Sowingcourt" "game" "LSowingcourt$Game;", .fieldLink RX5 179 "Sowingcourt$Game" "begun" "Z", .classLink RX5 162 "java/lang/IllegalStateException", .initialized "java/lang/IllegalStateException", .methodLink RX5 138 yX5_needGameOn, .instanceMethod yX5_needGameOn, .selects RX5 yX5_needGameOn yX5_needGameOn, .initialized RX5, .methodLink RL 43 yX5_give, .instanceMethod yX5_give, .selects RX5 yX5_give yX5_give, .classLink RL 15 "java/lang/IllegalStateException"] ++ wsX50 ++ wsX10 ++ (vx_atS RX5 166 "java/lang/IllegalStateException" supX).filter goodWord)
set_option maxRecDepth 20000 in
theorem gd_c_L_give_5 : GoodIn wm_c_L_give (wsV RL 43 RX5 yX5_give wm_c_X5_give) := goodIn_of _ (by decide +kernel)
set_option maxHeartbeats 4000000 in
set_option maxRecDepth 100000 in
theorem c_L_give (l : Launch) (hl0 : l.stackTraces = false) (κ : Nat → Nat) (D : va_G) (sz : Nat) (h0 : Nat) (o0 : Nat) (g0 : Nat) (o2 : Nat) (o3 : Nat) (o4 : Nat) (o5 : Nat) (o6 : Nat) (g1 : Nat) (g2 : Nat) (g3 : Nat) (g4 : Nat) (g5 : Nat) (g6 : Nat) (p0 : Int32) (p1 : Int32) (u0 : Nat) (cL : ClassId) (fo : Nat → Int64)  : Met l yL_give wm_c_L_give ({ frames := 13, cells := 1, slots := 6, locals := 500 }) (va_Pc [.ref h0, .int p0, .int p1, .ref u0] (PC κ D [(cL, .long)] [(h0, .inr (12, [.ref o0, .int 0, .ref g0, .ref o2, .ref o3, .ref o4, .ref o5, .int 0, .ref o6])), (g0, .inr (8, [.ref g1, .ref g2, .ref g3, .ref g4, .ref g5, .ref g6, .int 0, .int 0, .int 0, .int 0])), (u0, .inl (cL, 1, .inr (.inl fo)))] sz)) (va_Qi (fun (r : Int32) (_ : Unit) => r = 1) (fun _ t => PB D [] [] (va_A [(h0, .inr (12, [.ref o0, .int 0, .ref g0, .ref o2, .ref o3, .ref o4, .ref o5, .int 0, .ref o6])), (g0, .inr (8, [.ref g1, .ref g2, .ref g3, .ref g4, .ref g5, .ref g6, .int 0, .int 0, .int 0, .int 0])), (u0, .inl (cL, 1, .inr (.inl fo)))] sz) t) (va_A [(h0, .inr (12, [.ref o0, .int 0, .ref g0, .ref o2, .ref o3, .ref o4, .ref o5, .int 0, .ref o6])), (g0, .inr (8, [.ref g1, .ref g2, .ref g3, .ref g4, .ref g5, .ref g6, .int 0, .int 0, .int 0, .int 0])), (u0, .inl (cL, 1, .inr (.inl fo)))] sz)) 1 6 (va_A [(h0, .inr (12, [.ref o0, .int 0, .ref g0, .ref o2, .ref o3, .ref o4, .ref o5, .int 0, .ref o6])), (g0, .inr (8, [.ref g1, .ref g2, .ref g3, .ref g4, .ref g5, .ref g6, .int 0, .int 0, .int 0, .int 0])), (u0, .inl (cL, 1, .inr (.inl fo)))] sz) := by
  refine va_MetW (cc := cL_give) (maxL := 5) (ret := (some .int)) (by decide +kernel) rfl ?_
  intro p e s m args below meth c s₁ B hml hv
  obtain ⟨rfl, hsz, hP, hK, hD0, hE⟩ := hv
  have hx := B.exec
  have hb := B.bytes
  have hr := B.returns
  have hts := atoms_spec (ws := wm_c_L_give) B.pre
  have hown : s.vm.findClass RL = some m.cls := findClass_of_methodNamed B.named
  have hlocks := B.notSynchronized
  have htb : c.exceptionTable.toList = tableOf [(0, 10, 13, 15), (0, 10, 17, 21), (0, 10, 21, 13), (0, 10, 25, 46)] := vx_table (x := yL_give) B (hts _ List.mem_cons_self)
  have iRX5 : ∀ w ∈ u_ws RX5 TX5 9, w ∈ wm_c_L_give := by decide +kernel
  have iRX1 : ∀ w ∈ u_ws RX1 TX1 10, w ∈ wm_c_L_give := by decide +kernel
  subst hsz
  have hD := hD0.self (sz := s.heap.size)
  generalize hAe : va_A [(h0, .inr (12, [.ref o0, .int 0, .ref g0, .ref o2, .ref o3, .ref o4, .ref o5, .int 0, .ref o6])), (g0, .inr (8, [.ref g1, .ref g2, .ref g3, .ref g4, .ref g5, .ref g6, .int 0, .int 0, .int 0, .int 0])), (u0, .inl (cL, 1, .inr (.inl fo)))] s.heap.size = A at hD hE ⊢
  have hA : ∀ q : Nat, s.heap.size ≤ q → A q := fun q h => by rw [← hAe]; exact Or.inr h
  have hS : va_S A s.heap s.heap [] := va_S.rf
  have hl := lv_entry ([.ref h0, .int p0, .int p1, .ref u0]) (n := 5) (Nat.le_of_ble_eq_true rfl)
  rw [lg_entry_eq]
  generalize (lg_sl ([.ref h0, .int p0, .int p1, .ref u0]) ++ List.replicate (5 - (lg_sl ([.ref h0, .int p0, .int p1, .ref u0])).length) Slot.unset).toArray = ls at hl ⊢
  have hl : lv_has ls 5 [(0, .ref h0), (1, .int p0), (2, .int p1), (3, .ref u0)] := hl
  refine lv_aload_n hx hb dL_give_0 rfl (lv_at hl 3 rfl) ?_
  refine lv_iconst (v := 0) hx hb dL_give_1 (by decide) ?_
  refine lv_aload_n hx hb dL_give_2 rfl (lv_at hl 0 rfl) ?_
  refine lv_iload_n hx hb dL_give_3 rfl (lv_at hl 1 rfl) ?_
  refine lv_iload_n hx hb dL_give_4 rfl (lv_at hl 2 rfl) ?_
  have hS0 := hS
  have hFc := va_free (wc := [(h0, .inr (12, [.ref o0, .int 0, .ref g0, .ref o2, .ref o3, .ref o4, .ref o5, .int 0, .ref o6])), (g0, .inr (8, [.ref g1, .ref g2, .ref g3, .ref g4, .ref g5, .ref g6, .int 0, .int 0, .int 0, .int 0]))]) hD hS hA [0, 1] rfl
  refine vx_calli (vx_runV (As := [.int p0, .int p1]) (rest := [.int 0, .ref u0]) ⟨hx, hb, hml, hown, hts⟩ (c_X5_give l hl0 κ D (s.heap).size (h0) (o0) (g0) (o2) (o3) (o4) (o5) (o6) (g1) (g2) (g3) (g4) (g5) (g6) (p0) (p1) ) (cwV 2 hts gd_c_L_give_5 rfl rfl rfl (by decide +kernel) ⟨(Nat.le_of_ble_eq_true rfl), (Nat.le_of_ble_eq_true rfl)⟩) (preV hE hK hP hD hS hA [0, 1] rfl (by decide) [] rfl (va_recv hK hP (ci := 12) (q0 := 0) rfl rfl)) rfl rfl hl.1 rfl (lv_room (Nat.le_of_ble_eq_true rfl)) dL_give_5 ⟨(Nat.le_of_ble_eq_true rfl), (Nat.le_of_ble_eq_true rfl)⟩) hS (fun q _ h => hFc q h) hFc (fun q _ h => hFc q h) (fun E9 ce q9 u9 t H1 locs ht hvm _ hB hz1 hk1 hS hce hcv hcl => ?_) (fun _ _ _ _ _ _ _ hw => hw.elim)
  obtain ⟨rfl, hB⟩ := hB
  obtain ⟨hP, hD, hK⟩ := jn (wc := [(h0, .inr (12, [.ref o0, .int 0, .ref g0, .ref o2, .ref o3, .ref o4, .ref o5, .int 0, .ref o6])), (g0, .inr (8, [.ref g1, .ref g2, .ref g3, .ref g4, .ref g5, .ref g6, .int 0, .int 0, .int 0, .int 0]))]) (wr := [(u0, .inl (cL, 1, .inr (.inl fo)))]) (w1 := [(h0, .inr (12, [.ref o0, .int 0, .ref g0, .ref o2, .ref o3, .ref o4, .ref o5, .int 0, .ref o6])), (g0, .inr (8, [.ref g1, .ref g2, .ref g3, .ref g4, .ref g5, .ref g6, .int 0, .int 0, .int 0, .int 0]))]) (t1 := []) hP hD hK hS0 hA [0, 1] [2] rfl rfl (by decide) (by decide) ht hvm hk1 hB
  generalize H1 = H at hP hS hce ⊢
  have hP : va_P D vwCl ([(u0, .inl (cL, 1, .inr (.inl fo))), (h0, .inr (12, [.ref o0, .int 0, .ref g0, .ref o2, .ref o3, .ref o4, .ref o5, .int 0, .ref o6])), (g0, .inr (8, [.ref g1, .ref g2, .ref g3, .ref g4, .ref g5, .ref g6, .int 0, .int 0, .int 0, .int 0]))]) H := hP
  have hD : va_D A ([(u0, .inl (cL, 1, .inr (.inl fo))), (h0, .inr (12, [.ref o0, .int 0, .ref g0, .ref o2, .ref o3, .ref o4, .ref o5, .int 0, .ref o6])), (g0, .inr (8, [.ref g1, .ref g2, .ref g3, .ref g4, .ref g5, .ref g6, .int 0, .int 0, .int 0, .int 0]))]) := hD
  have hK : va_K D vwCl [(cL, .long)] s := hK
  refine vx_widen (k := 1) (n := 6) (Nat.le_of_ble_eq_true rfl) (Nat.le_of_ble_eq_true rfl) ?_
  refine vx_catch (E := "java/lang/IllegalStateException") (name := "java/lang/IllegalStateException") hown [] ⟨0, 10, 13, 15⟩ [⟨0, 10, 17, 21⟩, ⟨0, 10, 21, 13⟩, ⟨0, 10, 25, 46⟩] htb (fun z hz => absurd hz List.not_mem_nil) (by decide) (by decide) (hts (.classLink RL 15 "java/lang/IllegalStateException") (by decide +kernel)) (va_Nw.use rfl hE.ca1) hce hcv hcl ?_
  refine W.eq (g2 := F0 m 13 ls [.ref q9]) rfl ?_
  refine lv_astore (lv' := [(4, .ref q9), (0, .ref h0), (1, .int p0), (2, .int p1), (3, .ref u0)]) hx hb dL_give_13 hl (by decide) rfl (fun ls hl => ?_)
  refine lv_iconst (v := 1) hx hb dL_give_15 (by decide) ?_
  refine W.widen (k := 1) (n := 6) (Nat.le_of_ble_eq_true rfl) (Nat.le_of_ble_eq_true rfl) ?_
  exact W.iret (v := 1) hx hb hr (fun t ht hW => ⟨⟨1, (), rfl, rfl, PB.at hP hK hD hW.alike ht [] rfl (by decide) [] rfl⟩, hS.F ht⟩) hS.2.2 dL_give_16

def wm_c_L_move : List Cond := .codeWith yL_move cL_move 4 (some .int) [(0, 9, 12, 15), (0, 9, 15, 21), (0, 9, 18, 46)] :: ([.code yX5_move cX5_move 3 (some .int), .code yX5_needGameOn cX5_needGameOn 1 none, .fieldLink RX5 19 "Sowingcourt" "game" "LSowingcourt$Game;", .fieldLink RX5 179 "Sowingcourt$Game" "begun" "Z", .classLink RX5 162 "java/lang/IllegalStateException", .initialized "java/lang/IllegalStateException", .methodLink RX5 138 yX5_needGameOn, .instanceMethod yX5_needGameOn, .selects RX5 yX5_needGameOn yX5_needGameOn, .initialized RX5, .methodLink RL 48 yX5_move, .instanceMethod yX5_move, .selects RX5 yX5_move yX5_move, .classLink RL 15 "java/lang/IllegalStateException"] ++ wsX50 ++ wsX10 ++ (vx_atS RX5 166 "java/lang/IllegalStateException" supX).filter goodWord)
set_option maxRecDepth 20000 in
theorem gd_c_L_move_4 : GoodIn wm_c_L_move (wsV RL 48 RX5 yX5_move wm_c_X5_move) := goodIn_of _ (by decide +kernel)
set_option maxHeartbeats 4000000 in
set_option maxRecDepth 100000 in
theorem c_L_move (l : Launch) (hl0 : l.stackTraces = false) (κ : Nat → Nat) (D : va_G) (sz : Nat) (h0 : Nat) (o0 : Nat) (g0 : Nat) (o2 : Nat) (o3 : Nat) (o4 : Nat) (o5 : Nat) (o6 : Nat) (g1 : Nat) (g2 : Nat) (g3 : Nat) (g4 : Nat) (g5 : Nat) (g6 : Nat) (p0 : Int32) (u0 : Nat) (cL : ClassId) (fo : Nat → Int64)  : Met l yL_move wm_c_L_move ({ frames := 13, cells := 1, slots := 6, locals := 500 }) (va_Pc [.ref h0, .int p0, .ref u0] (PC κ D [(cL, .long)] [(h0, .inr (12, [.ref o0, .int 0, .ref g0, .ref o2, .ref o3, .ref o4, .ref o5, .int 0, .ref o6])), (g0, .inr (8, [.ref g1, .ref g2, .ref g3, .ref g4, .ref g5, .ref g6, .int 0, .int 0, .int 0, .int 0])), (u0, .inl (cL, 1, .inr (.inl fo)))] sz)) (va_Qi (fun (r : Int32) (_ : Unit) => r = 1) (fun _ t => PB D [] [] (va_A [(h0, .inr (12, [.ref o0, .int 0, .ref g0, .ref o2, .ref o3, .ref o4, .ref o5, .int 0, .ref o6])), (g0, .inr (8, [.ref g1, .ref g2, .ref g3, .ref g4, .ref g5, .ref g6, .int 0, .int 0, .int 0, .int 0])), (u0, .inl (cL, 1, .inr (.inl fo)))] sz) t) (va_A [(h0, .inr (12, [.ref o0, .int 0, .ref g0, .ref o2, .ref o3, .ref o4, .ref o5, .int 0, .ref o6])), (g0, .inr (8, [.ref g1, .ref g2, .ref g3, .ref g4, .ref g5, .ref g6, .int 0, .int 0, .int 0, .int 0])), (u0, .inl (cL, 1, .inr (.inl fo)))] sz)) 1 6 (va_A [(h0, .inr (12, [.ref o0, .int 0, .ref g0, .ref o2, .ref o3, .ref o4, .ref o5, .int 0, .ref o6])), (g0, .inr (8, [.ref g1, .ref g2, .ref g3, .ref g4, .ref g5, .ref g6, .int 0, .int 0, .int 0, .int 0])), (u0, .inl (cL, 1, .inr (.inl fo)))] sz) := by
  refine va_MetW (cc := cL_move) (maxL := 4) (ret := (some .int)) (by decide +kernel) rfl ?_
  intro p e s m args below meth c s₁ B hml hv
  obtain ⟨rfl, hsz, hP, hK, hD0, hE⟩ := hv
  have hx := B.exec
  have hb := B.bytes
  have hr := B.returns
  have hts := atoms_spec (ws := wm_c_L_move) B.pre
  have hown : s.vm.findClass RL = some m.cls := findClass_of_methodNamed B.named
  have hlocks := B.notSynchronized
  have htb : c.exceptionTable.toList = tableOf [(0, 9, 12, 15), (0, 9, 15, 21), (0, 9, 18, 46)] := vx_table (x := yL_move) B (hts _ List.mem_cons_self)
  have iRX5 : ∀ w ∈ u_ws RX5 TX5 9, w ∈ wm_c_L_move := by decide +kernel
  have iRX1 : ∀ w ∈ u_ws RX1 TX1 10, w ∈ wm_c_L_move := by decide +kernel
  subst hsz
  have hD := hD0.self (sz := s.heap.size)
  generalize hAe : va_A [(h0, .inr (12, [.ref o0, .int 0, .ref g0, .ref o2, .ref o3, .ref o4, .ref o5, .int 0, .ref o6])), (g0, .inr (8, [.ref g1, .ref g2, .ref g3, .ref g4, .ref g5, .ref g6, .int 0, .int 0, .int 0, .int 0])), (u0, .inl (cL, 1, .inr (.inl fo)))] s.heap.size = A at hD hE ⊢
  have hA : ∀ q : Nat, s.heap.size ≤ q → A q := fun q h => by rw [← hAe]; exact Or.inr h
  have hS : va_S A s.heap s.heap [] := va_S.rf
  have hl := lv_entry ([.ref h0, .int p0, .ref u0]) (n := 4) (Nat.le_of_ble_eq_true rfl)
  rw [lg_entry_eq]
  generalize (lg_sl ([.ref h0, .int p0, .ref u0]) ++ List.replicate (4 - (lg_sl ([.ref h0, .int p0, .ref u0])).length) Slot.unset).toArray = ls at hl ⊢
  have hl : lv_has ls 4 [(0, .ref h0), (1, .int p0), (2, .ref u0)] := hl
  refine lv_aload_n hx hb dL_move_0 rfl (lv_at hl 2 rfl) ?_
  refine lv_iconst (v := 0) hx hb dL_move_1 (by decide) ?_
  refine lv_aload_n hx hb dL_move_2 rfl (lv_at hl 0 rfl) ?_
  refine lv_iload_n hx hb dL_move_3 rfl (lv_at hl 1 rfl) ?_
  have hS0 := hS
  have hFc := va_free (wc := [(h0, .inr (12, [.ref o0, .int 0, .ref g0, .ref o2, .ref o3, .ref o4, .ref o5, .int 0, .ref o6])), (g0, .inr (8, [.ref g1, .ref g2, .ref g3, .ref g4, .ref g5, .ref g6, .int 0, .int 0, .int 0, .int 0]))]) hD hS hA [0, 1] rfl
  refine vx_calli (vx_runV (As := [.int p0]) (rest := [.int 0, .ref u0]) ⟨hx, hb, hml, hown, hts⟩ (c_X5_move l hl0 κ D (s.heap).size (h0) (o0) (g0) (o2) (o3) (o4) (o5) (o6) (g1) (g2) (g3) (g4) (g5) (g6) (p0) ) (cwV 1 hts gd_c_L_move_4 rfl rfl rfl (by decide +kernel) ⟨(Nat.le_of_ble_eq_true rfl), (Nat.le_of_ble_eq_true rfl)⟩) (preV hE hK hP hD hS hA [0, 1] rfl (by decide) [] rfl (va_recv hK hP (ci := 12) (q0 := 0) rfl rfl)) rfl rfl hl.1 rfl (lv_room (Nat.le_of_ble_eq_true rfl)) dL_move_4 ⟨(Nat.le_of_ble_eq_true rfl), (Nat.le_of_ble_eq_true rfl)⟩) hS (fun q _ h => hFc q h) hFc (fun q _ h => hFc q h) (fun E9 ce q9 u9 t H1 locs ht hvm _ hB hz1 hk1 hS hce hcv hcl => ?_) (fun _ _ _ _ _ _ _ hw => hw.elim)
  obtain ⟨rfl, hB⟩ := hB
  obtain ⟨hP, hD, hK⟩ := jn (wc := [(h0, .inr (12, [.ref o0, .int 0, .ref g0, .ref o2, .ref o3, .ref o4, .ref o5, .int 0, .ref o6])), (g0, .inr (8, [.ref g1, .ref g2, .ref g3, .ref g4, .ref g5, .ref g6, .int 0, .int 0, .int 0, .int 0]))]) (wr := [(u0, .inl (cL, 1, .inr (.inl fo)))]) (w1 := [(h0, .inr (12, [.ref o0, .int 0, .ref g0, .ref o2, .ref o3, .ref o4, .ref o5, .int 0, .ref o6])), (g0, .inr (8, [.ref g1, .ref g2, .ref g3, .ref g4, .ref g5, .ref g6, .int 0, .int 0, .int 0, .int 0]))]) (t1 := []) hP hD hK hS0 hA [0, 1] [2] rfl rfl (by decide) (by decide) ht hvm hk1 hB
  generalize H1 = H at hP hS hce ⊢
  have hP : va_P D vwCl ([(u0, .inl (cL, 1, .inr (.inl fo))), (h0, .inr (12, [.ref o0, .int 0, .ref g0, .ref o2, .ref o3, .ref o4, .ref o5, .int 0, .ref o6])), (g0, .inr (8, [.ref g1, .ref g2, .ref g3, .ref g4, .ref g5, .ref g6, .int 0, .int 0, .int 0, .int 0]))]) H := hP
  have hD : va_D A ([(u0, .inl (cL, 1, .inr (.inl fo))), (h0, .inr (12, [.ref o0, .int 0, .ref g0, .ref o2, .ref o3, .ref o4, .ref o5, .int 0, .ref o6])), (g0, .inr (8, [.ref g1, .ref g2, .ref g3, .ref g4, .ref g5, .ref g6, .int 0, .int 0, .int 0, .int 0]))]) := hD
  have hK : va_K D vwCl [(cL, .long)] s := hK
  refine vx_widen (k := 1) (n := 6) (Nat.le_of_ble_eq_true rfl) (Nat.le_of_ble_eq_true rfl) ?_
  refine vx_catch (E := "java/lang/IllegalStateException") (name := "java/lang/IllegalStateException") hown [] ⟨0, 9, 12, 15⟩ [⟨0, 9, 15, 21⟩, ⟨0, 9, 18, 46⟩] htb (fun z hz => absurd hz List.not_mem_nil) (by decide) (by decide) (hts (.classLink RL 15 "java/lang/IllegalStateException") (by decide +kernel)) (va_Nw.use rfl hE.ca1) hce hcv hcl ?_
  refine W.eq (g2 := F0 m 12 ls [.ref q9]) rfl ?_
  refine lv_astore_n (lv' := [(3, .ref q9), (0, .ref h0), (1, .int p0), (2, .ref u0)]) hx hb dL_move_12 rfl hl (by decide) rfl (fun ls hl => ?_)
  refine lv_iconst (v := 1) hx hb dL_move_13 (by decide) ?_
  refine W.widen (k := 1) (n := 6) (Nat.le_of_ble_eq_true rfl) (Nat.le_of_ble_eq_true rfl) ?_
  exact W.iret (v := 1) hx hb hr (fun t ht hW => ⟨⟨1, (), rfl, rfl, PB.at hP hK hD hW.alike ht [] rfl (by decide) [] rfl⟩, hS.F ht⟩) hS.2.2 dL_move_14

def wm_c_L_barred : List Cond := .codeWith yL_barred cL_barred 4 (some .int) [(0, 9, 12, 15), (0, 9, 15, 21)] :: ([.code yX5_barred cX5_barred 2 (some .char), .code yX5_needGameOn cX5_needGameOn 1 none, .fieldLink RX5 19 "Sowingcourt" "game" "LSowingcourt$Game;", .fieldLink RX5 179 "Sowingcourt$Game" "begun" "Z", .classLink RX5 162 "java/lang/IllegalStateException", .initialized "java/lang/IllegalStateException", .methodLink RX5 138 yX5_needGameOn, .instanceMethod yX5_needGameOn, .selects RX5 yX5_needGameOn yX5_needGameOn, .initialized RX5, .methodLink RL 51 yX5_barred, .instanceMethod yX5_barred, .selects RX5 yX5_barred yX5_barred, .classLink RL 15 "java/lang/IllegalStateException"] ++ wsX50 ++ wsX10 ++ (vx_atS RX5 166 "java/lang/IllegalStateException" supX).filter goodWord)
set_option maxRecDepth 20000 in
theorem gd_c_L_barred_4 : GoodIn wm_c_L_barred (wsV RL 51 RX5 yX5_barred wm_c_X5_barred) := goodIn_of _ (by decide +kernel)
set_option maxHeartbeats 4000000 in
set_option maxRecDepth 100000 in
theorem c_L_barred (l : Launch) (hl0 : l.stackTraces = false) (κ : Nat → Nat) (D : va_G) (sz : Nat) (h0 : Nat) (o0 : Nat) (g0 : Nat) (o2 : Nat) (o3 : Nat) (o4 : Nat) (o5 : Nat) (o6 : Nat) (g1 : Nat) (g2 : Nat) (g3 : Nat) (g4 : Nat) (g5 : Nat) (g6 : Nat) (p0 : Int32) (u0 : Nat) (cL : ClassId) (fo : Nat → Int64)  : Met l yL_barred wm_c_L_barred ({ frames := 13, cells := 1, slots := 6, locals := 500 }) (va_Pc [.ref h0, .int p0, .ref u0] (PC κ D [(cL, .long)] [(h0, .inr (12, [.ref o0, .int 0, .ref g0, .ref o2, .ref o3, .ref o4, .ref o5, .int 0, .ref o6])), (g0, .inr (8, [.ref g1, .ref g2, .ref g3, .ref g4, .ref g5, .ref g6, .int 0, .int 0, .int 0, .int 0])), (u0, .inl (cL, 1, .inr (.inl fo)))] sz)) (va_Qi (fun (r : Int32) (_ : Unit) => r = 1) (fun _ t => PB D [] [] (va_A [(h0, .inr (12, [.ref o0, .int 0, .ref g0, .ref o2, .ref o3, .ref o4, .ref o5, .int 0, .ref o6])), (g0, .inr (8, [.ref g1, .ref g2, .ref g3, .ref g4, .ref g5, .ref g6, .int 0, .int 0, .int 0, .int 0])), (u0, .inl (cL, 1, .inr (.inl fo)))] sz) t) (va_A [(h0, .inr (12, [.ref o0, .int 0, .ref g0, .ref o2, .ref o3, .ref o4, .ref o5, .int 0, .ref o6])), (g0, .inr (8, [.ref g1, .ref g2, .ref g3, .ref g4, .ref g5, .ref g6, .int 0, .int 0, .int 0, .int 0])), (u0, .inl (cL, 1, .inr (.inl fo)))] sz)) 1 6 (va_A [(h0, .inr (12, [.ref o0, .int 0, .ref g0, .ref o2, .ref o3, .ref o4, .ref o5, .int 0, .ref o6])), (g0, .inr (8, [.ref g1, .ref g2, .ref g3, .ref g4, .ref g5, .ref g6, .int 0, .int 0, .int 0, .int 0])), (u0, .inl (cL, 1, .inr (.inl fo)))] sz) := by
  refine va_MetW (cc := cL_barred) (maxL := 4) (ret := (some .int)) (by decide +kernel) rfl ?_
  intro p e s m args below meth c s₁ B hml hv
  obtain ⟨rfl, hsz, hP, hK, hD0, hE⟩ := hv
  have hx := B.exec
  have hb := B.bytes
  have hr := B.returns
  have hts := atoms_spec (ws := wm_c_L_barred) B.pre
  have hown : s.vm.findClass RL = some m.cls := findClass_of_methodNamed B.named
  have hlocks := B.notSynchronized
  have htb : c.exceptionTable.toList = tableOf [(0, 9, 12, 15), (0, 9, 15, 21)] := vx_table (x := yL_barred) B (hts _ List.mem_cons_self)
  have iRX5 : ∀ w ∈ u_ws RX5 TX5 9, w ∈ wm_c_L_barred := by decide +kernel
  have iRX1 : ∀ w ∈ u_ws RX1 TX1 10, w ∈ wm_c_L_barred := by decide +kernel
  subst hsz
  have hD := hD0.self (sz := s.heap.size)
  generalize hAe : va_A [(h0, .inr (12, [.ref o0, .int 0, .ref g0, .ref o2, .ref o3, .ref o4, .ref o5, .int 0, .ref o6])), (g0, .inr (8, [.ref g1, .ref g2, .ref g3, .ref g4, .ref g5, .ref g6, .int 0, .int 0, .int 0, .int 0])), (u0, .inl (cL, 1, .inr (.inl fo)))] s.heap.size = A at hD hE ⊢
  have hA : ∀ q : Nat, s.heap.size ≤ q → A q := fun q h => by rw [← hAe]; exact Or.inr h
  have hS : va_S A s.heap s.heap [] := va_S.rf
  have hl := lv_entry ([.ref h0, .int p0, .ref u0]) (n := 4) (Nat.le_of_ble_eq_true rfl)
  rw [lg_entry_eq]
  generalize (lg_sl ([.ref h0, .int p0, .ref u0]) ++ List.replicate (4 - (lg_sl ([.ref h0, .int p0, .ref u0])).length) Slot.unset).toArray = ls at hl ⊢
  have hl : lv_has ls 4 [(0, .ref h0), (1, .int p0), (2, .ref u0)] := hl
  refine lv_aload_n hx hb dL_barred_0 rfl (lv_at hl 2 rfl) ?_
  refine lv_iconst (v := 0) hx hb dL_barred_1 (by decide) ?_
  refine lv_aload_n hx hb dL_barred_2 rfl (lv_at hl 0 rfl) ?_
  refine lv_iload_n hx hb dL_barred_3 rfl (lv_at hl 1 rfl) ?_
  have hS0 := hS
  have hFc := va_free (wc := [(h0, .inr (12, [.ref o0, .int 0, .ref g0, .ref o2, .ref o3, .ref o4, .ref o5, .int 0, .ref o6])), (g0, .inr (8, [.ref g1, .ref g2, .ref g3, .ref g4, .ref g5, .ref g6, .int 0, .int 0, .int 0, .int 0]))]) hD hS hA [0, 1] rfl
  refine vx_calli (vx_runV (As := [.int p0]) (rest := [.int 0, .ref u0]) ⟨hx, hb, hml, hown, hts⟩ (c_X5_barred l hl0 κ D (s.heap).size (h0) (o0) (g0) (o2) (o3) (o4) (o5) (o6) (g1) (g2) (g3) (g4) (g5) (g6) (p0) ) (cwV 1 hts gd_c_L_barred_4 rfl rfl rfl (by decide +kernel) ⟨(Nat.le_of_ble_eq_true rfl), (Nat.le_of_ble_eq_true rfl)⟩) (preV hE hK hP hD hS hA [0, 1] rfl (by decide) [] rfl (va_recv hK hP (ci := 12) (q0 := 0) rfl rfl)) rfl rfl hl.1 rfl (lv_room (Nat.le_of_ble_eq_true rfl)) dL_barred_4 ⟨(Nat.le_of_ble_eq_true rfl), (Nat.le_of_ble_eq_true rfl)⟩) hS (fun q _ h => hFc q h) hFc (fun q _ h => hFc q h) (fun E9 ce q9 u9 t H1 locs ht hvm _ hB hz1 hk1 hS hce hcv hcl => ?_) (fun _ _ _ _ _ _ _ hw => hw.elim)
  obtain ⟨rfl, hB⟩ := hB
  obtain ⟨hP, hD, hK⟩ := jn (wc := [(h0, .inr (12, [.ref o0, .int 0, .ref g0, .ref o2, .ref o3, .ref o4, .ref o5, .int 0, .ref o6])), (g0, .inr (8, [.ref g1, .ref g2, .ref g3, .ref g4, .ref g5, .ref g6, .int 0, .int 0, .int 0, .int 0]))]) (wr := [(u0, .inl (cL, 1, .inr (.inl fo)))]) (w1 := [(h0, .inr (12, [.ref o0, .int 0, .ref g0, .ref o2, .ref o3, .ref o4, .ref o5, .int 0, .ref o6])), (g0, .inr (8, [.ref g1, .ref g2, .ref g3, .ref g4, .ref g5, .ref g6, .int 0, .int 0, .int 0, .int 0]))]) (t1 := []) hP hD hK hS0 hA [0, 1] [2] rfl rfl (by decide) (by decide) ht hvm hk1 hB
  generalize H1 = H at hP hS hce ⊢
  have hP : va_P D vwCl ([(u0, .inl (cL, 1, .inr (.inl fo))), (h0, .inr (12, [.ref o0, .int 0, .ref g0, .ref o2, .ref o3, .ref o4, .ref o5, .int 0, .ref o6])), (g0, .inr (8, [.ref g1, .ref g2, .ref g3, .ref g4, .ref g5, .ref g6, .int 0, .int 0, .int 0, .int 0]))]) H := hP
  have hD : va_D A ([(u0, .inl (cL, 1, .inr (.inl fo))), (h0, .inr (12, [.ref o0, .int 0, .ref g0, .ref o2, .ref o3, .ref o4, .ref o5, .int 0, .ref o6])), (g0, .inr (8, [.ref g1, .ref g2, .ref g3, .ref g4, .ref g5, .ref g6, .int 0, .int 0, .int 0, .int 0]))]) := hD
  have hK : va_K D vwCl [(cL, .long)] s := hK
  refine vx_widen (k := 1) (n := 6) (Nat.le_of_ble_eq_true rfl) (Nat.le_of_ble_eq_true rfl) ?_
  refine vx_catch (E := "java/lang/IllegalStateException") (name := "java/lang/IllegalStateException") hown [] ⟨0, 9, 12, 15⟩ [⟨0, 9, 15, 21⟩] htb (fun z hz => absurd hz List.not_mem_nil) (by decide) (by decide) (hts (.classLink RL 15 "java/lang/IllegalStateException") (by decide +kernel)) (va_Nw.use rfl hE.ca1) hce hcv hcl ?_
  refine W.eq (g2 := F0 m 12 ls [.ref q9]) rfl ?_
  refine lv_astore_n (lv' := [(3, .ref q9), (0, .ref h0), (1, .int p0), (2, .ref u0)]) hx hb dL_barred_12 rfl hl (by decide) rfl (fun ls hl => ?_)
  refine lv_iconst (v := 1) hx hb dL_barred_13 (by decide) ?_
  refine W.widen (k := 1) (n := 6) (Nat.le_of_ble_eq_true rfl) (Nat.le_of_ble_eq_true rfl) ?_
  exact W.iret (v := 1) hx hb hr (fun t ht hW => ⟨⟨1, (), rfl, rfl, PB.at hP hK hD hW.alike ht [] rfl (by decide) [] rfl⟩, hS.F ht⟩) hS.2.2 dL_barred_14

def wm_c_L_moves : List Cond := .codeWith yL_moves cL_moves 3 (some .int) [(0, 8, 11, 15)] :: ([.code yX5_moves cX5_moves 3 (some .int), .code yX5_needGameOn cX5_needGameOn 1 none, .fieldLink RX5 19 "Sowingcourt" "game" "LSowingcourt$Game;", .fieldLink RX5 179 "Sowingcourt$Game" "begun" "Z", .classLink RX5 162 "java/lang/IllegalStateException", .initialized "java/lang/IllegalStateException", .methodLink RX5 138 yX5_needGameOn, .instanceMethod yX5_needGameOn, .selects RX5 yX5_needGameOn yX5_needGameOn, .initialized RX5, .methodLink RL 55 yX5_moves, .instanceMethod yX5_moves, .selects RX5 yX5_moves yX5_moves, .classLink RL 15 "java/lang/IllegalStateException"] ++ wsX50 ++ wsX10 ++ (vx_atS RX5 166 "java/lang/IllegalStateException" supX).filter goodWord)
set_option maxRecDepth 20000 in
theorem gd_c_L_moves_3 : GoodIn wm_c_L_moves (wsV RL 55 RX5 yX5_moves wm_c_X5_moves) := goodIn_of _ (by decide +kernel)
set_option maxHeartbeats 4000000 in
set_option maxRecDepth 100000 in
theorem c_L_moves (l : Launch) (hl0 : l.stackTraces = false) (κ : Nat → Nat) (D : va_G) (sz : Nat) (h0 : Nat) (o0 : Nat) (g0 : Nat) (o2 : Nat) (o3 : Nat) (o4 : Nat) (o5 : Nat) (o6 : Nat) (g1 : Nat) (g2 : Nat) (g3 : Nat) (g4 : Nat) (g5 : Nat) (g6 : Nat) (u0 : Nat) (cL : ClassId) (fo : Nat → Int64)  : Met l yL_moves wm_c_L_moves ({ frames := 13, cells := 1, slots := 6, locals := 500 }) (va_Pc [.ref h0, .ref u0] (PC κ D [(cL, .long)] [(h0, .inr (12, [.ref o0, .int 0, .ref g0, .ref o2, .ref o3, .ref o4, .ref o5, .int 0, .ref o6])), (g0, .inr (8, [.ref g1, .ref g2, .ref g3, .ref g4, .ref g5, .ref g6, .int 0, .int 0, .int 0, .int 0])), (u0, .inl (cL, 1, .inr (.inl fo)))] sz)) (va_Qi (fun (r : Int32) (_ : Unit) => r = 1) (fun _ t => PB D [] [] (va_A [(h0, .inr (12, [.ref o0, .int 0, .ref g0, .ref o2, .ref o3, .ref o4, .ref o5, .int 0, .ref o6])), (g0, .inr (8, [.ref g1, .ref g2, .ref g3, .ref g4, .ref g5, .ref g6, .int 0, .int 0, .int 0, .int 0])), (u0, .inl (cL, 1, .inr (.inl fo)))] sz) t) (va_A [(h0, .inr (12, [.ref o0, .int 0, .ref g0, .ref o2, .ref o3, .ref o4, .ref o5, .int 0, .ref o6])), (g0, .inr (8, [.ref g1, .ref g2, .ref g3, .ref g4, .ref g5, .ref g6, .int 0, .int 0, .int 0, .int 0])), (u0, .inl (cL, 1, .inr (.inl fo)))] sz)) 1 6 (va_A [(h0, .inr (12, [.ref o0, .int 0, .ref g0, .ref o2, .ref o3, .ref o4, .ref o5, .int 0, .ref o6])), (g0, .inr (8, [.ref g1, .ref g2, .ref g3, .ref g4, .ref g5, .ref g6, .int 0, .int 0, .int 0, .int 0])), (u0, .inl (cL, 1, .inr (.inl fo)))] sz) := by
  refine va_MetW (cc := cL_moves) (maxL := 3) (ret := (some .int)) (by decide +kernel) rfl ?_
  intro p e s m args below meth c s₁ B hml hv
  obtain ⟨rfl, hsz, hP, hK, hD0, hE⟩ := hv
  have hx := B.exec
  have hb := B.bytes
  have hr := B.returns
  have hts := atoms_spec (ws := wm_c_L_moves) B.pre
  have hown : s.vm.findClass RL = some m.cls := findClass_of_methodNamed B.named
  have hlocks := B.notSynchronized
  have htb : c.exceptionTable.toList = tableOf [(0, 8, 11, 15)] := vx_table (x := yL_moves) B (hts _ List.mem_cons_self)
  have iRX5 : ∀ w ∈ u_ws RX5 TX5 9, w ∈ wm_c_L_moves := by decide +kernel
  have iRX1 : ∀ w ∈ u_ws RX1 TX1 10, w ∈ wm_c_L_moves := by decide +kernel
  subst hsz
  have hD := hD0.self (sz := s.heap.size)
  generalize hAe : va_A [(h0, .inr (12, [.ref o0, .int 0, .ref g0, .ref o2, .ref o3, .ref o4, .ref o5, .int 0, .ref o6])), (g0, .inr (8, [.ref g1, .ref g2, .ref g3, .ref g4, .ref g5, .ref g6, .int 0, .int 0, .int 0, .int 0])), (u0, .inl (cL, 1, .inr (.inl fo)))] s.heap.size = A at hD hE ⊢
  have hA : ∀ q : Nat, s.heap.size ≤ q → A q := fun q h => by rw [← hAe]; exact Or.inr h
  have hS : va_S A s.heap s.heap [] := va_S.rf
  have hl := lv_entry ([.ref h0, .ref u0]) (n := 3) (Nat.le_of_ble_eq_true rfl)
  rw [lg_entry_eq]
  generalize (lg_sl ([.ref h0, .ref u0]) ++ List.replicate (3 - (lg_sl ([.ref h0, .ref u0])).length) Slot.unset).toArray = ls at hl ⊢
  have hl : lv_has ls 3 [(0, .ref h0), (1, .ref u0)] := hl
  refine lv_aload_n hx hb dL_moves_0 rfl (lv_at hl 1 rfl) ?_
  refine lv_iconst (v := 0) hx hb dL_moves_1 (by decide) ?_
  refine lv_aload_n hx hb dL_moves_2 rfl (lv_at hl 0 rfl) ?_
  have hS0 := hS
  have hFc := va_free (wc := [(h0, .inr (12, [.ref o0, .int 0, .ref g0, .ref o2, .ref o3, .ref o4, .ref o5, .int 0, .ref o6])), (g0, .inr (8, [.ref g1, .ref g2, .ref g3, .ref g4, .ref g5, .ref g6, .int 0, .int 0, .int 0, .int 0]))]) hD hS hA [0, 1] rfl
  refine vx_calli (vx_runV (As := []) (rest := [.int 0, .ref u0]) ⟨hx, hb, hml, hown, hts⟩ (c_X5_moves l hl0 κ D (s.heap).size (h0) (o0) (g0) (o2) (o3) (o4) (o5) (o6) (g1) (g2) (g3) (g4) (g5) (g6) ) (cwV 0 hts gd_c_L_moves_3 rfl rfl rfl (by decide +kernel) ⟨(Nat.le_of_ble_eq_true rfl), (Nat.le_of_ble_eq_true rfl)⟩) (preV hE hK hP hD hS hA [0, 1] rfl (by decide) [] rfl (va_recv hK hP (ci := 12) (q0 := 0) rfl rfl)) rfl rfl hl.1 rfl (lv_room (Nat.le_of_ble_eq_true rfl)) dL_moves_3 ⟨(Nat.le_of_ble_eq_true rfl), (Nat.le_of_ble_eq_true rfl)⟩) hS (fun q _ h => hFc q h) hFc (fun q _ h => hFc q h) (fun E9 ce q9 u9 t H1 locs ht hvm _ hB hz1 hk1 hS hce hcv hcl => ?_) (fun _ _ _ _ _ _ _ hw => hw.elim)
  obtain ⟨rfl, hB⟩ := hB
  obtain ⟨hP, hD, hK⟩ := jn (wc := [(h0, .inr (12, [.ref o0, .int 0, .ref g0, .ref o2, .ref o3, .ref o4, .ref o5, .int 0, .ref o6])), (g0, .inr (8, [.ref g1, .ref g2, .ref g3, .ref g4, .ref g5, .ref g6, .int 0, .int 0, .int 0, .int 0]))]) (wr := [(u0, .inl (cL, 1, .inr (.inl fo)))]) (w1 := [(h0, .inr (12, [.ref o0, .int 0, .ref g0, .ref o2, .ref o3, .ref o4, .ref o5, .int 0, .ref o6])), (g0, .inr (8, [.ref g1, .ref g2, .ref g3, .ref g4, .ref g5, .ref g6, .int 0, .int 0, .int 0, .int 0]))]) (t1 := []) hP hD hK hS0 hA [0, 1] [2] rfl rfl (by decide) (by decide) ht hvm hk1 hB
  generalize H1 = H at hP hS hce ⊢
  have hP : va_P D vwCl ([(u0, .inl (cL, 1, .inr (.inl fo))), (h0, .inr (12, [.ref o0, .int 0, .ref g0, .ref o2, .ref o3, .ref o4, .ref o5, .int 0, .ref o6])), (g0, .inr (8, [.ref g1, .ref g2, .ref g3, .ref g4, .ref g5, .ref g6, .int 0, .int 0, .int 0, .int 0]))]) H := hP
  have hD : va_D A ([(u0, .inl (cL, 1, .inr (.inl fo))), (h0, .inr (12, [.ref o0, .int 0, .ref g0, .ref o2, .ref o3, .ref o4, .ref o5, .int 0, .ref o6])), (g0, .inr (8, [.ref g1, .ref g2, .ref g3, .ref g4, .ref g5, .ref g6, .int 0, .int 0, .int 0, .int 0]))]) := hD
  have hK : va_K D vwCl [(cL, .long)] s := hK
  refine vx_widen (k := 1) (n := 6) (Nat.le_of_ble_eq_true rfl) (Nat.le_of_ble_eq_true rfl) ?_
  refine vx_catch (E := "java/lang/IllegalStateException") (name := "java/lang/IllegalStateException") hown [] ⟨0, 8, 11, 15⟩ [] htb (fun z hz => absurd hz List.not_mem_nil) (by decide) (by decide) (hts (.classLink RL 15 "java/lang/IllegalStateException") (by decide +kernel)) (va_Nw.use rfl hE.ca1) hce hcv hcl ?_
  refine W.eq (g2 := F0 m 11 ls [.ref q9]) rfl ?_
  refine lv_astore_n (lv' := [(2, .ref q9), (0, .ref h0), (1, .ref u0)]) hx hb dL_moves_11 rfl hl (by decide) rfl (fun ls hl => ?_)
  refine lv_iconst (v := 1) hx hb dL_moves_12 (by decide) ?_
  refine W.widen (k := 1) (n := 6) (Nat.le_of_ble_eq_true rfl) (Nat.le_of_ble_eq_true rfl) ?_
  exact W.iret (v := 1) hx hb hr (fun t ht hW => ⟨⟨1, (), rfl, rfl, PB.at hP hK hD hW.alike ht [] rfl (by decide) [] rfl⟩, hS.F ht⟩) hS.2.2 dL_moves_13

def wm_c_L_turn : List Cond := .codeWith yL_turn cL_turn 3 (some .int) [(0, 8, 11, 15)] :: ([.code yX5_turn cX5_turn 1 (some .int), .code yX5_needGameOn cX5_needGameOn 1 none, .fieldLink RX5 19 "Sowingcourt" "game" "LSowingcourt$Game;", .fieldLink RX5 179 "Sowingcourt$Game" "begun" "Z", .classLink RX5 162 "java/lang/IllegalStateException", .initialized "java/lang/IllegalStateException", .methodLink RX5 138 yX5_needGameOn, .instanceMethod yX5_needGameOn, .selects RX5 yX5_needGameOn yX5_needGameOn, .initialized RX5, .methodLink RL 68 yX5_turn, .instanceMethod yX5_turn, .selects RX5 yX5_turn yX5_turn, .classLink RL 15 "java/lang/IllegalStateException"] ++ wsX50 ++ wsX10 ++ (vx_atS RX5 166 "java/lang/IllegalStateException" supX).filter goodWord)
set_option maxRecDepth 20000 in
theorem gd_c_L_turn_3 : GoodIn wm_c_L_turn (wsV RL 68 RX5 yX5_turn wm_c_X5_turn) := goodIn_of _ (by decide +kernel)
set_option maxHeartbeats 4000000 in
set_option maxRecDepth 100000 in
theorem c_L_turn (l : Launch) (hl0 : l.stackTraces = false) (κ : Nat → Nat) (D : va_G) (sz : Nat) (h0 : Nat) (o0 : Nat) (g0 : Nat) (o2 : Nat) (o3 : Nat) (o4 : Nat) (o5 : Nat) (o6 : Nat) (g1 : Nat) (g2 : Nat) (g3 : Nat) (g4 : Nat) (g5 : Nat) (g6 : Nat) (u0 : Nat) (cL : ClassId) (fo : Nat → Int64)  : Met l yL_turn wm_c_L_turn ({ frames := 13, cells := 1, slots := 6, locals := 500 }) (va_Pc [.ref h0, .ref u0] (PC κ D [(cL, .long)] [(h0, .inr (12, [.ref o0, .int 0, .ref g0, .ref o2, .ref o3, .ref o4, .ref o5, .int 0, .ref o6])), (g0, .inr (8, [.ref g1, .ref g2, .ref g3, .ref g4, .ref g5, .ref g6, .int 0, .int 0, .int 0, .int 0])), (u0, .inl (cL, 1, .inr (.inl fo)))] sz)) (va_Qi (fun (r : Int32) (_ : Unit) => r = 1) (fun _ t => PB D [] [] (va_A [(h0, .inr (12, [.ref o0, .int 0, .ref g0, .ref o2, .ref o3, .ref o4, .ref o5, .int 0, .ref o6])), (g0, .inr (8, [.ref g1, .ref g2, .ref g3, .ref g4, .ref g5, .ref g6, .int 0, .int 0, .int 0, .int 0])), (u0, .inl (cL, 1, .inr (.inl fo)))] sz) t) (va_A [(h0, .inr (12, [.ref o0, .int 0, .ref g0, .ref o2, .ref o3, .ref o4, .ref o5, .int 0, .ref o6])), (g0, .inr (8, [.ref g1, .ref g2, .ref g3, .ref g4, .ref g5, .ref g6, .int 0, .int 0, .int 0, .int 0])), (u0, .inl (cL, 1, .inr (.inl fo)))] sz)) 1 6 (va_A [(h0, .inr (12, [.ref o0, .int 0, .ref g0, .ref o2, .ref o3, .ref o4, .ref o5, .int 0, .ref o6])), (g0, .inr (8, [.ref g1, .ref g2, .ref g3, .ref g4, .ref g5, .ref g6, .int 0, .int 0, .int 0, .int 0])), (u0, .inl (cL, 1, .inr (.inl fo)))] sz) := by
  refine va_MetW (cc := cL_turn) (maxL := 3) (ret := (some .int)) (by decide +kernel) rfl ?_
  intro p e s m args below meth c s₁ B hml hv
  obtain ⟨rfl, hsz, hP, hK, hD0, hE⟩ := hv
  have hx := B.exec
  have hb := B.bytes
  have hr := B.returns
  have hts := atoms_spec (ws := wm_c_L_turn) B.pre
  have hown : s.vm.findClass RL = some m.cls := findClass_of_methodNamed B.named
  have hlocks := B.notSynchronized
  have htb : c.exceptionTable.toList = tableOf [(0, 8, 11, 15)] := vx_table (x := yL_turn) B (hts _ List.mem_cons_self)
  have iRX5 : ∀ w ∈ u_ws RX5 TX5 9, w ∈ wm_c_L_turn := by decide +kernel
  have iRX1 : ∀ w ∈ u_ws RX1 TX1 10, w ∈ wm_c_L_turn := by decide +kernel
  subst hsz
  have hD := hD0.self (sz := s.heap.size)
  generalize hAe : va_A [(h0, .inr (12, [.ref o0, .int 0, .ref g0, .ref o2, .ref o3, .ref o4, .ref o5, .int 0, .ref o6])), (g0, .inr (8, [.ref g1, .ref g2, .ref g3, .ref g4, .ref g5, .ref g6, .int 0, .int 0, .int 0, .int 0])), (u0, .inl (cL, 1, .inr (.inl fo)))] s.heap.size = A at hD hE ⊢
  have hA : ∀ q : Nat, s.heap.size ≤ q → A q := fun q h => by rw [← hAe]; exact Or.inr h
  have hS : va_S A s.heap s.heap [] := va_S.rf
  have hl := lv_entry ([.ref h0, .ref u0]) (n := 3) (Nat.le_of_ble_eq_true rfl)
  rw [lg_entry_eq]
  generalize (lg_sl ([.ref h0, .ref u0]) ++ List.replicate (3 - (lg_sl ([.ref h0, .ref u0])).length) Slot.unset).toArray = ls at hl ⊢
  have hl : lv_has ls 3 [(0, .ref h0), (1, .ref u0)] := hl
  refine lv_aload_n hx hb dL_turn_0 rfl (lv_at hl 1 rfl) ?_
  refine lv_iconst (v := 0) hx hb dL_turn_1 (by decide) ?_
  refine lv_aload_n hx hb dL_turn_2 rfl (lv_at hl 0 rfl) ?_
  have hS0 := hS
  have hFc := va_free (wc := [(h0, .inr (12, [.ref o0, .int 0, .ref g0, .ref o2, .ref o3, .ref o4, .ref o5, .int 0, .ref o6])), (g0, .inr (8, [.ref g1, .ref g2, .ref g3, .ref g4, .ref g5, .ref g6, .int 0, .int 0, .int 0, .int 0]))]) hD hS hA [0, 1] rfl
  refine vx_calli (vx_runV (As := []) (rest := [.int 0, .ref u0]) ⟨hx, hb, hml, hown, hts⟩ (c_X5_turn l hl0 κ D (s.heap).size (h0) (o0) (g0) (o2) (o3) (o4) (o5) (o6) (g1) (g2) (g3) (g4) (g5) (g6) ) (cwV 0 hts gd_c_L_turn_3 rfl rfl rfl (by decide +kernel) ⟨(Nat.le_of_ble_eq_true rfl), (Nat.le_of_ble_eq_true rfl)⟩) (preV hE hK hP hD hS hA [0, 1] rfl (by decide) [] rfl (va_recv hK hP (ci := 12) (q0 := 0) rfl rfl)) rfl rfl hl.1 rfl (lv_room (Nat.le_of_ble_eq_true rfl)) dL_turn_3 ⟨(Nat.le_of_ble_eq_true rfl), (Nat.le_of_ble_eq_true rfl)⟩) hS (fun q _ h => hFc q h) hFc (fun q _ h => hFc q h) (fun E9 ce q9 u9 t H1 locs ht hvm _ hB hz1 hk1 hS hce hcv hcl => ?_) (fun _ _ _ _ _ _ _ hw => hw.elim)
  obtain ⟨rfl, hB⟩ := hB
  obtain ⟨hP, hD, hK⟩ := jn (wc := [(h0, .inr (12, [.ref o0, .int 0, .ref g0, .ref o2, .ref o3, .ref o4, .ref o5, .int 0, .ref o6])), (g0, .inr (8, [.ref g1, .ref g2, .ref g3, .ref g4, .ref g5, .ref g6, .int 0, .int 0, .int 0, .int 0]))]) (wr := [(u0, .inl (cL, 1, .inr (.inl fo)))]) (w1 := [(h0, .inr (12, [.ref o0, .int 0, .ref g0, .ref o2, .ref o3, .ref o4, .ref o5, .int 0, .ref o6])), (g0, .inr (8, [.ref g1, .ref g2, .ref g3, .ref g4, .ref g5, .ref g6, .int 0, .int 0, .int 0, .int 0]))]) (t1 := []) hP hD hK hS0 hA [0, 1] [2] rfl rfl (by decide) (by decide) ht hvm hk1 hB
  generalize H1 = H at hP hS hce ⊢
  have hP : va_P D vwCl ([(u0, .inl (cL, 1, .inr (.inl fo))), (h0, .inr (12, [.ref o0, .int 0, .ref g0, .ref o2, .ref o3, .ref o4, .ref o5, .int 0, .ref o6])), (g0, .inr (8, [.ref g1, .ref g2, .ref g3, .ref g4, .ref g5, .ref g6, .int 0, .int 0, .int 0, .int 0]))]) H := hP
  have hD : va_D A ([(u0, .inl (cL, 1, .inr (.inl fo))), (h0, .inr (12, [.ref o0, .int 0, .ref g0, .ref o2, .ref o3, .ref o4, .ref o5, .int 0, .ref o6])), (g0, .inr (8, [.ref g1, .ref g2, .ref g3, .ref g4, .ref g5, .ref g6, .int 0, .int 0, .int 0, .int 0]))]) := hD
  have hK : va_K D vwCl [(cL, .long)] s := hK
  refine vx_widen (k := 1) (n := 6) (Nat.le_of_ble_eq_true rfl) (Nat.le_of_ble_eq_true rfl) ?_
  refine vx_catch (E := "java/lang/IllegalStateException") (name := "java/lang/IllegalStateException") hown [] ⟨0, 8, 11, 15⟩ [] htb (fun z hz => absurd hz List.not_mem_nil) (by decide) (by decide) (hts (.classLink RL 15 "java/lang/IllegalStateException") (by decide +kernel)) (va_Nw.use rfl hE.ca1) hce hcv hcl ?_
  refine W.eq (g2 := F0 m 11 ls [.ref q9]) rfl ?_
  refine lv_astore_n (lv' := [(2, .ref q9), (0, .ref h0), (1, .ref u0)]) hx hb dL_turn_11 rfl hl (by decide) rfl (fun ls hl => ?_)
  refine lv_iconst (v := 1) hx hb dL_turn_12 (by decide) ?_
  refine W.widen (k := 1) (n := 6) (Nat.le_of_ble_eq_true rfl) (Nat.le_of_ble_eq_true rfl) ?_
  exact W.iret (v := 1) hx hb hr (fun t ht hW => ⟨⟨1, (), rfl, rfl, PB.at hP hK hD hW.alike ht [] rfl (by decide) [] rfl⟩, hS.F ht⟩) hS.2.2 dL_turn_13

def wm_c_L_value : List Cond := .codeWith yL_value cL_value 4 (some .int) [(0, 9, 12, 15), (0, 9, 15, 13)] :: ([.code yX5_value cX5_value 2 (some .int), .code yX5_needGameOn cX5_needGameOn 1 none, .fieldLink RX5 19 "Sowingcourt" "game" "LSowingcourt$Game;", .fieldLink RX5 179 "Sowingcourt$Game" "begun" "Z", .classLink RX5 162 "java/lang/IllegalStateException", .initialized "java/lang/IllegalStateException", .methodLink RX5 138 yX5_needGameOn, .instanceMethod yX5_needGameOn, .selects RX5 yX5_needGameOn yX5_needGameOn, .initialized RX5, .methodLink RL 99 yX5_value, .instanceMethod yX5_value, .selects RX5 yX5_value yX5_value, .classLink RL 15 "java/lang/IllegalStateException"] ++ wsX50 ++ wsX10 ++ (vx_atS RX5 166 "java/lang/IllegalStateException" supX).filter goodWord)
set_option maxRecDepth 20000 in
theorem gd_c_L_value_4 : GoodIn wm_c_L_value (wsV RL 99 RX5 yX5_value wm_c_X5_value) := goodIn_of _ (by decide +kernel)
set_option maxHeartbeats 4000000 in
set_option maxRecDepth 100000 in
theorem c_L_value (l : Launch) (hl0 : l.stackTraces = false) (κ : Nat → Nat) (D : va_G) (sz : Nat) (h0 : Nat) (o0 : Nat) (g0 : Nat) (o2 : Nat) (o3 : Nat) (o4 : Nat) (o5 : Nat) (o6 : Nat) (g1 : Nat) (g2 : Nat) (g3 : Nat) (g4 : Nat) (g5 : Nat) (g6 : Nat) (p0 : Int32) (u0 : Nat) (cL : ClassId) (fo : Nat → Int64)  : Met l yL_value wm_c_L_value ({ frames := 13, cells := 1, slots := 6, locals := 500 }) (va_Pc [.ref h0, .int p0, .ref u0] (PC κ D [(cL, .long)] [(h0, .inr (12, [.ref o0, .int 0, .ref g0, .ref o2, .ref o3, .ref o4, .ref o5, .int 0, .ref o6])), (g0, .inr (8, [.ref g1, .ref g2, .ref g3, .ref g4, .ref g5, .ref g6, .int 0, .int 0, .int 0, .int 0])), (u0, .inl (cL, 1, .inr (.inl fo)))] sz)) (va_Qi (fun (r : Int32) (_ : Unit) => r = 1) (fun _ t => PB D [] [] (va_A [(h0, .inr (12, [.ref o0, .int 0, .ref g0, .ref o2, .ref o3, .ref o4, .ref o5, .int 0, .ref o6])), (g0, .inr (8, [.ref g1, .ref g2, .ref g3, .ref g4, .ref g5, .ref g6, .int 0, .int 0, .int 0, .int 0])), (u0, .inl (cL, 1, .inr (.inl fo)))] sz) t) (va_A [(h0, .inr (12, [.ref o0, .int 0, .ref g0, .ref o2, .ref o3, .ref o4, .ref o5, .int 0, .ref o6])), (g0, .inr (8, [.ref g1, .ref g2, .ref g3, .ref g4, .ref g5, .ref g6, .int 0, .int 0, .int 0, .int 0])), (u0, .inl (cL, 1, .inr (.inl fo)))] sz)) 1 6 (va_A [(h0, .inr (12, [.ref o0, .int 0, .ref g0, .ref o2, .ref o3, .ref o4, .ref o5, .int 0, .ref o6])), (g0, .inr (8, [.ref g1, .ref g2, .ref g3, .ref g4, .ref g5, .ref g6, .int 0, .int 0, .int 0, .int 0])), (u0, .inl (cL, 1, .inr (.inl fo)))] sz) := by
  refine va_MetW (cc := cL_value) (maxL := 4) (ret := (some .int)) (by decide +kernel) rfl ?_
  intro p e s m args below meth c s₁ B hml hv
  obtain ⟨rfl, hsz, hP, hK, hD0, hE⟩ := hv
  have hx := B.exec
  have hb := B.bytes
  have hr := B.returns
  have hts := atoms_spec (ws := wm_c_L_value) B.pre
  have hown : s.vm.findClass RL = some m.cls := findClass_of_methodNamed B.named
  have hlocks := B.notSynchronized
  have htb : c.exceptionTable.toList = tableOf [(0, 9, 12, 15), (0, 9, 15, 13)] := vx_table (x := yL_value) B (hts _ List.mem_cons_self)
  have iRX5 : ∀ w ∈ u_ws RX5 TX5 9, w ∈ wm_c_L_value := by decide +kernel
  have iRX1 : ∀ w ∈ u_ws RX1 TX1 10, w ∈ wm_c_L_value := by decide +kernel
  subst hsz
  have hD := hD0.self (sz := s.heap.size)
  generalize hAe : va_A [(h0, .inr (12, [.ref o0, .int 0, .ref g0, .ref o2, .ref o3, .ref o4, .ref o5, .int 0, .ref o6])), (g0, .inr (8, [.ref g1, .ref g2, .ref g3, .ref g4, .ref g5, .ref g6, .int 0, .int 0, .int 0, .int 0])), (u0, .inl (cL, 1, .inr (.inl fo)))] s.heap.size = A at hD hE ⊢
  have hA : ∀ q : Nat, s.heap.size ≤ q → A q := fun q h => by rw [← hAe]; exact Or.inr h
  have hS : va_S A s.heap s.heap [] := va_S.rf
  have hl := lv_entry ([.ref h0, .int p0, .ref u0]) (n := 4) (Nat.le_of_ble_eq_true rfl)
  rw [lg_entry_eq]
  generalize (lg_sl ([.ref h0, .int p0, .ref u0]) ++ List.replicate (4 - (lg_sl ([.ref h0, .int p0, .ref u0])).length) Slot.unset).toArray = ls at hl ⊢
  have hl : lv_has ls 4 [(0, .ref h0), (1, .int p0), (2, .ref u0)] := hl
  refine lv_aload_n hx hb dL_value_0 rfl (lv_at hl 2 rfl) ?_
  refine lv_iconst (v := 0) hx hb dL_value_1 (by decide) ?_
  refine lv_aload_n hx hb dL_value_2 rfl (lv_at hl 0 rfl) ?_
  refine lv_iload_n hx hb dL_value_3 rfl (lv_at hl 1 rfl) ?_
  have hS0 := hS
  have hFc := va_free (wc := [(h0, .inr (12, [.ref o0, .int 0, .ref g0, .ref o2, .ref o3, .ref o4, .ref o5, .int 0, .ref o6])), (g0, .inr (8, [.ref g1, .ref g2, .ref g3, .ref g4, .ref g5, .ref g6, .int 0, .int 0, .int 0, .int 0]))]) hD hS hA [0, 1] rfl
  refine vx_calli (vx_runV (As := [.int p0]) (rest := [.int 0, .ref u0]) ⟨hx, hb, hml, hown, hts⟩ (c_X5_value l hl0 κ D (s.heap).size (h0) (o0) (g0) (o2) (o3) (o4) (o5) (o6) (g1) (g2) (g3) (g4) (g5) (g6) (p0) ) (cwV 1 hts gd_c_L_value_4 rfl rfl rfl (by decide +kernel) ⟨(Nat.le_of_ble_eq_true rfl), (Nat.le_of_ble_eq_true rfl)⟩) (preV hE hK hP hD hS hA [0, 1] rfl (by decide) [] rfl (va_recv hK hP (ci := 12) (q0 := 0) rfl rfl)) rfl rfl hl.1 rfl (lv_room (Nat.le_of_ble_eq_true rfl)) dL_value_4 ⟨(Nat.le_of_ble_eq_true rfl), (Nat.le_of_ble_eq_true rfl)⟩) hS (fun q _ h => hFc q h) hFc (fun q _ h => hFc q h) (fun E9 ce q9 u9 t H1 locs ht hvm _ hB hz1 hk1 hS hce hcv hcl => ?_) (fun _ _ _ _ _ _ _ hw => hw.elim)
  obtain ⟨rfl, hB⟩ := hB
  obtain ⟨hP, hD, hK⟩ := jn (wc := [(h0, .inr (12, [.ref o0, .int 0, .ref g0, .ref o2, .ref o3, .ref o4, .ref o5, .int 0, .ref o6])), (g0, .inr (8, [.ref g1, .ref g2, .ref g3, .ref g4, .ref g5, .ref g6, .int 0, .int 0, .int 0, .int 0]))]) (wr := [(u0, .inl (cL, 1, .inr (.inl fo)))]) (w1 := [(h0, .inr (12, [.ref o0, .int 0, .ref g0, .ref o2, .ref o3, .ref o4, .ref o5, .int 0, .ref o6])), (g0, .inr (8, [.ref g1, .ref g2, .ref g3, .ref g4, .ref g5, .ref g6, .int 0, .int 0, .int 0, .int 0]))]) (t1 := []) hP hD hK hS0 hA [0, 1] [2] rfl rfl (by decide) (by decide) ht hvm hk1 hB
  generalize H1 = H at hP hS hce ⊢
  have hP : va_P D vwCl ([(u0, .inl (cL, 1, .inr (.inl fo))), (h0, .inr (12, [.ref o0, .int 0, .ref g0, .ref o2, .ref o3, .ref o4, .ref o5, .int 0, .ref o6])), (g0, .inr (8, [.ref g1, .ref g2, .ref g3, .ref g4, .ref g5, .ref g6, .int 0, .int 0, .int 0, .int 0]))]) H := hP
  have hD : va_D A ([(u0, .inl (cL, 1, .inr (.inl fo))), (h0, .inr (12, [.ref o0, .int 0, .ref g0, .ref o2, .ref o3, .ref o4, .ref o5, .int 0, .ref o6])), (g0, .inr (8, [.ref g1, .ref g2, .ref g3, .ref g4, .ref g5, .ref g6, .int 0, .int 0, .int 0, .int 0]))]) := hD
  have hK : va_K D vwCl [(cL, .long)] s := hK
  refine vx_widen (k := 1) (n := 6) (Nat.le_of_ble_eq_true rfl) (Nat.le_of_ble_eq_true rfl) ?_
  refine vx_catch (E := "java/lang/IllegalStateException") (name := "java/lang/IllegalStateException") hown [] ⟨0, 9, 12, 15⟩ [⟨0, 9, 15, 13⟩] htb (fun z hz => absurd hz List.not_mem_nil) (by decide) (by decide) (hts (.classLink RL 15 "java/lang/IllegalStateException") (by decide +kernel)) (va_Nw.use rfl hE.ca1) hce hcv hcl ?_
  refine W.eq (g2 := F0 m 12 ls [.ref q9]) rfl ?_
  refine lv_astore_n (lv' := [(3, .ref q9), (0, .ref h0), (1, .int p0), (2, .ref u0)]) hx hb dL_value_12 rfl hl (by decide) rfl (fun ls hl => ?_)
  refine lv_iconst (v := 1) hx hb dL_value_13 (by decide) ?_
  refine W.widen (k := 1) (n := 6) (Nat.le_of_ble_eq_true rfl) (Nat.le_of_ble_eq_true rfl) ?_
  exact W.iret (v := 1) hx hb hr (fun t ht hW => ⟨⟨1, (), rfl, rfl, PB.at hP hK hD hW.alike ht [] rfl (by decide) [] rfl⟩, hS.F ht⟩) hS.2.2 dL_value_14

def wm_c_L_best : List Cond := .codeWith yL_best cL_best 4 (some .int) [(0, 9, 12, 15), (0, 9, 15, 13), (0, 9, 18, 38)] :: ([.code yX5_best cX5_best 2 (some .int), .code yX5_needGameOn cX5_needGameOn 1 none, .fieldLink RX5 19 "Sowingcourt" "game" "LSowingcourt$Game;", .fieldLink RX5 179 "Sowingcourt$Game" "begun" "Z", .classLink RX5 162 "java/lang/IllegalStateException", .initialized "java/lang/IllegalStateException", .methodLink RX5 138 yX5_needGameOn, .instanceMethod yX5_needGameOn, .selects RX5 yX5_needGameOn yX5_needGameOn, .initialized RX5, .methodLink RL 102 yX5_best, .instanceMethod yX5_best, .selects RX5 yX5_best yX5_best, .classLink RL 15 "java/lang/IllegalStateException"] ++ wsX50 ++ wsX10 ++ (vx_atS RX5 166 "java/lang/IllegalStateException" supX).filter goodWord)
set_option maxRecDepth 20000 in
theorem gd_c_L_best_4 : GoodIn wm_c_L_best (wsV RL 102 RX5 yX5_best wm_c_X5_best) := goodIn_of _ (by decide +kernel)
set_option maxHeartbeats 4000000 in
set_option maxRecDepth 100000 in
theorem c_L_best (l : Launch) (hl0 : l.stackTraces = false) (κ : Nat → Nat) (D : va_G) (sz : Nat) (h0 : Nat) (o0 : Nat) (g0 : Nat) (o2 : Nat) (o3 : Nat) (o4 : Nat) (o5 : Nat) (o6 : Nat) (g1 : Nat) (g2 : Nat) (g3 : Nat) (g4 : Nat) (g5 : Nat) (g6 : Nat) (p0 : Int32) (u0 : Nat) (cL : ClassId) (fo : Nat → Int64)  : Met l yL_best wm_c_L_best ({ frames := 13, cells := 1, slots := 6, locals := 500 }) (va_Pc [.ref h0, .int p0, .ref u0] (PC κ D [(cL, .long)] [(h0, .inr (12, [.ref o0, .int 0, .ref g0, .ref o2, .ref o3, .ref o4, .ref o5, .int 0, .ref o6])), (g0, .inr (8, [.ref g1, .ref g2, .ref g3, .ref g4, .ref g5, .ref g6, .int 0, .int 0, .int 0, .int 0])), (u0, .inl (cL, 1, .inr (.inl fo)))] sz)) (va_Qi (fun (r : Int32) (_ : Unit) => r = 1) (fun _ t => PB D [] [] (va_A [(h0, .inr (12, [.ref o0, .int 0, .ref g0, .ref o2, .ref o3, .ref o4, .ref o5, .int 0, .ref o6])), (g0, .inr (8, [.ref g1, .ref g2, .ref g3, .ref g4, .ref g5, .ref g6, .int 0, .int 0, .int 0, .int 0])), (u0, .inl (cL, 1, .inr (.inl fo)))] sz) t) (va_A [(h0, .inr (12, [.ref o0, .int 0, .ref g0, .ref o2, .ref o3, .ref o4, .ref o5, .int 0, .ref o6])), (g0, .inr (8, [.ref g1, .ref g2, .ref g3, .ref g4, .ref g5, .ref g6, .int 0, .int 0, .int 0, .int 0])), (u0, .inl (cL, 1, .inr (.inl fo)))] sz)) 1 6 (va_A [(h0, .inr (12, [.ref o0, .int 0, .ref g0, .ref o2, .ref o3, .ref o4, .ref o5, .int 0, .ref o6])), (g0, .inr (8, [.ref g1, .ref g2, .ref g3, .ref g4, .ref g5, .ref g6, .int 0, .int 0, .int 0, .int 0])), (u0, .inl (cL, 1, .inr (.inl fo)))] sz) := by
  refine va_MetW (cc := cL_best) (maxL := 4) (ret := (some .int)) (by decide +kernel) rfl ?_
  intro p e s m args below meth c s₁ B hml hv
  obtain ⟨rfl, hsz, hP, hK, hD0, hE⟩ := hv
  have hx := B.exec
  have hb := B.bytes
  have hr := B.returns
  have hts := atoms_spec (ws := wm_c_L_best) B.pre
  have hown : s.vm.findClass RL = some m.cls := findClass_of_methodNamed B.named
  have hlocks := B.notSynchronized
  have htb : c.exceptionTable.toList = tableOf [(0, 9, 12, 15), (0, 9, 15, 13), (0, 9, 18, 38)] := vx_table (x := yL_best) B (hts _ List.mem_cons_self)
  have iRX5 : ∀ w ∈ u_ws RX5 TX5 9, w ∈ wm_c_L_best := by decide +kernel
  have iRX1 : ∀ w ∈ u_ws RX1 TX1 10, w ∈ wm_c_L_best := by decide +kernel
  subst hsz
  have hD := hD0.self (sz := s.heap.size)
  generalize hAe : va_A [(h0, .inr (12, [.ref o0, .int 0, .ref g0, .ref o2, .ref o3, .ref o4, .ref o5, .int 0, .ref o6])), (g0, .inr (8, [.ref g1, .ref g2, .ref g3, .ref g4, .ref g5, .ref g6, .int 0, .int 0, .int 0, .int 0])), (u0, .inl (cL, 1, .inr (.inl fo)))] s.heap.size = A at hD hE ⊢
  have hA : ∀ q : Nat, s.heap.size ≤ q → A q := fun q h => by rw [← hAe]; exact Or.inr h
  have hS : va_S A s.heap s.heap [] := va_S.rf
  have hl := lv_entry ([.ref h0, .int p0, .ref u0]) (n := 4) (Nat.le_of_ble_eq_true rfl)
  rw [lg_entry_eq]
  generalize (lg_sl ([.ref h0, .int p0, .ref u0]) ++ List.replicate (4 - (lg_sl ([.ref h0, .int p0, .ref u0])).length) Slot.unset).toArray = ls at hl ⊢
  have hl : lv_has ls 4 [(0, .ref h0), (1, .int p0), (2, .ref u0)] := hl
  refine lv_aload_n hx hb dL_best_0 rfl (lv_at hl 2 rfl) ?_
  refine lv_iconst (v := 0) hx hb dL_best_1 (by decide) ?_
  refine lv_aload_n hx hb dL_best_2 rfl (lv_at hl 0 rfl) ?_
  refine lv_iload_n hx hb dL_best_3 rfl (lv_at hl 1 rfl) ?_
  have hS0 := hS
  have hFc := va_free (wc := [(h0, .inr (12, [.ref o0, .int 0, .ref g0, .ref o2, .ref o3, .ref o4, .ref o5, .int 0, .ref o6])), (g0, .inr (8, [.ref g1, .ref g2, .ref g3, .ref g4, .ref g5, .ref g6, .int 0, .int 0, .int 0, .int 0]))]) hD hS hA [0, 1] rfl
  refine vx_calli (vx_runV (As := [.int p0]) (rest := [.int 0, .ref u0]) ⟨hx, hb, hml, hown, hts⟩ (c_X5_best l hl0 κ D (s.heap).size (h0) (o0) (g0) (o2) (o3) (o4) (o5) (o6) (g1) (g2) (g3) (g4) (g5) (g6) (p0) ) (cwV 1 hts gd_c_L_best_4 rfl rfl rfl (by decide +kernel) ⟨(Nat.le_of_ble_eq_true rfl), (Nat.le_of_ble_eq_true rfl)⟩) (preV hE hK hP hD hS hA [0, 1] rfl (by decide) [] rfl (va_recv hK hP (ci := 12) (q0 := 0) rfl rfl)) rfl rfl hl.1 rfl (lv_room (Nat.le_of_ble_eq_true rfl)) dL_best_4 ⟨(Nat.le_of_ble_eq_true rfl), (Nat.le_of_ble_eq_true rfl)⟩) hS (fun q _ h => hFc q h) hFc (fun q _ h => hFc q h) (fun E9 ce q9 u9 t H1 locs ht hvm _ hB hz1 hk1 hS hce hcv hcl => ?_) (fun _ _ _ _ _ _ _ hw => hw.elim)
  obtain ⟨rfl, hB⟩ := hB
  obtain ⟨hP, hD, hK⟩ := jn (wc := [(h0, .inr (12, [.ref o0, .int 0, .ref g0, .ref o2, .ref o3, .ref o4, .ref o5, .int 0, .ref o6])), (g0, .inr (8, [.ref g1, .ref g2, .ref g3, .ref g4, .ref g5, .ref g6, .int 0, .int 0, .int 0, .int 0]))]) (wr := [(u0, .inl (cL, 1, .inr (.inl fo)))]) (w1 := [(h0, .inr (12, [.ref o0, .int 0, .ref g0, .ref o2, .ref o3, .ref o4, .ref o5, .int 0, .ref o6])), (g0, .inr (8, [.ref g1, .ref g2, .ref g3, .ref g4, .ref g5, .ref g6, .int 0, .int 0, .int 0, .int 0]))]) (t1 := []) hP hD hK hS0 hA [0, 1] [2] rfl rfl (by decide) (by decide) ht hvm hk1 hB
  generalize H1 = H at hP hS hce ⊢
  have hP : va_P D vwCl ([(u0, .inl (cL, 1, .inr (.inl fo))), (h0, .inr (12, [.ref o0, .int 0, .ref g0, .ref o2, .ref o3, .ref o4, .ref o5, .int 0, .ref o6])), (g0, .inr (8, [.ref g1, .ref g2, .ref g3, .ref g4, .ref g5, .ref g6, .int 0, .int 0, .int 0, .int 0]))]) H := hP
  have hD : va_D A ([(u0, .inl (cL, 1, .inr (.inl fo))), (h0, .inr (12, [.ref o0, .int 0, .ref g0, .ref o2, .ref o3, .ref o4, .ref o5, .int 0, .ref o6])), (g0, .inr (8, [.ref g1, .ref g2, .ref g3, .ref g4, .ref g5, .ref g6, .int 0, .int 0, .int 0, .int 0]))]) := hD
  have hK : va_K D vwCl [(cL, .long)] s := hK
  refine vx_widen (k := 1) (n := 6) (Nat.le_of_ble_eq_true rfl) (Nat.le_of_ble_eq_true rfl) ?_
  refine vx_catch (E := "java/lang/IllegalStateException") (name := "java/lang/IllegalStateException") hown [] ⟨0, 9, 12, 15⟩ [⟨0, 9, 15, 13⟩, ⟨0, 9, 18, 38⟩] htb (fun z hz => absurd hz List.not_mem_nil) (by decide) (by decide) (hts (.classLink RL 15 "java/lang/IllegalStateException") (by decide +kernel)) (va_Nw.use rfl hE.ca1) hce hcv hcl ?_
  refine W.eq (g2 := F0 m 12 ls [.ref q9]) rfl ?_
  refine lv_astore_n (lv' := [(3, .ref q9), (0, .ref h0), (1, .int p0), (2, .ref u0)]) hx hb dL_best_12 rfl hl (by decide) rfl (fun ls hl => ?_)
  refine lv_iconst (v := 1) hx hb dL_best_13 (by decide) ?_
  refine W.widen (k := 1) (n := 6) (Nat.le_of_ble_eq_true rfl) (Nat.le_of_ble_eq_true rfl) ?_
  exact W.iret (v := 1) hx hb hr (fun t ht hW => ⟨⟨1, (), rfl, rfl, PB.at hP hK hD hW.alike ht [] rfl (by decide) [] rfl⟩, hS.F ht⟩) hS.2.2 dL_best_14

def wm_c_L_blunder : List Cond := .codeWith yL_blunder cL_blunder 5 (some .int) [(0, 10, 13, 15), (0, 10, 17, 21), (0, 10, 21, 13), (0, 10, 25, 46)] :: ([.code yX5_blunder cX5_blunder 3 (some .int), .code yX5_needGameOn cX5_needGameOn 1 none, .fieldLink RX5 19 "Sowingcourt" "game" "LSowingcourt$Game;", .fieldLink RX5 179 "Sowingcourt$Game" "begun" "Z", .classLink RX5 162 "java/lang/IllegalStateException", .initialized "java/lang/IllegalStateException", .methodLink RX5 138 yX5_needGameOn, .instanceMethod yX5_needGameOn, .selects RX5 yX5_needGameOn yX5_needGameOn, .initialized RX5, .methodLink RL 105 yX5_blunder, .instanceMethod yX5_blunder, .selects RX5 yX5_blunder yX5_blunder, .classLink RL 15 "java/lang/IllegalStateException"] ++ wsX50 ++ wsX10 ++ (vx_atS RX5 166 "java/lang/IllegalStateException" supX).filter goodWord)
set_option maxRecDepth 20000 in
theorem gd_c_L_blunder_5 : GoodIn wm_c_L_blunder (wsV RL 105 RX5 yX5_blunder wm_c_X5_blunder) := goodIn_of _ (by decide +kernel)
set_option maxHeartbeats 4000000 in
set_option maxRecDepth 100000 in
theorem c_L_blunder (l : Launch) (hl0 : l.stackTraces = false) (κ : Nat → Nat) (D : va_G) (sz : Nat) (h0 : Nat) (o0 : Nat) (g0 : Nat) (o2 : Nat) (o3 : Nat) (o4 : Nat) (o5 : Nat) (o6 : Nat) (g1 : Nat) (g2 : Nat) (g3 : Nat) (g4 : Nat) (g5 : Nat) (g6 : Nat) (p0 : Int32) (p1 : Int32) (u0 : Nat) (cL : ClassId) (fo : Nat → Int64)  : Met l yL_blunder wm_c_L_blunder ({ frames := 13, cells := 1, slots := 6, locals := 500 }) (va_Pc [.ref h0, .int p0, .int p1, .ref u0] (PC κ D [(cL, .long)] [(h0, .inr (12, [.ref o0, .int 0, .ref g0, .ref o2, .ref o3, .ref o4, .ref o5, .int 0, .ref o6])), (g0, .inr (8, [.ref g1, .ref g2, .ref g3, .ref g4, .ref g5, .ref g6, .int 0, .int 0, .int 0, .int 0])), (u0, .inl (cL, 1, .inr (.inl fo)))] sz)) (va_Qi (fun (r : Int32) (_ : Unit) => r = 1) (fun _ t => PB D [] [] (va_A [(h0, .inr (12, [.ref o0, .int 0, .ref g0, .ref o2, .ref o3, .ref o4, .ref o5, .int 0, .ref o6])), (g0, .inr (8, [.ref g1, .ref g2, .ref g3, .ref g4, .ref g5, .ref g6, .int 0, .int 0, .int 0, .int 0])), (u0, .inl (cL, 1, .inr (.inl fo)))] sz) t) (va_A [(h0, .inr (12, [.ref o0, .int 0, .ref g0, .ref o2, .ref o3, .ref o4, .ref o5, .int 0, .ref o6])), (g0, .inr (8, [.ref g1, .ref g2, .ref g3, .ref g4, .ref g5, .ref g6, .int 0, .int 0, .int 0, .int 0])), (u0, .inl (cL, 1, .inr (.inl fo)))] sz)) 1 6 (va_A [(h0, .inr (12, [.ref o0, .int 0, .ref g0, .ref o2, .ref o3, .ref o4, .ref o5, .int 0, .ref o6])), (g0, .inr (8, [.ref g1, .ref g2, .ref g3, .ref g4, .ref g5, .ref g6, .int 0, .int 0, .int 0, .int 0])), (u0, .inl (cL, 1, .inr (.inl fo)))] sz) := by
  refine va_MetW (cc := cL_blunder) (maxL := 5) (ret := (some .int)) (by decide +kernel) rfl ?_
  intro p e s m args below meth c s₁ B hml hv
  obtain ⟨rfl, hsz, hP, hK, hD0, hE⟩ := hv
  have hx := B.exec
  have hb := B.bytes
  have hr := B.returns
  have hts := atoms_spec (ws := wm_c_L_blunder) B.pre
  have hown : s.vm.findClass RL = some m.cls := findClass_of_methodNamed B.named
  have hlocks := B.notSynchronized
  have htb : c.exceptionTable.toList = tableOf [(0, 10, 13, 15), (0, 10, 17, 21), (0, 10, 21, 13), (0, 10, 25, 46)] := vx_table (x := yL_blunder) B (hts _ List.mem_cons_self)
  have iRX5 : ∀ w ∈ u_ws RX5 TX5 9, w ∈ wm_c_L_blunder := by decide +kernel
  have iRX1 : ∀ w ∈ u_ws RX1 TX1 10, w ∈ wm_c_L_blunder := by decide +kernel
  subst hsz
  have hD := hD0.self (sz := s.heap.size)
  generalize hAe : va_A [(h0, .inr (12, [.ref o0, .int 0, .ref g0, .ref o2, .ref o3, .ref o4, .ref o5, .int 0, .ref o6])), (g0, .inr (8, [.ref g1, .ref g2, .ref g3, .ref g4, .ref g5, .ref g6, .int 0, .int 0, .int 0, .int 0])), (u0, .inl (cL, 1, .inr (.inl fo)))] s.heap.size = A at hD hE ⊢
  have hA : ∀ q : Nat, s.heap.size ≤ q → A q := fun q h => by rw [← hAe]; exact Or.inr h
  have hS : va_S A s.heap s.heap [] := va_S.rf
  have hl := lv_entry ([.ref h0, .int p0, .int p1, .ref u0]) (n := 5) (Nat.le_of_ble_eq_true rfl)
  rw [lg_entry_eq]
  generalize (lg_sl ([.ref h0, .int p0, .int p1, .ref u0]) ++ List.replicate (5 - (lg_sl ([.ref h0, .int p0, .int p1, .ref u0])).length) Slot.unset).toArray = ls at hl ⊢
  have hl : lv_has ls 5 [(0, .ref h0), (1, .int p0), (2, .int p1), (3, .ref u0)] := hl
  refine lv_aload_n hx hb dL_blunder_0 rfl (lv_at hl 3 rfl) ?_
  refine lv_iconst (v := 0) hx hb dL_blunder_1 (by decide) ?_
  refine lv_aload_n hx hb dL_blunder_2 rfl (lv_at hl 0 rfl) ?_
  refine lv_iload_n hx hb dL_blunder_3 rfl (lv_at hl 1 rfl) ?_
  refine lv_iload_n hx hb dL_blunder_4 rfl (lv_at hl 2 rfl) ?_
  have hS0 := hS
  have hFc := va_free (wc := [(h0, .inr (12, [.ref o0, .int 0, .ref g0, .ref o2, .ref o3, .ref o4, .ref o5, .int 0, .ref o6])), (g0, .inr (8, [.ref g1, .ref g2, .ref g3, .ref g4, .ref g5, .ref g6, .int 0, .int 0, .int 0, .int 0]))]) hD hS hA [0, 1] rfl
  refine vx_calli (vx_runV (As := [.int p0, .int p1]) (rest := [.int 0, .ref u0]) ⟨hx, hb, hml, hown, hts⟩ (c_X5_blunder l hl0 κ D (s.heap).size (h0) (o0) (g0) (o2) (o3) (o4) (o5) (o6) (g1) (g2) (g3) (g4) (g5) (g6) (p0) (p1) ) (cwV 2 hts gd_c_L_blunder_5 rfl rfl rfl (by decide +kernel) ⟨(Nat.le_of_ble_eq_true rfl), (Nat.le_of_ble_eq_true rfl)⟩) (preV hE hK hP hD hS hA [0, 1] rfl (by decide) [] rfl (va_recv hK hP (ci := 12) (q0 := 0) rfl rfl)) rfl rfl hl.1 rfl (lv_room (Nat.le_of_ble_eq_true rfl)) dL_blunder_5 ⟨(Nat.le_of_ble_eq_true rfl), (Nat.le_of_ble_eq_true rfl)⟩) hS (fun q _ h => hFc q h) hFc (fun q _ h => hFc q h) (fun E9 ce q9 u9 t H1 locs ht hvm _ hB hz1 hk1 hS hce hcv hcl => ?_) (fun _ _ _ _ _ _ _ hw => hw.elim)
  obtain ⟨rfl, hB⟩ := hB
  obtain ⟨hP, hD, hK⟩ := jn (wc := [(h0, .inr (12, [.ref o0, .int 0, .ref g0, .ref o2, .ref o3, .ref o4, .ref o5, .int 0, .ref o6])), (g0, .inr (8, [.ref g1, .ref g2, .ref g3, .ref g4, .ref g5, .ref g6, .int 0, .int 0, .int 0, .int 0]))]) (wr := [(u0, .inl (cL, 1, .inr (.inl fo)))]) (w1 := [(h0, .inr (12, [.ref o0, .int 0, .ref g0, .ref o2, .ref o3, .ref o4, .ref o5, .int 0, .ref o6])), (g0, .inr (8, [.ref g1, .ref g2, .ref g3, .ref g4, .ref g5, .ref g6, .int 0, .int 0, .int 0, .int 0]))]) (t1 := []) hP hD hK hS0 hA [0, 1] [2] rfl rfl (by decide) (by decide) ht hvm hk1 hB
  generalize H1 = H at hP hS hce ⊢
  have hP : va_P D vwCl ([(u0, .inl (cL, 1, .inr (.inl fo))), (h0, .inr (12, [.ref o0, .int 0, .ref g0, .ref o2, .ref o3, .ref o4, .ref o5, .int 0, .ref o6])), (g0, .inr (8, [.ref g1, .ref g2, .ref g3, .ref g4, .ref g5, .ref g6, .int 0, .int 0, .int 0, .int 0]))]) H := hP
  have hD : va_D A ([(u0, .inl (cL, 1, .inr (.inl fo))), (h0, .inr (12, [.ref o0, .int 0, .ref g0, .ref o2, .ref o3, .ref o4, .ref o5, .int 0, .ref o6])), (g0, .inr (8, [.ref g1, .ref g2, .ref g3, .ref g4, .ref g5, .ref g6, .int 0, .int 0, .int 0, .int 0]))]) := hD
  have hK : va_K D vwCl [(cL, .long)] s := hK
  refine vx_widen (k := 1) (n := 6) (Nat.le_of_ble_eq_true rfl) (Nat.le_of_ble_eq_true rfl) ?_
  refine vx_catch (E := "java/lang/IllegalStateException") (name := "java/lang/IllegalStateException") hown [] ⟨0, 10, 13, 15⟩ [⟨0, 10, 17, 21⟩, ⟨0, 10, 21, 13⟩, ⟨0, 10, 25, 46⟩] htb (fun z hz => absurd hz List.not_mem_nil) (by decide) (by decide) (hts (.classLink RL 15 "java/lang/IllegalStateException") (by decide +kernel)) (va_Nw.use rfl hE.ca1) hce hcv hcl ?_
  refine W.eq (g2 := F0 m 13 ls [.ref q9]) rfl ?_
  refine lv_astore (lv' := [(4, .ref q9), (0, .ref h0), (1, .int p0), (2, .int p1), (3, .ref u0)]) hx hb dL_blunder_13 hl (by decide) rfl (fun ls hl => ?_)
  refine lv_iconst (v := 1) hx hb dL_blunder_15 (by decide) ?_
  refine W.widen (k := 1) (n := 6) (Nat.le_of_ble_eq_true rfl) (Nat.le_of_ble_eq_true rfl) ?_
  exact W.iret (v := 1) hx hb hr (fun t ht hW => ⟨⟨1, (), rfl, rfl, PB.at hP hK hD hW.alike ht [] rfl (by decide) [] rfl⟩, hS.F ht⟩) hS.2.2 dL_blunder_16

def wm_c_L_isPuzzle : List Cond := .codeWith yL_isPuzzle cL_isPuzzle 4 (some .int) [(0, 16, 19, 15), (0, 16, 22, 13)] :: ([.code yX5_isPuzzle cX5_isPuzzle 2 (some .boolean), .code yX5_needGameOn cX5_needGameOn 1 none, .fieldLink RX5 19 "Sowingcourt" "game" "LSowingcourt$Game;", .fieldLink RX5 179 "Sowingcourt$Game" "begun" "Z", .classLink RX5 162 "java/lang/IllegalStateException", .initialized "java/lang/IllegalStateException", .methodLink RX5 138 yX5_needGameOn, .instanceMethod yX5_needGameOn, .selects RX5 yX5_needGameOn yX5_needGameOn, .initialized RX5, .methodLink RL 108 yX5_isPuzzle, .instanceMethod yX5_isPuzzle, .selects RX5 yX5_isPuzzle yX5_isPuzzle, .classLink RL 15 "java/lang/IllegalStateException"] ++ wsX50 ++ wsX10 ++ (vx_atS RX5 166 "java/lang/IllegalStateException" supX).filter goodWord)
set_option maxRecDepth 20000 in
theorem gd_c_L_isPuzzle_4 : GoodIn wm_c_L_isPuzzle (wsV RL 108 RX5 yX5_isPuzzle wm_c_X5_isPuzzle) := goodIn_of _ (by decide +kernel)
set_option maxHeartbeats 4000000 in
set_option maxRecDepth 100000 in
theorem c_L_isPuzzle (l : Launch) (hl0 : l.stackTraces = false) (κ : Nat → Nat) (D : va_G) (sz : Nat) (h0 : Nat) (o0 : Nat) (g0 : Nat) (o2 : Nat) (o3 : Nat) (o4 : Nat) (o5 : Nat) (o6 : Nat) (g1 : Nat) (g2 : Nat) (g3 : Nat) (g4 : Nat) (g5 : Nat) (g6 : Nat) (p0 : Int32) (u0 : Nat) (cL : ClassId) (fo : Nat → Int64)  : Met l yL_isPuzzle wm_c_L_isPuzzle ({ frames := 13, cells := 1, slots := 6, locals := 500 }) (va_Pc [.ref h0, .int p0, .ref u0] (PC κ D [(cL, .long)] [(h0, .inr (12, [.ref o0, .int 0, .ref g0, .ref o2, .ref o3, .ref o4, .ref o5, .int 0, .ref o6])), (g0, .inr (8, [.ref g1, .ref g2, .ref g3, .ref g4, .ref g5, .ref g6, .int 0, .int 0, .int 0, .int 0])), (u0, .inl (cL, 1, .inr (.inl fo)))] sz)) (va_Qi (fun (r : Int32) (_ : Unit) => r = 1) (fun _ t => PB D [] [] (va_A [(h0, .inr (12, [.ref o0, .int 0, .ref g0, .ref o2, .ref o3, .ref o4, .ref o5, .int 0, .ref o6])), (g0, .inr (8, [.ref g1, .ref g2, .ref g3, .ref g4, .ref g5, .ref g6, .int 0, .int 0, .int 0, .int 0])), (u0, .inl (cL, 1, .inr (.inl fo)))] sz) t) (va_A [(h0, .inr (12, [.ref o0, .int 0, .ref g0, .ref o2, .ref o3, .ref o4, .ref o5, .int 0, .ref o6])), (g0, .inr (8, [.ref g1, .ref g2, .ref g3, .ref g4, .ref g5, .ref g6, .int 0, .int 0, .int 0, .int 0])), (u0, .inl (cL, 1, .inr (.inl fo)))] sz)) 1 6 (va_A [(h0, .inr (12, [.ref o0, .int 0, .ref g0, .ref o2, .ref o3, .ref o4, .ref o5, .int 0, .ref o6])), (g0, .inr (8, [.ref g1, .ref g2, .ref g3, .ref g4, .ref g5, .ref g6, .int 0, .int 0, .int 0, .int 0])), (u0, .inl (cL, 1, .inr (.inl fo)))] sz) := by
  refine va_MetW (cc := cL_isPuzzle) (maxL := 4) (ret := (some .int)) (by decide +kernel) rfl ?_
  intro p e s m args below meth c s₁ B hml hv
  obtain ⟨rfl, hsz, hP, hK, hD0, hE⟩ := hv
  have hx := B.exec
  have hb := B.bytes
  have hr := B.returns
  have hts := atoms_spec (ws := wm_c_L_isPuzzle) B.pre
  have hown : s.vm.findClass RL = some m.cls := findClass_of_methodNamed B.named
  have hlocks := B.notSynchronized
  have htb : c.exceptionTable.toList = tableOf [(0, 16, 19, 15), (0, 16, 22, 13)] := vx_table (x := yL_isPuzzle) B (hts _ List.mem_cons_self)
  have iRX5 : ∀ w ∈ u_ws RX5 TX5 9, w ∈ wm_c_L_isPuzzle := by decide +kernel
  have iRX1 : ∀ w ∈ u_ws RX1 TX1 10, w ∈ wm_c_L_isPuzzle := by decide +kernel
  subst hsz
  have hD := hD0.self (sz := s.heap.size)
  generalize hAe : va_A [(h0, .inr (12, [.ref o0, .int 0, .ref g0, .ref o2, .ref o3, .ref o4, .ref o5, .int 0, .ref o6])), (g0, .inr (8, [.ref g1, .ref g2, .ref g3, .ref g4, .ref g5, .ref g6, .int 0, .int 0, .int 0, .int 0])), (u0, .inl (cL, 1, .inr (.inl fo)))] s.heap.size = A at hD hE ⊢
  have hA : ∀ q : Nat, s.heap.size ≤ q → A q := fun q h => by rw [← hAe]; exact Or.inr h
  have hS : va_S A s.heap s.heap [] := va_S.rf
  have hl := lv_entry ([.ref h0, .int p0, .ref u0]) (n := 4) (Nat.le_of_ble_eq_true rfl)
  rw [lg_entry_eq]
  generalize (lg_sl ([.ref h0, .int p0, .ref u0]) ++ List.replicate (4 - (lg_sl ([.ref h0, .int p0, .ref u0])).length) Slot.unset).toArray = ls at hl ⊢
  have hl : lv_has ls 4 [(0, .ref h0), (1, .int p0), (2, .ref u0)] := hl
  refine lv_aload_n hx hb dL_isPuzzle_0 rfl (lv_at hl 2 rfl) ?_
  refine lv_iconst (v := 0) hx hb dL_isPuzzle_1 (by decide) ?_
  refine lv_aload_n hx hb dL_isPuzzle_2 rfl (lv_at hl 0 rfl) ?_
  refine lv_iload_n hx hb dL_isPuzzle_3 rfl (lv_at hl 1 rfl) ?_
  have hS0 := hS
  have hFc := va_free (wc := [(h0, .inr (12, [.ref o0, .int 0, .ref g0, .ref o2, .ref o3, .ref o4, .ref o5, .int 0, .ref o6])), (g0, .inr (8, [.ref g1, .ref g2, .ref g3, .ref g4, .ref g5, .ref g6, .int 0, .int 0, .int 0, .int 0]))]) hD hS hA [0, 1] rfl
  refine vx_calli (vx_runV (As := [.int p0]) (rest := [.int 0, .ref u0]) ⟨hx, hb, hml, hown, hts⟩ (c_X5_isPuzzle l hl0 κ D (s.heap).size (h0) (o0) (g0) (o2) (o3) (o4) (o5) (o6) (g1) (g2) (g3) (g4) (g5) (g6) (p0) ) (cwV 1 hts gd_c_L_isPuzzle_4 rfl rfl rfl (by decide +kernel) ⟨(Nat.le_of_ble_eq_true rfl), (Nat.le_of_ble_eq_true rfl)⟩) (preV hE hK hP hD hS hA [0, 1] rfl (by decide) [] rfl (va_recv hK hP (ci := 12) (q0 := 0) rfl rfl)) rfl rfl hl.1 rfl (lv_room (Nat.le_of_ble_eq_true rfl)) dL_isPuzzle_4 ⟨(Nat.le_of_ble_eq_true rfl), (Nat.le_of_ble_eq_true rfl)⟩) hS (fun q _ h => hFc q h) hFc (fun q _ h => hFc q h) (fun E9 ce q9 u9 t H1 locs ht hvm _ hB hz1 hk1 hS hce hcv hcl => ?_) (fun _ _ _ _ _ _ _ hw => hw.elim)
  obtain ⟨rfl, hB⟩ := hB
  obtain ⟨hP, hD, hK⟩ := jn (wc := [(h0, .inr (12, [.ref o0, .int 0, .ref g0, .ref o2, .ref o3, .ref o4, .ref o5, .int 0, .ref o6])), (g0, .inr (8, [.ref g1, .ref g2, .ref g3, .ref g4, .ref g5, .ref g6, .int 0, .int 0, .int 0, .int 0]))]) (wr := [(u0, .inl (cL, 1, .inr (.inl fo)))]) (w1 := [(h0, .inr (12, [.ref o0, .int 0, .ref g0, .ref o2, .ref o3, .ref o4, .ref o5, .int 0, .ref o6])), (g0, .inr (8, [.ref g1, .ref g2, .ref g3, .ref g4, .ref g5, .ref g6, .int 0, .int 0, .int 0, .int 0]))]) (t1 := []) hP hD hK hS0 hA [0, 1] [2] rfl rfl (by decide) (by decide) ht hvm hk1 hB
  generalize H1 = H at hP hS hce ⊢
  have hP : va_P D vwCl ([(u0, .inl (cL, 1, .inr (.inl fo))), (h0, .inr (12, [.ref o0, .int 0, .ref g0, .ref o2, .ref o3, .ref o4, .ref o5, .int 0, .ref o6])), (g0, .inr (8, [.ref g1, .ref g2, .ref g3, .ref g4, .ref g5, .ref g6, .int 0, .int 0, .int 0, .int 0]))]) H := hP
  have hD : va_D A ([(u0, .inl (cL, 1, .inr (.inl fo))), (h0, .inr (12, [.ref o0, .int 0, .ref g0, .ref o2, .ref o3, .ref o4, .ref o5, .int 0, .ref o6])), (g0, .inr (8, [.ref g1, .ref g2, .ref g3, .ref g4, .ref g5, .ref g6, .int 0, .int 0, .int 0, .int 0]))]) := hD
  have hK : va_K D vwCl [(cL, .long)] s := hK
  refine vx_widen (k := 1) (n := 6) (Nat.le_of_ble_eq_true rfl) (Nat.le_of_ble_eq_true rfl) ?_
  refine vx_catch (E := "java/lang/IllegalStateException") (name := "java/lang/IllegalStateException") hown [] ⟨0, 16, 19, 15⟩ [⟨0, 16, 22, 13⟩] htb (fun z hz => absurd hz List.not_mem_nil) (by decide) (by decide) (hts (.classLink RL 15 "java/lang/IllegalStateException") (by decide +kernel)) (va_Nw.use rfl hE.ca1) hce hcv hcl ?_
  refine W.eq (g2 := F0 m 19 ls [.ref q9]) rfl ?_
  refine lv_astore_n (lv' := [(3, .ref q9), (0, .ref h0), (1, .int p0), (2, .ref u0)]) hx hb dL_isPuzzle_19 rfl hl (by decide) rfl (fun ls hl => ?_)
  refine lv_iconst (v := 1) hx hb dL_isPuzzle_20 (by decide) ?_
  refine W.widen (k := 1) (n := 6) (Nat.le_of_ble_eq_true rfl) (Nat.le_of_ble_eq_true rfl) ?_
  exact W.iret (v := 1) hx hb hr (fun t ht hW => ⟨⟨1, (), rfl, rfl, PB.at hP hK hD hW.alike ht [] rfl (by decide) [] rfl⟩, hS.F ht⟩) hS.2.2 dL_isPuzzle_21

def wm_c_L_freeShare : List Cond := .codeWith yL_freeShare cL_freeShare 3 (some .int) [(0, 8, 11, 15)] :: ([.code yX5_freeShare cX5_freeShare 3 (some .float), .code yX5_needGameOn cX5_needGameOn 1 none, .fieldLink RX5 19 "Sowingcourt" "game" "LSowingcourt$Game;", .fieldLink RX5 179 "Sowingcourt$Game" "begun" "Z", .classLink RX5 162 "java/lang/IllegalStateException", .initialized "java/lang/IllegalStateException", .methodLink RX5 138 yX5_needGameOn, .instanceMethod yX5_needGameOn, .selects RX5 yX5_needGameOn yX5_needGameOn, .initialized RX5, .methodLink RL 131 yX5_freeShare, .instanceMethod yX5_freeShare, .selects RX5 yX5_freeShare yX5_freeShare, .classLink RL 15 "java/lang/IllegalStateException"] ++ wsX50 ++ wsX10 ++ (vx_atS RX5 166 "java/lang/IllegalStateException" supX).filter goodWord)
set_option maxRecDepth 20000 in
theorem gd_c_L_freeShare_3 : GoodIn wm_c_L_freeShare (wsV RL 131 RX5 yX5_freeShare wm_c_X5_freeShare) := goodIn_of _ (by decide +kernel)
set_option maxHeartbeats 4000000 in
set_option maxRecDepth 100000 in
theorem c_L_freeShare (l : Launch) (hl0 : l.stackTraces = false) (κ : Nat → Nat) (D : va_G) (sz : Nat) (h0 : Nat) (o0 : Nat) (g0 : Nat) (o2 : Nat) (o3 : Nat) (o4 : Nat) (o5 : Nat) (o6 : Nat) (g1 : Nat) (g2 : Nat) (g3 : Nat) (g4 : Nat) (g5 : Nat) (g6 : Nat) (u0 : Nat) (cL : ClassId) (fo : Nat → UInt64)  : Met l yL_freeShare wm_c_L_freeShare ({ frames := 13, cells := 1, slots := 6, locals := 500 }) (va_Pc [.ref h0, .ref u0] (PC κ D [(cL, .double)] [(h0, .inr (12, [.ref o0, .int 0, .ref g0, .ref o2, .ref o3, .ref o4, .ref o5, .int 0, .ref o6])), (g0, .inr (8, [.ref g1, .ref g2, .ref g3, .ref g4, .ref g5, .ref g6, .int 0, .int 0, .int 0, .int 0])), (u0, .inl (cL, 1, .inr (.inr (.inr (.inl fo)))))] sz)) (va_Qi (fun (r : Int32) (_ : Unit) => r = 1) (fun _ t => PB D [] [] (va_A [(h0, .inr (12, [.ref o0, .int 0, .ref g0, .ref o2, .ref o3, .ref o4, .ref o5, .int 0, .ref o6])), (g0, .inr (8, [.ref g1, .ref g2, .ref g3, .ref g4, .ref g5, .ref g6, .int 0, .int 0, .int 0, .int 0])), (u0, .inl (cL, 1, .inr (.inr (.inr (.inl fo)))))] sz) t) (va_A [(h0, .inr (12, [.ref o0, .int 0, .ref g0, .ref o2, .ref o3, .ref o4, .ref o5, .int 0, .ref o6])), (g0, .inr (8, [.ref g1, .ref g2, .ref g3, .ref g4, .ref g5, .ref g6, .int 0, .int 0, .int 0, .int 0])), (u0, .inl (cL, 1, .inr (.inr (.inr (.inl fo)))))] sz)) 1 6 (va_A [(h0, .inr (12, [.ref o0, .int 0, .ref g0, .ref o2, .ref o3, .ref o4, .ref o5, .int 0, .ref o6])), (g0, .inr (8, [.ref g1, .ref g2, .ref g3, .ref g4, .ref g5, .ref g6, .int 0, .int 0, .int 0, .int 0])), (u0, .inl (cL, 1, .inr (.inr (.inr (.inl fo)))))] sz) := by
  refine va_MetW (cc := cL_freeShare) (maxL := 3) (ret := (some .int)) (by decide +kernel) rfl ?_
  intro p e s m args below meth c s₁ B hml hv
  obtain ⟨rfl, hsz, hP, hK, hD0, hE⟩ := hv
  have hx := B.exec
  have hb := B.bytes
  have hr := B.returns
  have hts := atoms_spec (ws := wm_c_L_freeShare) B.pre
  have hown : s.vm.findClass RL = some m.cls := findClass_of_methodNamed B.named
  have hlocks := B.notSynchronized
  have htb : c.exceptionTable.toList = tableOf [(0, 8, 11, 15)] := vx_table (x := yL_freeShare) B (hts _ List.mem_cons_self)
  have iRX5 : ∀ w ∈ u_ws RX5 TX5 9, w ∈ wm_c_L_freeShare := by decide +kernel
  have iRX1 : ∀ w ∈ u_ws RX1 TX1 10, w ∈ wm_c_L_freeShare := by decide +kernel
  subst hsz
  have hD := hD0.self (sz := s.heap.size)
  generalize hAe : va_A [(h0, .inr (12, [.ref o0, .int 0, .ref g0, .ref o2, .ref o3, .ref o4, .ref o5, .int 0, .ref o6])), (g0, .inr (8, [.ref g1, .ref g2, .ref g3, .ref g4, .ref g5, .ref g6, .int 0, .int 0, .int 0, .int 0])), (u0, .inl (cL, 1, .inr (.inr (.inr (.inl fo)))))] s.heap.size = A at hD hE ⊢
  have hA : ∀ q : Nat, s.heap.size ≤ q → A q := fun q h => by rw [← hAe]; exact Or.inr h
  have hS : va_S A s.heap s.heap [] := va_S.rf
  have hl := lv_entry ([.ref h0, .ref u0]) (n := 3) (Nat.le_of_ble_eq_true rfl)
  rw [lg_entry_eq]
  generalize (lg_sl ([.ref h0, .ref u0]) ++ List.replicate (3 - (lg_sl ([.ref h0, .ref u0])).length) Slot.unset).toArray = ls at hl ⊢
  have hl : lv_has ls 3 [(0, .ref h0), (1, .ref u0)] := hl
  refine lv_aload_n hx hb dL_freeShare_0 rfl (lv_at hl 1 rfl) ?_
  refine lv_iconst (v := 0) hx hb dL_freeShare_1 (by decide) ?_
  refine lv_aload_n hx hb dL_freeShare_2 rfl (lv_at hl 0 rfl) ?_
  have hS0 := hS
  have hFc := va_free (wc := [(h0, .inr (12, [.ref o0, .int 0, .ref g0, .ref o2, .ref o3, .ref o4, .ref o5, .int 0, .ref o6])), (g0, .inr (8, [.ref g1, .ref g2, .ref g3, .ref g4, .ref g5, .ref g6, .int 0, .int 0, .int 0, .int 0]))]) hD hS hA [0, 1] rfl
  refine vx_callf (vx_runV (As := []) (rest := [.int 0, .ref u0]) ⟨hx, hb, hml, hown, hts⟩ (c_X5_freeShare l hl0 κ D (s.heap).size (h0) (o0) (g0) (o2) (o3) (o4) (o5) (o6) (g1) (g2) (g3) (g4) (g5) (g6) ) (cwV 0 hts gd_c_L_freeShare_3 rfl rfl rfl (by decide +kernel) ⟨(Nat.le_of_ble_eq_true rfl), (Nat.le_of_ble_eq_true rfl)⟩) (preV hE hK hP hD hS hA [0, 1] rfl (by decide) [] rfl (va_recv hK hP (ci := 12) (q0 := 0) rfl rfl)) rfl rfl hl.1 rfl (lv_room (Nat.le_of_ble_eq_true rfl)) dL_freeShare_3 ⟨(Nat.le_of_ble_eq_true rfl), (Nat.le_of_ble_eq_true rfl)⟩) hS (fun q _ h => hFc q h) hFc (fun q _ h => hFc q h) (fun E9 ce q9 u9 t H1 locs ht hvm _ hB hz1 hk1 hS hce hcv hcl => ?_) (fun _ _ _ _ _ _ _ hw => hw.elim)
  obtain ⟨rfl, hB⟩ := hB
  obtain ⟨hP, hD, hK⟩ := jn (wc := [(h0, .inr (12, [.ref o0, .int 0, .ref g0, .ref o2, .ref o3, .ref o4, .ref o5, .int 0, .ref o6])), (g0, .inr (8, [.ref g1, .ref g2, .ref g3, .ref g4, .ref g5, .ref g6, .int 0, .int 0, .int 0, .int 0]))]) (wr := [(u0, .inl (cL, 1, .inr (.inr (.inr (.inl fo)))))]) (w1 := [(h0, .inr (12, [.ref o0, .int 0, .ref g0, .ref o2, .ref o3, .ref o4, .ref o5, .int 0, .ref o6])), (g0, .inr (8, [.ref g1, .ref g2, .ref g3, .ref g4, .ref g5, .ref g6, .int 0, .int 0, .int 0, .int 0]))]) (t1 := []) hP hD hK hS0 hA [0, 1] [2] rfl rfl (by decide) (by decide) ht hvm hk1 hB
  generalize H1 = H at hP hS hce ⊢
  have hP : va_P D vwCl ([(u0, .inl (cL, 1, .inr (.inr (.inr (.inl fo))))), (h0, .inr (12, [.ref o0, .int 0, .ref g0, .ref o2, .ref o3, .ref o4, .ref o5, .int 0, .ref o6])), (g0, .inr (8, [.ref g1, .ref g2, .ref g3, .ref g4, .ref g5, .ref g6, .int 0, .int 0, .int 0, .int 0]))]) H := hP
  have hD : va_D A ([(u0, .inl (cL, 1, .inr (.inr (.inr (.inl fo))))), (h0, .inr (12, [.ref o0, .int 0, .ref g0, .ref o2, .ref o3, .ref o4, .ref o5, .int 0, .ref o6])), (g0, .inr (8, [.ref g1, .ref g2, .ref g3, .ref g4, .ref g5, .ref g6, .int 0, .int 0, .int 0, .int 0]))]) := hD
  have hK : va_K D vwCl [(cL, .double)] s := hK
  refine vx_widen (k := 1) (n := 6) (Nat.le_of_ble_eq_true rfl) (Nat.le_of_ble_eq_true rfl) ?_
  refine vx_catch (E := "java/lang/IllegalStateException") (name := "java/lang/IllegalStateException") hown [] ⟨0, 8, 11, 15⟩ [] htb (fun z hz => absurd hz List.not_mem_nil) (by decide) (by decide) (hts (.classLink RL 15 "java/lang/IllegalStateException") (by decide +kernel)) (va_Nw.use rfl hE.ca1) hce hcv hcl ?_
  refine W.eq (g2 := F0 m 11 ls [.ref q9]) rfl ?_
  refine lv_astore_n (lv' := [(2, .ref q9), (0, .ref h0), (1, .ref u0)]) hx hb dL_freeShare_11 rfl hl (by decide) rfl (fun ls hl => ?_)
  refine lv_iconst (v := 1) hx hb dL_freeShare_12 (by decide) ?_
  refine W.widen (k := 1) (n := 6) (Nat.le_of_ble_eq_true rfl) (Nat.le_of_ble_eq_true rfl) ?_
  exact W.iret (v := 1) hx hb hr (fun t ht hW => ⟨⟨1, (), rfl, rfl, PB.at hP hK hD hW.alike ht [] rfl (by decide) [] rfl⟩, hS.F ht⟩) hS.2.2 dL_freeShare_13

def wm_c_L_seeds : List Cond := .codeWith yL_seeds cL_seeds 4 (some .int) [(0, 9, 12, 15), (0, 9, 15, 21)] :: ([.code yX5_seeds cX5_seeds 2 (some .int), .code yX5_needBegun cX5_needBegun 1 none, .fieldLink RX5 19 "Sowingcourt" "game" "LSowingcourt$Game;", .fieldLink RX5 179 "Sowingcourt$Game" "begun" "Z", .classLink RX5 162 "java/lang/IllegalStateException", .initialized "java/lang/IllegalStateException", .methodLink RX5 187 yX5_needBegun, .instanceMethod yX5_needBegun, .selects RX5 yX5_needBegun yX5_needBegun, .initialized RX5, .methodLink RL 62 yX5_seeds, .instanceMethod yX5_seeds, .selects RX5 yX5_seeds yX5_seeds, .classLink RL 15 "java/lang/IllegalStateException"] ++ wsX50 ++ wsX10 ++ (vx_atS RX5 166 "java/lang/IllegalStateException" supX).filter goodWord)
set_option maxRecDepth 20000 in
theorem gd_c_L_seeds_4 : GoodIn wm_c_L_seeds (wsV RL 62 RX5 yX5_seeds wm_c_X5_seeds) := goodIn_of _ (by decide +kernel)
set_option maxHeartbeats 4000000 in
set_option maxRecDepth 100000 in
theorem c_L_seeds (l : Launch) (hl0 : l.stackTraces = false) (κ : Nat → Nat) (D : va_G) (sz : Nat) (h0 : Nat) (o0 : Nat) (g0 : Nat) (o2 : Nat) (o3 : Nat) (o4 : Nat) (o5 : Nat) (o6 : Nat) (g1 : Nat) (g2 : Nat) (g3 : Nat) (g4 : Nat) (g5 : Nat) (g6 : Nat) (p0 : Int32) (u0 : Nat) (cL : ClassId) (fo : Nat → Int64)  : Met l yL_seeds wm_c_L_seeds ({ frames := 13, cells := 1, slots := 6, locals := 500 }) (va_Pc [.ref h0, .int p0, .ref u0] (PC κ D [(cL, .long)] [(h0, .inr (12, [.ref o0, .int 0, .ref g0, .ref o2, .ref o3, .ref o4, .ref o5, .int 0, .ref o6])), (g0, .inr (8, [.ref g1, .ref g2, .ref g3, .ref g4, .ref g5, .ref g6, .int 0, .int 0, .int 0, .int 0])), (u0, .inl (cL, 1, .inr (.inl fo)))] sz)) (va_Qi (fun (r : Int32) (_ : Unit) => r = 1) (fun _ t => PB D [] [] (va_A [(h0, .inr (12, [.ref o0, .int 0, .ref g0, .ref o2, .ref o3, .ref o4, .ref o5, .int 0, .ref o6])), (g0, .inr (8, [.ref g1, .ref g2, .ref g3, .ref g4, .ref g5, .ref g6, .int 0, .int 0, .int 0, .int 0])), (u0, .inl (cL, 1, .inr (.inl fo)))] sz) t) (va_A [(h0, .inr (12, [.ref o0, .int 0, .ref g0, .ref o2, .ref o3, .ref o4, .ref o5, .int 0, .ref o6])), (g0, .inr (8, [.ref g1, .ref g2, .ref g3, .ref g4, .ref g5, .ref g6, .int 0, .int 0, .int 0, .int 0])), (u0, .inl (cL, 1, .inr (.inl fo)))] sz)) 1 6 (va_A [(h0, .inr (12, [.ref o0, .int 0, .ref g0, .ref o2, .ref o3, .ref o4, .ref o5, .int 0, .ref o6])), (g0, .inr (8, [.ref g1, .ref g2, .ref g3, .ref g4, .ref g5, .ref g6, .int 0, .int 0, .int 0, .int 0])), (u0, .inl (cL, 1, .inr (.inl fo)))] sz) := by
  refine va_MetW (cc := cL_seeds) (maxL := 4) (ret := (some .int)) (by decide +kernel) rfl ?_
  intro p e s m args below meth c s₁ B hml hv
  obtain ⟨rfl, hsz, hP, hK, hD0, hE⟩ := hv
  have hx := B.exec
  have hb := B.bytes
  have hr := B.returns
  have hts := atoms_spec (ws := wm_c_L_seeds) B.pre
  have hown : s.vm.findClass RL = some m.cls := findClass_of_methodNamed B.named
  have hlocks := B.notSynchronized
  have htb : c.exceptionTable.toList = tableOf [(0, 9, 12, 15), (0, 9, 15, 21)] := vx_table (x := yL_seeds) B (hts _ List.mem_cons_self)
  have iRX5 : ∀ w ∈ u_ws RX5 TX5 9, w ∈ wm_c_L_seeds := by decide +kernel
  have iRX1 : ∀ w ∈ u_ws RX1 TX1 10, w ∈ wm_c_L_seeds := by decide +kernel
  subst hsz
  have hD := hD0.self (sz := s.heap.size)
  generalize hAe : va_A [(h0, .inr (12, [.ref o0, .int 0, .ref g0, .ref o2, .ref o3, .ref o4, .ref o5, .int 0, .ref o6])), (g0, .inr (8, [.ref g1, .ref g2, .ref g3, .ref g4, .ref g5, .ref g6, .int 0, .int 0, .int 0, .int 0])), (u0, .inl (cL, 1, .inr (.inl fo)))] s.heap.size = A at hD hE ⊢
  have hA : ∀ q : Nat, s.heap.size ≤ q → A q := fun q h => by rw [← hAe]; exact Or.inr h
  have hS : va_S A s.heap s.heap [] := va_S.rf
  have hl := lv_entry ([.ref h0, .int p0, .ref u0]) (n := 4) (Nat.le_of_ble_eq_true rfl)
  rw [lg_entry_eq]
  generalize (lg_sl ([.ref h0, .int p0, .ref u0]) ++ List.replicate (4 - (lg_sl ([.ref h0, .int p0, .ref u0])).length) Slot.unset).toArray = ls at hl ⊢
  have hl : lv_has ls 4 [(0, .ref h0), (1, .int p0), (2, .ref u0)] := hl
  refine lv_aload_n hx hb dL_seeds_0 rfl (lv_at hl 2 rfl) ?_
  refine lv_iconst (v := 0) hx hb dL_seeds_1 (by decide) ?_
  refine lv_aload_n hx hb dL_seeds_2 rfl (lv_at hl 0 rfl) ?_
  refine lv_iload_n hx hb dL_seeds_3 rfl (lv_at hl 1 rfl) ?_
  have hS0 := hS
  have hFc := va_free (wc := [(h0, .inr (12, [.ref o0, .int 0, .ref g0, .ref o2, .ref o3, .ref o4, .ref o5, .int 0, .ref o6])), (g0, .inr (8, [.ref g1, .ref g2, .ref g3, .ref g4, .ref g5, .ref g6, .int 0, .int 0, .int 0, .int 0]))]) hD hS hA [0, 1] rfl
  refine vx_calli (vx_runV (As := [.int p0]) (rest := [.int 0, .ref u0]) ⟨hx, hb, hml, hown, hts⟩ (c_X5_seeds l hl0 κ D (s.heap).size (h0) (o0) (g0) (o2) (o3) (o4) (o5) (o6) (g1) (g2) (g3) (g4) (g5) (g6) (p0) ) (cwV 1 hts gd_c_L_seeds_4 rfl rfl rfl (by decide +kernel) ⟨(Nat.le_of_ble_eq_true rfl), (Nat.le_of_ble_eq_true rfl)⟩) (preV hE hK hP hD hS hA [0, 1] rfl (by decide) [] rfl (va_recv hK hP (ci := 12) (q0 := 0) rfl rfl)) rfl rfl hl.1 rfl (lv_room (Nat.le_of_ble_eq_true rfl)) dL_seeds_4 ⟨(Nat.le_of_ble_eq_true rfl), (Nat.le_of_ble_eq_true rfl)⟩) hS (fun q _ h => hFc q h) hFc (fun q _ h => hFc q h) (fun E9 ce q9 u9 t H1 locs ht hvm _ hB hz1 hk1 hS hce hcv hcl => ?_) (fun _ _ _ _ _ _ _ hw => hw.elim)
  obtain ⟨rfl, hB⟩ := hB
  obtain ⟨hP, hD, hK⟩ := jn (wc := [(h0, .inr (12, [.ref o0, .int 0, .ref g0, .ref o2, .ref o3, .ref o4, .ref o5, .int 0, .ref o6])), (g0, .inr (8, [.ref g1, .ref g2, .ref g3, .ref g4, .ref g5, .ref g6, .int 0, .int 0, .int 0, .int 0]))]) (wr := [(u0, .inl (cL, 1, .inr (.inl fo)))]) (w1 := [(h0, .inr (12, [.ref o0, .int 0, .ref g0, .ref o2, .ref o3, .ref o4, .ref o5, .int 0, .ref o6])), (g0, .inr (8, [.ref g1, .ref g2, .ref g3, .ref g4, .ref g5, .ref g6, .int 0, .int 0, .int 0, .int 0]))]) (t1 := []) hP hD hK hS0 hA [0, 1] [2] rfl rfl (by decide) (by decide) ht hvm hk1 hB
  generalize H1 = H at hP hS hce ⊢
  have hP : va_P D vwCl ([(u0, .inl (cL, 1, .inr (.inl fo))), (h0, .inr (12, [.ref o0, .int 0, .ref g0, .ref o2, .ref o3, .ref o4, .ref o5, .int 0, .ref o6])), (g0, .inr (8, [.ref g1, .ref g2, .ref g3, .ref g4, .ref g5, .ref g6, .int 0, .int 0, .int 0, .int 0]))]) H := hP
  have hD : va_D A ([(u0, .inl (cL, 1, .inr (.inl fo))), (h0, .inr (12, [.ref o0, .int 0, .ref g0, .ref o2, .ref o3, .ref o4, .ref o5, .int 0, .ref o6])), (g0, .inr (8, [.ref g1, .ref g2, .ref g3, .ref g4, .ref g5, .ref g6, .int 0, .int 0, .int 0, .int 0]))]) := hD
  have hK : va_K D vwCl [(cL, .long)] s := hK
  refine vx_widen (k := 1) (n := 6) (Nat.le_of_ble_eq_true rfl) (Nat.le_of_ble_eq_true rfl) ?_
  refine vx_catch (E := "java/lang/IllegalStateException") (name := "java/lang/IllegalStateException") hown [] ⟨0, 9, 12, 15⟩ [⟨0, 9, 15, 21⟩] htb (fun z hz => absurd hz List.not_mem_nil) (by decide) (by decide) (hts (.classLink RL 15 "java/lang/IllegalStateException") (by decide +kernel)) (va_Nw.use rfl hE.ca1) hce hcv hcl ?_
  refine W.eq (g2 := F0 m 12 ls [.ref q9]) rfl ?_
  refine lv_astore_n (lv' := [(3, .ref q9), (0, .ref h0), (1, .int p0), (2, .ref u0)]) hx hb dL_seeds_12 rfl hl (by decide) rfl (fun ls hl => ?_)
  refine lv_iconst (v := 1) hx hb dL_seeds_13 (by decide) ?_
  refine W.widen (k := 1) (n := 6) (Nat.le_of_ble_eq_true rfl) (Nat.le_of_ble_eq_true rfl) ?_
  exact W.iret (v := 1) hx hb hr (fun t ht hW => ⟨⟨1, (), rfl, rfl, PB.at hP hK hD hW.alike ht [] rfl (by decide) [] rfl⟩, hS.F ht⟩) hS.2.2 dL_seeds_14

def wm_c_L_store : List Cond := .codeWith yL_store cL_store 4 (some .int) [(0, 9, 12, 15), (0, 9, 15, 21)] :: ([.code yX5_store cX5_store 2 (some .int), .code yX5_needBegun cX5_needBegun 1 none, .fieldLink RX5 19 "Sowingcourt" "game" "LSowingcourt$Game;", .fieldLink RX5 179 "Sowingcourt$Game" "begun" "Z", .classLink RX5 162 "java/lang/IllegalStateException", .initialized "java/lang/IllegalStateException", .methodLink RX5 187 yX5_needBegun, .instanceMethod yX5_needBegun, .selects RX5 yX5_needBegun yX5_needBegun, .initialized RX5, .methodLink RL 65 yX5_store, .instanceMethod yX5_store, .selects RX5 yX5_store yX5_store, .classLink RL 15 "java/lang/IllegalStateException"] ++ wsX50 ++ wsX10 ++ (vx_atS RX5 166 "java/lang/IllegalStateException" supX).filter goodWord)
set_option maxRecDepth 20000 in
theorem gd_c_L_store_4 : GoodIn wm_c_L_store (wsV RL 65 RX5 yX5_store wm_c_X5_store) := goodIn_of _ (by decide +kernel)
set_option maxHeartbeats 4000000 in
set_option maxRecDepth 100000 in
theorem c_L_store (l : Launch) (hl0 : l.stackTraces = false) (κ : Nat → Nat) (D : va_G) (sz : Nat) (h0 : Nat) (o0 : Nat) (g0 : Nat) (o2 : Nat) (o3 : Nat) (o4 : Nat) (o5 : Nat) (o6 : Nat) (g1 : Nat) (g2 : Nat) (g3 : Nat) (g4 : Nat) (g5 : Nat) (g6 : Nat) (p0 : Int32) (u0 : Nat) (cL : ClassId) (fo : Nat → Int64)  : Met l yL_store wm_c_L_store ({ frames := 13, cells := 1, slots := 6, locals := 500 }) (va_Pc [.ref h0, .int p0, .ref u0] (PC κ D [(cL, .long)] [(h0, .inr (12, [.ref o0, .int 0, .ref g0, .ref o2, .ref o3, .ref o4, .ref o5, .int 0, .ref o6])), (g0, .inr (8, [.ref g1, .ref g2, .ref g3, .ref g4, .ref g5, .ref g6, .int 0, .int 0, .int 0, .int 0])), (u0, .inl (cL, 1, .inr (.inl fo)))] sz)) (va_Qi (fun (r : Int32) (_ : Unit) => r = 1) (fun _ t => PB D [] [] (va_A [(h0, .inr (12, [.ref o0, .int 0, .ref g0, .ref o2, .ref o3, .ref o4, .ref o5, .int 0, .ref o6])), (g0, .inr (8, [.ref g1, .ref g2, .ref g3, .ref g4, .ref g5, .ref g6, .int 0, .int 0, .int 0, .int 0])), (u0, .inl (cL, 1, .inr (.inl fo)))] sz) t) (va_A [(h0, .inr (12, [.ref o0, .int 0, .ref g0, .ref o2, .ref o3, .ref o4, .ref o5, .int 0, .ref o6])), (g0, .inr (8, [.ref g1, .ref g2, .ref g3, .ref g4, .ref g5, .ref g6, .int 0, .int 0, .int 0, .int 0])), (u0, .inl (cL, 1, .inr (.inl fo)))] sz)) 1 6 (va_A [(h0, .inr (12, [.ref o0, .int 0, .ref g0, .ref o2, .ref o3, .ref o4, .ref o5, .int 0, .ref o6])), (g0, .inr (8, [.ref g1, .ref g2, .ref g3, .ref g4, .ref g5, .ref g6, .int 0, .int 0, .int 0, .int 0])), (u0, .inl (cL, 1, .inr (.inl fo)))] sz) := by
  refine va_MetW (cc := cL_store) (maxL := 4) (ret := (some .int)) (by decide +kernel) rfl ?_
  intro p e s m args below meth c s₁ B hml hv
  obtain ⟨rfl, hsz, hP, hK, hD0, hE⟩ := hv
  have hx := B.exec
  have hb := B.bytes
  have hr := B.returns
  have hts := atoms_spec (ws := wm_c_L_store) B.pre
  have hown : s.vm.findClass RL = some m.cls := findClass_of_methodNamed B.named
  have hlocks := B.notSynchronized
  have htb : c.exceptionTable.toList = tableOf [(0, 9, 12, 15), (0, 9, 15, 21)] := vx_table (x := yL_store) B (hts _ List.mem_cons_self)
  have iRX5 : ∀ w ∈ u_ws RX5 TX5 9, w ∈ wm_c_L_store := by decide +kernel
  have iRX1 : ∀ w ∈ u_ws RX1 TX1 10, w ∈ wm_c_L_store := by decide +kernel
  subst hsz
  have hD := hD0.self (sz := s.heap.size)
  generalize hAe : va_A [(h0, .inr (12, [.ref o0, .int 0, .ref g0, .ref o2, .ref o3, .ref o4, .ref o5, .int 0, .ref o6])), (g0, .inr (8, [.ref g1, .ref g2, .ref g3, .ref g4, .ref g5, .ref g6, .int 0, .int 0, .int 0, .int 0])), (u0, .inl (cL, 1, .inr (.inl fo)))] s.heap.size = A at hD hE ⊢
  have hA : ∀ q : Nat, s.heap.size ≤ q → A q := fun q h => by rw [← hAe]; exact Or.inr h
  have hS : va_S A s.heap s.heap [] := va_S.rf
  have hl := lv_entry ([.ref h0, .int p0, .ref u0]) (n := 4) (Nat.le_of_ble_eq_true rfl)
  rw [lg_entry_eq]
  generalize (lg_sl ([.ref h0, .int p0, .ref u0]) ++ List.replicate (4 - (lg_sl ([.ref h0, .int p0, .ref u0])).length) Slot.unset).toArray = ls at hl ⊢
  have hl : lv_has ls 4 [(0, .ref h0), (1, .int p0), (2, .ref u0)] := hl
  refine lv_aload_n hx hb dL_store_0 rfl (lv_at hl 2 rfl) ?_
  refine lv_iconst (v := 0) hx hb dL_store_1 (by decide) ?_
  refine lv_aload_n hx hb dL_store_2 rfl (lv_at hl 0 rfl) ?_
  refine lv_iload_n hx hb dL_store_3 rfl (lv_at hl 1 rfl) ?_
  have hS0 := hS
  have hFc := va_free (wc := [(h0, .inr (12, [.ref o0, .int 0, .ref g0, .ref o2, .ref o3, .ref o4, .ref o5, .int 0, .ref o6])), (g0, .inr (8, [.ref g1, .ref g2, .ref g3, .ref g4, .ref g5, .ref g6, .int 0, .int 0, .int 0, .int 0]))]) hD hS hA [0, 1] rfl
  refine vx_calli (vx_runV (As := [.int p0]) (rest := [.int 0, .ref u0]) ⟨hx, hb, hml, hown, hts⟩ (c_X5_store l hl0 κ D (s.heap).size (h0) (o0) (g0) (o2) (o3) (o4) (o5) (o6) (g1) (g2) (g3) (g4) (g5) (g6) (p0) ) (cwV 1 hts gd_c_L_store_4 rfl rfl rfl (by decide +kernel) ⟨(Nat.le_of_ble_eq_true rfl), (Nat.le_of_ble_eq_true rfl)⟩) (preV hE hK hP hD hS hA [0, 1] rfl (by decide) [] rfl (va_recv hK hP (ci := 12) (q0 := 0) rfl rfl)) rfl rfl hl.1 rfl (lv_room (Nat.le_of_ble_eq_true rfl)) dL_store_4 ⟨(Nat.le_of_ble_eq_true rfl), (Nat.le_of_ble_eq_true rfl)⟩) hS (fun q _ h => hFc q h) hFc (fun q _ h => hFc q h) (fun E9 ce q9 u9 t H1 locs ht hvm _ hB hz1 hk1 hS hce hcv hcl => ?_) (fun _ _ _ _ _ _ _ hw => hw.elim)
  obtain ⟨rfl, hB⟩ := hB
  obtain ⟨hP, hD, hK⟩ := jn (wc := [(h0, .inr (12, [.ref o0, .int 0, .ref g0, .ref o2, .ref o3, .ref o4, .ref o5, .int 0, .ref o6])), (g0, .inr (8, [.ref g1, .ref g2, .ref g3, .ref g4, .ref g5, .ref g6, .int 0, .int 0, .int 0, .int 0]))]) (wr := [(u0, .inl (cL, 1, .inr (.inl fo)))]) (w1 := [(h0, .inr (12, [.ref o0, .int 0, .ref g0, .ref o2, .ref o3, .ref o4, .ref o5, .int 0, .ref o6])), (g0, .inr (8, [.ref g1, .ref g2, .ref g3, .ref g4, .ref g5, .ref g6, .int 0, .int 0, .int 0, .int 0]))]) (t1 := []) hP hD hK hS0 hA [0, 1] [2] rfl rfl (by decide) (by decide) ht hvm hk1 hB
  generalize H1 = H at hP hS hce ⊢
  have hP : va_P D vwCl ([(u0, .inl (cL, 1, .inr (.inl fo))), (h0, .inr (12, [.ref o0, .int 0, .ref g0, .ref o2, .ref o3, .ref o4, .ref o5, .int 0, .ref o6])), (g0, .inr (8, [.ref g1, .ref g2, .ref g3, .ref g4, .ref g5, .ref g6, .int 0, .int 0, .int 0, .int 0]))]) H := hP
  have hD : va_D A ([(u0, .inl (cL, 1, .inr (.inl fo))), (h0, .inr (12, [.ref o0, .int 0, .ref g0, .ref o2, .ref o3, .ref o4, .ref o5, .int 0, .ref o6])), (g0, .inr (8, [.ref g1, .ref g2, .ref g3, .ref g4, .ref g5, .ref g6, .int 0, .int 0, .int 0, .int 0]))]) := hD
  have hK : va_K D vwCl [(cL, .long)] s := hK
  refine vx_widen (k := 1) (n := 6) (Nat.le_of_ble_eq_true rfl) (Nat.le_of_ble_eq_true rfl) ?_
  refine vx_catch (E := "java/lang/IllegalStateException") (name := "java/lang/IllegalStateException") hown [] ⟨0, 9, 12, 15⟩ [⟨0, 9, 15, 21⟩] htb (fun z hz => absurd hz List.not_mem_nil) (by decide) (by decide) (hts (.classLink RL 15 "java/lang/IllegalStateException") (by decide +kernel)) (va_Nw.use rfl hE.ca1) hce hcv hcl ?_
  refine W.eq (g2 := F0 m 12 ls [.ref q9]) rfl ?_
  refine lv_astore_n (lv' := [(3, .ref q9), (0, .ref h0), (1, .int p0), (2, .ref u0)]) hx hb dL_store_12 rfl hl (by decide) rfl (fun ls hl => ?_)
  refine lv_iconst (v := 1) hx hb dL_store_13 (by decide) ?_
  refine W.widen (k := 1) (n := 6) (Nat.le_of_ble_eq_true rfl) (Nat.le_of_ble_eq_true rfl) ?_
  exact W.iret (v := 1) hx hb hr (fun t ht hW => ⟨⟨1, (), rfl, rfl, PB.at hP hK hD hW.alike ht [] rfl (by decide) [] rfl⟩, hS.F ht⟩) hS.2.2 dL_store_14

def wm_c_L_isOver : List Cond := .codeWith yL_isOver cL_isOver 3 (some .int) [(0, 15, 18, 15)] :: ([.code yX5_isOver cX5_isOver 1 (some .boolean), .code yX5_needBegun cX5_needBegun 1 none, .fieldLink RX5 19 "Sowingcourt" "game" "LSowingcourt$Game;", .fieldLink RX5 179 "Sowingcourt$Game" "begun" "Z", .classLink RX5 162 "java/lang/IllegalStateException", .initialized "java/lang/IllegalStateException", .methodLink RX5 187 yX5_needBegun, .instanceMethod yX5_needBegun, .selects RX5 yX5_needBegun yX5_needBegun, .initialized RX5, .methodLink RL 71 yX5_isOver, .instanceMethod yX5_isOver, .selects RX5 yX5_isOver yX5_isOver, .classLink RL 15 "java/lang/IllegalStateException"] ++ wsX50 ++ wsX10 ++ (vx_atS RX5 166 "java/lang/IllegalStateException" supX).filter goodWord)
set_option maxRecDepth 20000 in
theorem gd_c_L_isOver_3 : GoodIn wm_c_L_isOver (wsV RL 71 RX5 yX5_isOver wm_c_X5_isOver) := goodIn_of _ (by decide +kernel)
set_option maxHeartbeats 4000000 in
set_option maxRecDepth 100000 in
theorem c_L_isOver (l : Launch) (hl0 : l.stackTraces = false) (κ : Nat → Nat) (D : va_G) (sz : Nat) (h0 : Nat) (o0 : Nat) (g0 : Nat) (o2 : Nat) (o3 : Nat) (o4 : Nat) (o5 : Nat) (o6 : Nat) (g1 : Nat) (g2 : Nat) (g3 : Nat) (g4 : Nat) (g5 : Nat) (g6 : Nat) (u0 : Nat) (cL : ClassId) (fo : Nat → Int64)  : Met l yL_isOver wm_c_L_isOver ({ frames := 13, cells := 1, slots := 6, locals := 500 }) (va_Pc [.ref h0, .ref u0] (PC κ D [(cL, .long)] [(h0, .inr (12, [.ref o0, .int 0, .ref g0, .ref o2, .ref o3, .ref o4, .ref o5, .int 0, .ref o6])), (g0, .inr (8, [.ref g1, .ref g2, .ref g3, .ref g4, .ref g5, .ref g6, .int 0, .int 0, .int 0, .int 0])), (u0, .inl (cL, 1, .inr (.inl fo)))] sz)) (va_Qi (fun (r : Int32) (_ : Unit) => r = 1) (fun _ t => PB D [] [] (va_A [(h0, .inr (12, [.ref o0, .int 0, .ref g0, .ref o2, .ref o3, .ref o4, .ref o5, .int 0, .ref o6])), (g0, .inr (8, [.ref g1, .ref g2, .ref g3, .ref g4, .ref g5, .ref g6, .int 0, .int 0, .int 0, .int 0])), (u0, .inl (cL, 1, .inr (.inl fo)))] sz) t) (va_A [(h0, .inr (12, [.ref o0, .int 0, .ref g0, .ref o2, .ref o3, .ref o4, .ref o5, .int 0, .ref o6])), (g0, .inr (8, [.ref g1, .ref g2, .ref g3, .ref g4, .ref g5, .ref g6, .int 0, .int 0, .int 0, .int 0])), (u0, .inl (cL, 1, .inr (.inl fo)))] sz)) 1 6 (va_A [(h0, .inr (12, [.ref o0, .int 0, .ref g0, .ref o2, .ref o3, .ref o4, .ref o5, .int 0, .ref o6])), (g0, .inr (8, [.ref g1, .ref g2, .ref g3, .ref g4, .ref g5, .ref g6, .int 0, .int 0, .int 0, .int 0])), (u0, .inl (cL, 1, .inr (.inl fo)))] sz) := by
  refine va_MetW (cc := cL_isOver) (maxL := 3) (ret := (some .int)) (by decide +kernel) rfl ?_
  intro p e s m args below meth c s₁ B hml hv
  obtain ⟨rfl, hsz, hP, hK, hD0, hE⟩ := hv
  have hx := B.exec
  have hb := B.bytes
  have hr := B.returns
  have hts := atoms_spec (ws := wm_c_L_isOver) B.pre
  have hown : s.vm.findClass RL = some m.cls := findClass_of_methodNamed B.named
  have hlocks := B.notSynchronized
  have htb : c.exceptionTable.toList = tableOf [(0, 15, 18, 15)] := vx_table (x := yL_isOver) B (hts _ List.mem_cons_self)
  have iRX5 : ∀ w ∈ u_ws RX5 TX5 9, w ∈ wm_c_L_isOver := by decide +kernel
  have iRX1 : ∀ w ∈ u_ws RX1 TX1 10, w ∈ wm_c_L_isOver := by decide +kernel
  subst hsz
  have hD := hD0.self (sz := s.heap.size)
  generalize hAe : va_A [(h0, .inr (12, [.ref o0, .int 0, .ref g0, .ref o2, .ref o3, .ref o4, .ref o5, .int 0, .ref o6])), (g0, .inr (8, [.ref g1, .ref g2, .ref g3, .ref g4, .ref g5, .ref g6, .int 0, .int 0, .int 0, .int 0])), (u0, .inl (cL, 1, .inr (.inl fo)))] s.heap.size = A at hD hE ⊢
  have hA : ∀ q : Nat, s.heap.size ≤ q → A q := fun q h => by rw [← hAe]; exact Or.inr h
  have hS : va_S A s.heap s.heap [] := va_S.rf
  have hl := lv_entry ([.ref h0, .ref u0]) (n := 3) (Nat.le_of_ble_eq_true rfl)
  rw [lg_entry_eq]
  generalize (lg_sl ([.ref h0, .ref u0]) ++ List.replicate (3 - (lg_sl ([.ref h0, .ref u0])).length) Slot.unset).toArray = ls at hl ⊢
  have hl : lv_has ls 3 [(0, .ref h0), (1, .ref u0)] := hl
  refine lv_aload_n hx hb dL_isOver_0 rfl (lv_at hl 1 rfl) ?_
  refine lv_iconst (v := 0) hx hb dL_isOver_1 (by decide) ?_
  refine lv_aload_n hx hb dL_isOver_2 rfl (lv_at hl 0 rfl) ?_
  have hS0 := hS
  have hFc := va_free (wc := [(h0, .inr (12, [.ref o0, .int 0, .ref g0, .ref o2, .ref o3, .ref o4, .ref o5, .int 0, .ref o6])), (g0, .inr (8, [.ref g1, .ref g2, .ref g3, .ref g4, .ref g5, .ref g6, .int 0, .int 0, .int 0, .int 0]))]) hD hS hA [0, 1] rfl
  refine vx_calli (vx_runV (As := []) (rest := [.int 0, .ref u0]) ⟨hx, hb, hml, hown, hts⟩ (c_X5_isOver l hl0 κ D (s.heap).size (h0) (o0) (g0) (o2) (o3) (o4) (o5) (o6) (g1) (g2) (g3) (g4) (g5) (g6) ) (cwV 0 hts gd_c_L_isOver_3 rfl rfl rfl (by decide +kernel) ⟨(Nat.le_of_ble_eq_true rfl), (Nat.le_of_ble_eq_true rfl)⟩) (preV hE hK hP hD hS hA [0, 1] rfl (by decide) [] rfl (va_recv hK hP (ci := 12) (q0 := 0) rfl rfl)) rfl rfl hl.1 rfl (lv_room (Nat.le_of_ble_eq_true rfl)) dL_isOver_3 ⟨(Nat.le_of_ble_eq_true rfl), (Nat.le_of_ble_eq_true rfl)⟩) hS (fun q _ h => hFc q h) hFc (fun q _ h => hFc q h) (fun E9 ce q9 u9 t H1 locs ht hvm _ hB hz1 hk1 hS hce hcv hcl => ?_) (fun _ _ _ _ _ _ _ hw => hw.elim)
  obtain ⟨rfl, hB⟩ := hB
  obtain ⟨hP, hD, hK⟩ := jn (wc := [(h0, .inr (12, [.ref o0, .int 0, .ref g0, .ref o2, .ref o3, .ref o4, .ref o5, .int 0, .ref o6])), (g0, .inr (8, [.ref g1, .ref g2, .ref g3, .ref g4, .ref g5, .ref g6, .int 0, .int 0, .int 0, .int 0]))]) (wr := [(u0, .inl (cL, 1, .inr (.inl fo)))]) (w1 := [(h0, .inr (12, [.ref o0, .int 0, .ref g0, .ref o2, .ref o3, .ref o4, .ref o5, .int 0, .ref o6])), (g0, .inr (8, [.ref g1, .ref g2, .ref g3, .ref g4, .ref g5, .ref g6, .int 0, .int 0, .int 0, .int 0]))]) (t1 := []) hP hD hK hS0 hA [0, 1] [2] rfl rfl (by decide) (by decide) ht hvm hk1 hB
  generalize H1 = H at hP hS hce ⊢
  have hP : va_P D vwCl ([(u0, .inl (cL, 1, .inr (.inl fo))), (h0, .inr (12, [.ref o0, .int 0, .ref g0, .ref o2, .ref o3, .ref o4, .ref o5, .int 0, .ref o6])), (g0, .inr (8, [.ref g1, .ref g2, .ref g3, .ref g4, .ref g5, .ref g6, .int 0, .int 0, .int 0, .int 0]))]) H := hP
  have hD : va_D A ([(u0, .inl (cL, 1, .inr (.inl fo))), (h0, .inr (12, [.ref o0, .int 0, .ref g0, .ref o2, .ref o3, .ref o4, .ref o5, .int 0, .ref o6])), (g0, .inr (8, [.ref g1, .ref g2, .ref g3, .ref g4, .ref g5, .ref g6, .int 0, .int 0, .int 0, .int 0]))]) := hD
  have hK : va_K D vwCl [(cL, .long)] s := hK
  refine vx_widen (k := 1) (n := 6) (Nat.le_of_ble_eq_true rfl) (Nat.le_of_ble_eq_true rfl) ?_
  refine vx_catch (E := "java/lang/IllegalStateException") (name := "java/lang/IllegalStateException") hown [] ⟨0, 15, 18, 15⟩ [] htb (fun z hz => absurd hz List.not_mem_nil) (by decide) (by decide) (hts (.classLink RL 15 "java/lang/IllegalStateException") (by decide +kernel)) (va_Nw.use rfl hE.ca1) hce hcv hcl ?_
  refine W.eq (g2 := F0 m 18 ls [.ref q9]) rfl ?_
  refine lv_astore_n (lv' := [(2, .ref q9), (0, .ref h0), (1, .ref u0)]) hx hb dL_isOver_18 rfl hl (by decide) rfl (fun ls hl => ?_)
  refine lv_iconst (v := 1) hx hb dL_isOver_19 (by decide) ?_
  refine W.widen (k := 1) (n := 6) (Nat.le_of_ble_eq_true rfl) (Nat.le_of_ble_eq_true rfl) ?_
  exact W.iret (v := 1) hx hb hr (fun t ht hW => ⟨⟨1, (), rfl, rfl, PB.at hP hK hD hW.alike ht [] rfl (by decide) [] rfl⟩, hS.F ht⟩) hS.2.2 dL_isOver_20

def wm_c_L_winner : List Cond := .codeWith yL_winner cL_winner 3 (some .int) [(0, 8, 11, 15), (0, 8, 14, 38)] :: ([.code yX5_winner cX5_winner 2 (some .int), .code yX5_needBegun cX5_needBegun 1 none, .fieldLink RX5 19 "Sowingcourt" "game" "LSowingcourt$Game;", .fieldLink RX5 179 "Sowingcourt$Game" "begun" "Z", .classLink RX5 162 "java/lang/IllegalStateException", .initialized "java/lang/IllegalStateException", .methodLink RX5 187 yX5_needBegun, .instanceMethod yX5_needBegun, .selects RX5 yX5_needBegun yX5_needBegun, .initialized RX5, .methodLink RL 75 yX5_winner, .instanceMethod yX5_winner, .selects RX5 yX5_winner yX5_winner, .classLink RL 15 "java/lang/IllegalStateException"] ++ wsX50 ++ wsX10 ++ (vx_atS RX5 166 "java/lang/IllegalStateException" supX).filter goodWord)
set_option maxRecDepth 20000 in
theorem gd_c_L_winner_3 : GoodIn wm_c_L_winner (wsV RL 75 RX5 yX5_winner wm_c_X5_winner) := goodIn_of _ (by decide +kernel)
set_option maxHeartbeats 4000000 in
set_option maxRecDepth 100000 in
theorem c_L_winner (l : Launch) (hl0 : l.stackTraces = false) (κ : Nat → Nat) (D : va_G) (sz : Nat) (h0 : Nat) (o0 : Nat) (g0 : Nat) (o2 : Nat) (o3 : Nat) (o4 : Nat) (o5 : Nat) (o6 : Nat) (g1 : Nat) (g2 : Nat) (g3 : Nat) (g4 : Nat) (g5 : Nat) (g6 : Nat) (u0 : Nat) (cL : ClassId) (fo : Nat → Int64)  : Met l yL_winner wm_c_L_winner ({ frames := 13, cells := 1, slots := 6, locals := 500 }) (va_Pc [.ref h0, .ref u0] (PC κ D [(cL, .long)] [(h0, .inr (12, [.ref o0, .int 0, .ref g0, .ref o2, .ref o3, .ref o4, .ref o5, .int 0, .ref o6])), (g0, .inr (8, [.ref g1, .ref g2, .ref g3, .ref g4, .ref g5, .ref g6, .int 0, .int 0, .int 0, .int 0])), (u0, .inl (cL, 1, .inr (.inl fo)))] sz)) (va_Qi (fun (r : Int32) (_ : Unit) => r = 1) (fun _ t => PB D [] [] (va_A [(h0, .inr (12, [.ref o0, .int 0, .ref g0, .ref o2, .ref o3, .ref o4, .ref o5, .int 0, .ref o6])), (g0, .inr (8, [.ref g1, .ref g2, .ref g3, .ref g4, .ref g5, .ref g6, .int 0, .int 0, .int 0, .int 0])), (u0, .inl (cL, 1, .inr (.inl fo)))] sz) t) (va_A [(h0, .inr (12, [.ref o0, .int 0, .ref g0, .ref o2, .ref o3, .ref o4, .ref o5, .int 0, .ref o6])), (g0, .inr (8, [.ref g1, .ref g2, .ref g3, .ref g4, .ref g5, .ref g6, .int 0, .int 0, .int 0, .int 0])), (u0, .inl (cL, 1, .inr (.inl fo)))] sz)) 1 6 (va_A [(h0, .inr (12, [.ref o0, .int 0, .ref g0, .ref o2, .ref o3, .ref o4, .ref o5, .int 0, .ref o6])), (g0, .inr (8, [.ref g1, .ref g2, .ref g3, .ref g4, .ref g5, .ref g6, .int 0, .int 0, .int 0, .int 0])), (u0, .inl (cL, 1, .inr (.inl fo)))] sz) := by
  refine va_MetW (cc := cL_winner) (maxL := 3) (ret := (some .int)) (by decide +kernel) rfl ?_
  intro p e s m args below meth c s₁ B hml hv
  obtain ⟨rfl, hsz, hP, hK, hD0, hE⟩ := hv
  have hx := B.exec
  have hb := B.bytes
  have hr := B.returns
  have hts := atoms_spec (ws := wm_c_L_winner) B.pre
  have hown : s.vm.findClass RL = some m.cls := findClass_of_methodNamed B.named
  have hlocks := B.notSynchronized
  have htb : c.exceptionTable.toList = tableOf [(0, 8, 11, 15), (0, 8, 14, 38)] := vx_table (x := yL_winner) B (hts _ List.mem_cons_self)
  have iRX5 : ∀ w ∈ u_ws RX5 TX5 9, w ∈ wm_c_L_winner := by decide +kernel
  have iRX1 : ∀ w ∈ u_ws RX1 TX1 10, w ∈ wm_c_L_winner := by decide +kernel
  subst hsz
  have hD := hD0.self (sz := s.heap.size)
  generalize hAe : va_A [(h0, .inr (12, [.ref o0, .int 0, .ref g0, .ref o2, .ref o3, .ref o4, .ref o5, .int 0, .ref o6])), (g0, .inr (8, [.ref g1, .ref g2, .ref g3, .ref g4, .ref g5, .ref g6, .int 0, .int 0, .int 0, .int 0])), (u0, .inl (cL, 1, .inr (.inl fo)))] s.heap.size = A at hD hE ⊢
  have hA : ∀ q : Nat, s.heap.size ≤ q → A q := fun q h => by rw [← hAe]; exact Or.inr h
  have hS : va_S A s.heap s.heap [] := va_S.rf
  have hl := lv_entry ([.ref h0, .ref u0]) (n := 3) (Nat.le_of_ble_eq_true rfl)
  rw [lg_entry_eq]
  generalize (lg_sl ([.ref h0, .ref u0]) ++ List.replicate (3 - (lg_sl ([.ref h0, .ref u0])).length) Slot.unset).toArray = ls at hl ⊢
  have hl : lv_has ls 3 [(0, .ref h0), (1, .ref u0)] := hl
  refine lv_aload_n hx hb dL_winner_0 rfl (lv_at hl 1 rfl) ?_
  refine lv_iconst (v := 0) hx hb dL_winner_1 (by decide) ?_
  refine lv_aload_n hx hb dL_winner_2 rfl (lv_at hl 0 rfl) ?_
  have hS0 := hS
  have hFc := va_free (wc := [(h0, .inr (12, [.ref o0, .int 0, .ref g0, .ref o2, .ref o3, .ref o4, .ref o5, .int 0, .ref o6])), (g0, .inr (8, [.ref g1, .ref g2, .ref g3, .ref g4, .ref g5, .ref g6, .int 0, .int 0, .int 0, .int 0]))]) hD hS hA [0, 1] rfl
  refine vx_calli (vx_runV (As := []) (rest := [.int 0, .ref u0]) ⟨hx, hb, hml, hown, hts⟩ (c_X5_winner l hl0 κ D (s.heap).size (h0) (o0) (g0) (o2) (o3) (o4) (o5) (o6) (g1) (g2) (g3) (g4) (g5) (g6) ) (cwV 0 hts gd_c_L_winner_3 rfl rfl rfl (by decide +kernel) ⟨(Nat.le_of_ble_eq_true rfl), (Nat.le_of_ble_eq_true rfl)⟩) (preV hE hK hP hD hS hA [0, 1] rfl (by decide) [] rfl (va_recv hK hP (ci := 12) (q0 := 0) rfl rfl)) rfl rfl hl.1 rfl (lv_room (Nat.le_of_ble_eq_true rfl)) dL_winner_3 ⟨(Nat.le_of_ble_eq_true rfl), (Nat.le_of_ble_eq_true rfl)⟩) hS (fun q _ h => hFc q h) hFc (fun q _ h => hFc q h) (fun E9 ce q9 u9 t H1 locs ht hvm _ hB hz1 hk1 hS hce hcv hcl => ?_) (fun _ _ _ _ _ _ _ hw => hw.elim)
  obtain ⟨rfl, hB⟩ := hB
  obtain ⟨hP, hD, hK⟩ := jn (wc := [(h0, .inr (12, [.ref o0, .int 0, .ref g0, .ref o2, .ref o3, .ref o4, .ref o5, .int 0, .ref o6])), (g0, .inr (8, [.ref g1, .ref g2, .ref g3, .ref g4, .ref g5, .ref g6, .int 0, .int 0, .int 0, .int 0]))]) (wr := [(u0, .inl (cL, 1, .inr (.inl fo)))]) (w1 := [(h0, .inr (12, [.ref o0, .int 0, .ref g0, .ref o2, .ref o3, .ref o4, .ref o5, .int 0, .ref o6])), (g0, .inr (8, [.ref g1, .ref g2, .ref g3, .ref g4, .ref g5, .ref g6, .int 0, .int 0, .int 0, .int 0]))]) (t1 := []) hP hD hK hS0 hA [0, 1] [2] rfl rfl (by decide) (by decide) ht hvm hk1 hB
  generalize H1 = H at hP hS hce ⊢
  have hP : va_P D vwCl ([(u0, .inl (cL, 1, .inr (.inl fo))), (h0, .inr (12, [.ref o0, .int 0, .ref g0, .ref o2, .ref o3, .ref o4, .ref o5, .int 0, .ref o6])), (g0, .inr (8, [.ref g1, .ref g2, .ref g3, .ref g4, .ref g5, .ref g6, .int 0, .int 0, .int 0, .int 0]))]) H := hP
  have hD : va_D A ([(u0, .inl (cL, 1, .inr (.inl fo))), (h0, .inr (12, [.ref o0, .int 0, .ref g0, .ref o2, .ref o3, .ref o4, .ref o5, .int 0, .ref o6])), (g0, .inr (8, [.ref g1, .ref g2, .ref g3, .ref g4, .ref g5, .ref g6, .int 0, .int 0, .int 0, .int 0]))]) := hD
  have hK : va_K D vwCl [(cL, .long)] s := hK
  refine vx_widen (k := 1) (n := 6) (Nat.le_of_ble_eq_true rfl) (Nat.le_of_ble_eq_true rfl) ?_
  refine vx_catch (E := "java/lang/IllegalStateException") (name := "java/lang/IllegalStateException") hown [] ⟨0, 8, 11, 15⟩ [⟨0, 8, 14, 38⟩] htb (fun z hz => absurd hz List.not_mem_nil) (by decide) (by decide) (hts (.classLink RL 15 "java/lang/IllegalStateException") (by decide +kernel)) (va_Nw.use rfl hE.ca1) hce hcv hcl ?_
  refine W.eq (g2 := F0 m 11 ls [.ref q9]) rfl ?_
  refine lv_astore_n (lv' := [(2, .ref q9), (0, .ref h0), (1, .ref u0)]) hx hb dL_winner_11 rfl hl (by decide) rfl (fun ls hl => ?_)
  refine lv_iconst (v := 1) hx hb dL_winner_12 (by decide) ?_
  refine W.widen (k := 1) (n := 6) (Nat.le_of_ble_eq_true rfl) (Nat.le_of_ble_eq_true rfl) ?_
  exact W.iret (v := 1) hx hb hr (fun t ht hW => ⟨⟨1, (), rfl, rfl, PB.at hP hK hD hW.alike ht [] rfl (by decide) [] rfl⟩, hS.F ht⟩) hS.2.2 dL_winner_13

def wm_c_L_laps : List Cond := .codeWith yL_laps cL_laps 3 (some .int) [(0, 8, 11, 15), (0, 8, 14, 38)] :: ([.code yX5_laps cX5_laps 1 (some .int), .code yX5_needBegun cX5_needBegun 1 none, .fieldLink RX5 19 "Sowingcourt" "game" "LSowingcourt$Game;", .fieldLink RX5 179 "Sowingcourt$Game" "begun" "Z", .classLink RX5 162 "java/lang/IllegalStateException", .initialized "java/lang/IllegalStateException", .methodLink RX5 187 yX5_needBegun, .instanceMethod yX5_needBegun, .selects RX5 yX5_needBegun yX5_needBegun, .initialized RX5, .methodLink RL 78 yX5_laps, .instanceMethod yX5_laps, .selects RX5 yX5_laps yX5_laps, .classLink RL 15 "java/lang/IllegalStateException"] ++ wsX50 ++ wsX10 ++ (vx_atS RX5 166 "java/lang/IllegalStateException" supX).filter goodWord)
set_option maxRecDepth 20000 in
theorem gd_c_L_laps_3 : GoodIn wm_c_L_laps (wsV RL 78 RX5 yX5_laps wm_c_X5_laps) := goodIn_of _ (by decide +kernel)
set_option maxHeartbeats 4000000 in
set_option maxRecDepth 100000 in
theorem c_L_laps (l : Launch) (hl0 : l.stackTraces = false) (κ : Nat → Nat) (D : va_G) (sz : Nat) (h0 : Nat) (o0 : Nat) (g0 : Nat) (o2 : Nat) (o3 : Nat) (o4 : Nat) (o5 : Nat) (o6 : Nat) (g1 : Nat) (g2 : Nat) (g3 : Nat) (g4 : Nat) (g5 : Nat) (g6 : Nat) (u0 : Nat) (cL : ClassId) (fo : Nat → Int64)  : Met l yL_laps wm_c_L_laps ({ frames := 13, cells := 1, slots := 6, locals := 500 }) (va_Pc [.ref h0, .ref u0] (PC κ D [(cL, .long)] [(h0, .inr (12, [.ref o0, .int 0, .ref g0, .ref o2, .ref o3, .ref o4, .ref o5, .int 0, .ref o6])), (g0, .inr (8, [.ref g1, .ref g2, .ref g3, .ref g4, .ref g5, .ref g6, .int 0, .int 0, .int 0, .int 0])), (u0, .inl (cL, 1, .inr (.inl fo)))] sz)) (va_Qi (fun (r : Int32) (_ : Unit) => r = 1) (fun _ t => PB D [] [] (va_A [(h0, .inr (12, [.ref o0, .int 0, .ref g0, .ref o2, .ref o3, .ref o4, .ref o5, .int 0, .ref o6])), (g0, .inr (8, [.ref g1, .ref g2, .ref g3, .ref g4, .ref g5, .ref g6, .int 0, .int 0, .int 0, .int 0])), (u0, .inl (cL, 1, .inr (.inl fo)))] sz) t) (va_A [(h0, .inr (12, [.ref o0, .int 0, .ref g0, .ref o2, .ref o3, .ref o4, .ref o5, .int 0, .ref o6])), (g0, .inr (8, [.ref g1, .ref g2, .ref g3, .ref g4, .ref g5, .ref g6, .int 0, .int 0, .int 0, .int 0])), (u0, .inl (cL, 1, .inr (.inl fo)))] sz)) 1 6 (va_A [(h0, .inr (12, [.ref o0, .int 0, .ref g0, .ref o2, .ref o3, .ref o4, .ref o5, .int 0, .ref o6])), (g0, .inr (8, [.ref g1, .ref g2, .ref g3, .ref g4, .ref g5, .ref g6, .int 0, .int 0, .int 0, .int 0])), (u0, .inl (cL, 1, .inr (.inl fo)))] sz) := by
  refine va_MetW (cc := cL_laps) (maxL := 3) (ret := (some .int)) (by decide +kernel) rfl ?_
  intro p e s m args below meth c s₁ B hml hv
  obtain ⟨rfl, hsz, hP, hK, hD0, hE⟩ := hv
  have hx := B.exec
  have hb := B.bytes
  have hr := B.returns
  have hts := atoms_spec (ws := wm_c_L_laps) B.pre
  have hown : s.vm.findClass RL = some m.cls := findClass_of_methodNamed B.named
  have hlocks := B.notSynchronized
  have htb : c.exceptionTable.toList = tableOf [(0, 8, 11, 15), (0, 8, 14, 38)] := vx_table (x := yL_laps) B (hts _ List.mem_cons_self)
  have iRX5 : ∀ w ∈ u_ws RX5 TX5 9, w ∈ wm_c_L_laps := by decide +kernel
  have iRX1 : ∀ w ∈ u_ws RX1 TX1 10, w ∈ wm_c_L_laps := by decide +kernel
  subst hsz
  have hD := hD0.self (sz := s.heap.size)
  generalize hAe : va_A [(h0, .inr (12, [.ref o0, .int 0, .ref g0, .ref o2, .ref o3, .ref o4, .ref o5, .int 0, .ref o6])), (g0, .inr (8, [.ref g1, .ref g2, .ref g3, .ref g4, .ref g5, .ref g6, .int 0, .int 0, .int 0, .int 0])), (u0, .inl (cL, 1, .inr (.inl fo)))] s.heap.size = A at hD hE ⊢
  have hA : ∀ q : Nat, s.heap.size ≤ q → A q := fun q h => by rw [← hAe]; exact Or.inr h
  have hS : va_S A s.heap s.heap [] := va_S.rf
  have hl := lv_entry ([.ref h0, .ref u0]) (n := 3) (Nat.le_of_ble_eq_true rfl)
  rw [lg_entry_eq]
  generalize (lg_sl ([.ref h0, .ref u0]) ++ List.replicate (3 - (lg_sl ([.ref h0, .ref u0])).length) Slot.unset).toArray = ls at hl ⊢
  have hl : lv_has ls 3 [(0, .ref h0), (1, .ref u0)] := hl
  refine lv_aload_n hx hb dL_laps_0 rfl (lv_at hl 1 rfl) ?_
  refine lv_iconst (v := 0) hx hb dL_laps_1 (by decide) ?_
  refine lv_aload_n hx hb dL_laps_2 rfl (lv_at hl 0 rfl) ?_
  have hS0 := hS
  have hFc := va_free (wc := [(h0, .inr (12, [.ref o0, .int 0, .ref g0, .ref o2, .ref o3, .ref o4, .ref o5, .int 0, .ref o6])), (g0, .inr (8, [.ref g1, .ref g2, .ref g3, .ref g4, .ref g5, .ref g6, .int 0, .int 0, .int 0, .int 0]))]) hD hS hA [0, 1] rfl
  refine vx_calli (vx_runV (As := []) (rest := [.int 0, .ref u0]) ⟨hx, hb, hml, hown, hts⟩ (c_X5_laps l hl0 κ D (s.heap).size (h0) (o0) (g0) (o2) (o3) (o4) (o5) (o6) (g1) (g2) (g3) (g4) (g5) (g6) ) (cwV 0 hts gd_c_L_laps_3 rfl rfl rfl (by decide +kernel) ⟨(Nat.le_of_ble_eq_true rfl), (Nat.le_of_ble_eq_true rfl)⟩) (preV hE hK hP hD hS hA [0, 1] rfl (by decide) [] rfl (va_recv hK hP (ci := 12) (q0 := 0) rfl rfl)) rfl rfl hl.1 rfl (lv_room (Nat.le_of_ble_eq_true rfl)) dL_laps_3 ⟨(Nat.le_of_ble_eq_true rfl), (Nat.le_of_ble_eq_true rfl)⟩) hS (fun q _ h => hFc q h) hFc (fun q _ h => hFc q h) (fun E9 ce q9 u9 t H1 locs ht hvm _ hB hz1 hk1 hS hce hcv hcl => ?_) (fun _ _ _ _ _ _ _ hw => hw.elim)
  obtain ⟨rfl, hB⟩ := hB
  obtain ⟨hP, hD, hK⟩ := jn (wc := [(h0, .inr (12, [.ref o0, .int 0, .ref g0, .ref o2, .ref o3, .ref o4, .ref o5, .int 0, .ref o6])), (g0, .inr (8, [.ref g1, .ref g2, .ref g3, .ref g4, .ref g5, .ref g6, .int 0, .int 0, .int 0, .int 0]))]) (wr := [(u0, .inl (cL, 1, .inr (.inl fo)))]) (w1 := [(h0, .inr (12, [.ref o0, .int 0, .ref g0, .ref o2, .ref o3, .ref o4, .ref o5, .int 0, .ref o6])), (g0, .inr (8, [.ref g1, .ref g2, .ref g3, .ref g4, .ref g5, .ref g6, .int 0, .int 0, .int 0, .int 0]))]) (t1 := []) hP hD hK hS0 hA [0, 1] [2] rfl rfl (by decide) (by decide) ht hvm hk1 hB
  generalize H1 = H at hP hS hce ⊢
  have hP : va_P D vwCl ([(u0, .inl (cL, 1, .inr (.inl fo))), (h0, .inr (12, [.ref o0, .int 0, .ref g0, .ref o2, .ref o3, .ref o4, .ref o5, .int 0, .ref o6])), (g0, .inr (8, [.ref g1, .ref g2, .ref g3, .ref g4, .ref g5, .ref g6, .int 0, .int 0, .int 0, .int 0]))]) H := hP
  have hD : va_D A ([(u0, .inl (cL, 1, .inr (.inl fo))), (h0, .inr (12, [.ref o0, .int 0, .ref g0, .ref o2, .ref o3, .ref o4, .ref o5, .int 0, .ref o6])), (g0, .inr (8, [.ref g1, .ref g2, .ref g3, .ref g4, .ref g5, .ref g6, .int 0, .int 0, .int 0, .int 0]))]) := hD
  have hK : va_K D vwCl [(cL, .long)] s := hK
  refine vx_widen (k := 1) (n := 6) (Nat.le_of_ble_eq_true rfl) (Nat.le_of_ble_eq_true rfl) ?_
  refine vx_catch (E := "java/lang/IllegalStateException") (name := "java/lang/IllegalStateException") hown [] ⟨0, 8, 11, 15⟩ [⟨0, 8, 14, 38⟩] htb (fun z hz => absurd hz List.not_mem_nil) (by decide) (by decide) (hts (.classLink RL 15 "java/lang/IllegalStateException") (by decide +kernel)) (va_Nw.use rfl hE.ca1) hce hcv hcl ?_
  refine W.eq (g2 := F0 m 11 ls [.ref q9]) rfl ?_
  refine lv_astore_n (lv' := [(2, .ref q9), (0, .ref h0), (1, .ref u0)]) hx hb dL_laps_11 rfl hl (by decide) rfl (fun ls hl => ?_)
  refine lv_iconst (v := 1) hx hb dL_laps_12 (by decide) ?_
  refine W.widen (k := 1) (n := 6) (Nat.le_of_ble_eq_true rfl) (Nat.le_of_ble_eq_true rfl) ?_
  exact W.iret (v := 1) hx hb hr (fun t ht hW => ⟨⟨1, (), rfl, rfl, PB.at hP hK hD hW.alike ht [] rfl (by decide) [] rfl⟩, hS.F ht⟩) hS.2.2 dL_laps_13

def wm_c_L_length : List Cond := .codeWith yL_length cL_length 3 (some .int) [(0, 8, 11, 15)] :: ([.code yX5_length cX5_length 1 (some .int), .code yX5_needBegun cX5_needBegun 1 none, .fieldLink RX5 19 "Sowingcourt" "game" "LSowingcourt$Game;", .fieldLink RX5 179 "Sowingcourt$Game" "begun" "Z", .classLink RX5 162 "java/lang/IllegalStateException", .initialized "java/lang/IllegalStateException", .methodLink RX5 187 yX5_needBegun, .instanceMethod yX5_needBegun, .selects RX5 yX5_needBegun yX5_needBegun, .initialized RX5, .methodLink RL 81 yX5_length, .instanceMethod yX5_length, .selects RX5 yX5_length yX5_length, .classLink RL 15 "java/lang/IllegalStateException"] ++ wsX50 ++ wsX10 ++ (vx_atS RX5 166 "java/lang/IllegalStateException" supX).filter goodWord)
set_option maxRecDepth 20000 in
theorem gd_c_L_length_3 : GoodIn wm_c_L_length (wsV RL 81 RX5 yX5_length wm_c_X5_length) := goodIn_of _ (by decide +kernel)
set_option maxHeartbeats 4000000 in
set_option maxRecDepth 100000 in
theorem c_L_length (l : Launch) (hl0 : l.stackTraces = false) (κ : Nat → Nat) (D : va_G) (sz : Nat) (h0 : Nat) (o0 : Nat) (g0 : Nat) (o2 : Nat) (o3 : Nat) (o4 : Nat) (o5 : Nat) (o6 : Nat) (g1 : Nat) (g2 : Nat) (g3 : Nat) (g4 : Nat) (g5 : Nat) (g6 : Nat) (u0 : Nat) (cL : ClassId) (fo : Nat → Int64)  : Met l yL_length wm_c_L_length ({ frames := 13, cells := 1, slots := 6, locals := 500 }) (va_Pc [.ref h0, .ref u0] (PC κ D [(cL, .long)] [(h0, .inr (12, [.ref o0, .int 0, .ref g0, .ref o2, .ref o3, .ref o4, .ref o5, .int 0, .ref o6])), (g0, .inr (8, [.ref g1, .ref g2, .ref g3, .ref g4, .ref g5, .ref g6, .int 0, .int 0, .int 0, .int 0])), (u0, .inl (cL, 1, .inr (.inl fo)))] sz)) (va_Qi (fun (r : Int32) (_ : Unit) => r = 1) (fun _ t => PB D [] [] (va_A [(h0, .inr (12, [.ref o0, .int 0, .ref g0, .ref o2, .ref o3, .ref o4, .ref o5, .int 0, .ref o6])), (g0, .inr (8, [.ref g1, .ref g2, .ref g3, .ref g4, .ref g5, .ref g6, .int 0, .int 0, .int 0, .int 0])), (u0, .inl (cL, 1, .inr (.inl fo)))] sz) t) (va_A [(h0, .inr (12, [.ref o0, .int 0, .ref g0, .ref o2, .ref o3, .ref o4, .ref o5, .int 0, .ref o6])), (g0, .inr (8, [.ref g1, .ref g2, .ref g3, .ref g4, .ref g5, .ref g6, .int 0, .int 0, .int 0, .int 0])), (u0, .inl (cL, 1, .inr (.inl fo)))] sz)) 1 6 (va_A [(h0, .inr (12, [.ref o0, .int 0, .ref g0, .ref o2, .ref o3, .ref o4, .ref o5, .int 0, .ref o6])), (g0, .inr (8, [.ref g1, .ref g2, .ref g3, .ref g4, .ref g5, .ref g6, .int 0, .int 0, .int 0, .int 0])), (u0, .inl (cL, 1, .inr (.inl fo)))] sz) := by
  refine va_MetW (cc := cL_length) (maxL := 3) (ret := (some .int)) (by decide +kernel) rfl ?_
  intro p e s m args below meth c s₁ B hml hv
  obtain ⟨rfl, hsz, hP, hK, hD0, hE⟩ := hv
  have hx := B.exec
  have hb := B.bytes
  have hr := B.returns
  have hts := atoms_spec (ws := wm_c_L_length) B.pre
  have hown : s.vm.findClass RL = some m.cls := findClass_of_methodNamed B.named
  have hlocks := B.notSynchronized
  have htb : c.exceptionTable.toList = tableOf [(0, 8, 11, 15)] := vx_table (x := yL_length) B (hts _ List.mem_cons_self)
  have iRX5 : ∀ w ∈ u_ws RX5 TX5 9, w ∈ wm_c_L_length := by decide +kernel
  have iRX1 : ∀ w ∈ u_ws RX1 TX1 10, w ∈ wm_c_L_length := by decide +kernel
  subst hsz
  have hD := hD0.self (sz := s.heap.size)
  generalize hAe : va_A [(h0, .inr (12, [.ref o0, .int 0, .ref g0, .ref o2, .ref o3, .ref o4, .ref o5, .int 0, .ref o6])), (g0, .inr (8, [.ref g1, .ref g2, .ref g3, .ref g4, .ref g5, .ref g6, .int 0, .int 0, .int 0, .int 0])), (u0, .inl (cL, 1, .inr (.inl fo)))] s.heap.size = A at hD hE ⊢
  have hA : ∀ q : Nat, s.heap.size ≤ q → A q := fun q h => by rw [← hAe]; exact Or.inr h
  have hS : va_S A s.heap s.heap [] := va_S.rf
  have hl := lv_entry ([.ref h0, .ref u0]) (n := 3) (Nat.le_of_ble_eq_true rfl)
  rw [lg_entry_eq]
  generalize (lg_sl ([.ref h0, .ref u0]) ++ List.replicate (3 - (lg_sl ([.ref h0, .ref u0])).length) Slot.unset).toArray = ls at hl ⊢
  have hl : lv_has ls 3 [(0, .ref h0), (1, .ref u0)] := hl
  refine lv_aload_n hx hb dL_length_0 rfl (lv_at hl 1 rfl) ?_
  refine lv_iconst (v := 0) hx hb dL_length_1 (by decide) ?_
  refine lv_aload_n hx hb dL_length_2 rfl (lv_at hl 0 rfl) ?_
  have hS0 := hS
  have hFc := va_free (wc := [(h0, .inr (12, [.ref o0, .int 0, .ref g0, .ref o2, .ref o3, .ref o4, .ref o5, .int 0, .ref o6])), (g0, .inr (8, [.ref g1, .ref g2, .ref g3, .ref g4, .ref g5, .ref g6, .int 0, .int 0, .int 0, .int 0]))]) hD hS hA [0, 1] rfl
  refine vx_calli (vx_runV (As := []) (rest := [.int 0, .ref u0]) ⟨hx, hb, hml, hown, hts⟩ (c_X5_length l hl0 κ D (s.heap).size (h0) (o0) (g0) (o2) (o3) (o4) (o5) (o6) (g1) (g2) (g3) (g4) (g5) (g6) ) (cwV 0 hts gd_c_L_length_3 rfl rfl rfl (by decide +kernel) ⟨(Nat.le_of_ble_eq_true rfl), (Nat.le_of_ble_eq_true rfl)⟩) (preV hE hK hP hD hS hA [0, 1] rfl (by decide) [] rfl (va_recv hK hP (ci := 12) (q0 := 0) rfl rfl)) rfl rfl hl.1 rfl (lv_room (Nat.le_of_ble_eq_true rfl)) dL_length_3 ⟨(Nat.le_of_ble_eq_true rfl), (Nat.le_of_ble_eq_true rfl)⟩) hS (fun q _ h => hFc q h) hFc (fun q _ h => hFc q h) (fun E9 ce q9 u9 t H1 locs ht hvm _ hB hz1 hk1 hS hce hcv hcl => ?_) (fun _ _ _ _ _ _ _ hw => hw.elim)
  obtain ⟨rfl, hB⟩ := hB
  obtain ⟨hP, hD, hK⟩ := jn (wc := [(h0, .inr (12, [.ref o0, .int 0, .ref g0, .ref o2, .ref o3, .ref o4, .ref o5, .int 0, .ref o6])), (g0, .inr (8, [.ref g1, .ref g2, .ref g3, .ref g4, .ref g5, .ref g6, .int 0, .int 0, .int 0, .int 0]))]) (wr := [(u0, .inl (cL, 1, .inr (.inl fo)))]) (w1 := [(h0, .inr (12, [.ref o0, .int 0, .ref g0, .ref o2, .ref o3, .ref o4, .ref o5, .int 0, .ref o6])), (g0, .inr (8, [.ref g1, .ref g2, .ref g3, .ref g4, .ref g5, .ref g6, .int 0, .int 0, .int 0, .int 0]))]) (t1 := []) hP hD hK hS0 hA [0, 1] [2] rfl rfl (by decide) (by decide) ht hvm hk1 hB
  generalize H1 = H at hP hS hce ⊢
  have hP : va_P D vwCl ([(u0, .inl (cL, 1, .inr (.inl fo))), (h0, .inr (12, [.ref o0, .int 0, .ref g0, .ref o2, .ref o3, .ref o4, .ref o5, .int 0, .ref o6])), (g0, .inr (8, [.ref g1, .ref g2, .ref g3, .ref g4, .ref g5, .ref g6, .int 0, .int 0, .int 0, .int 0]))]) H := hP
  have hD : va_D A ([(u0, .inl (cL, 1, .inr (.inl fo))), (h0, .inr (12, [.ref o0, .int 0, .ref g0, .ref o2, .ref o3, .ref o4, .ref o5, .int 0, .ref o6])), (g0, .inr (8, [.ref g1, .ref g2, .ref g3, .ref g4, .ref g5, .ref g6, .int 0, .int 0, .int 0, .int 0]))]) := hD
  have hK : va_K D vwCl [(cL, .long)] s := hK
  refine vx_widen (k := 1) (n := 6) (Nat.le_of_ble_eq_true rfl) (Nat.le_of_ble_eq_true rfl) ?_
  refine vx_catch (E := "java/lang/IllegalStateException") (name := "java/lang/IllegalStateException") hown [] ⟨0, 8, 11, 15⟩ [] htb (fun z hz => absurd hz List.not_mem_nil) (by decide) (by decide) (hts (.classLink RL 15 "java/lang/IllegalStateException") (by decide +kernel)) (va_Nw.use rfl hE.ca1) hce hcv hcl ?_
  refine W.eq (g2 := F0 m 11 ls [.ref q9]) rfl ?_
  refine lv_astore_n (lv' := [(2, .ref q9), (0, .ref h0), (1, .ref u0)]) hx hb dL_length_11 rfl hl (by decide) rfl (fun ls hl => ?_)
  refine lv_iconst (v := 1) hx hb dL_length_12 (by decide) ?_
  refine W.widen (k := 1) (n := 6) (Nat.le_of_ble_eq_true rfl) (Nat.le_of_ble_eq_true rfl) ?_
  exact W.iret (v := 1) hx hb hr (fun t ht hW => ⟨⟨1, (), rfl, rfl, PB.at hP hK hD hW.alike ht [] rfl (by decide) [] rfl⟩, hS.F ht⟩) hS.2.2 dL_length_13

def wm_c_L_times : List Cond := .codeWith yL_times cL_times 3 (some .int) [(0, 8, 11, 15)] :: ([.code yX5_times cX5_times 1 (some .int), .code yX5_needBegun cX5_needBegun 1 none, .fieldLink RX5 19 "Sowingcourt" "game" "LSowingcourt$Game;", .fieldLink RX5 179 "Sowingcourt$Game" "begun" "Z", .classLink RX5 162 "java/lang/IllegalStateException", .initialized "java/lang/IllegalStateException", .methodLink RX5 187 yX5_needBegun, .instanceMethod yX5_needBegun, .selects RX5 yX5_needBegun yX5_needBegun, .initialized RX5, .methodLink RL 84 yX5_times, .instanceMethod yX5_times, .selects RX5 yX5_times yX5_times, .classLink RL 15 "java/lang/IllegalStateException"] ++ wsX50 ++ wsX10 ++ (vx_atS RX5 166 "java/lang/IllegalStateException" supX).filter goodWord)
set_option maxRecDepth 20000 in
theorem gd_c_L_times_3 : GoodIn wm_c_L_times (wsV RL 84 RX5 yX5_times wm_c_X5_times) := goodIn_of _ (by decide +kernel)
set_option maxHeartbeats 4000000 in
set_option maxRecDepth 100000 in
theorem c_L_times (l : Launch) (hl0 : l.stackTraces = false) (κ : Nat → Nat) (D : va_G) (sz : Nat) (h0 : Nat) (o0 : Nat) (g0 : Nat) (o2 : Nat) (o3 : Nat) (o4 : Nat) (o5 : Nat) (o6 : Nat) (g1 : Nat) (g2 : Nat) (g3 : Nat) (g4 : Nat) (g5 : Nat) (g6 : Nat) (u0 : Nat) (cL : ClassId) (fo : Nat → Int64)  : Met l yL_times wm_c_L_times ({ frames := 13, cells := 1, slots := 6, locals := 500 }) (va_Pc [.ref h0, .ref u0] (PC κ D [(cL, .long)] [(h0, .inr (12, [.ref o0, .int 0, .ref g0, .ref o2, .ref o3, .ref o4, .ref o5, .int 0, .ref o6])), (g0, .inr (8, [.ref g1, .ref g2, .ref g3, .ref g4, .ref g5, .ref g6, .int 0, .int 0, .int 0, .int 0])), (u0, .inl (cL, 1, .inr (.inl fo)))] sz)) (va_Qi (fun (r : Int32) (_ : Unit) => r = 1) (fun _ t => PB D [] [] (va_A [(h0, .inr (12, [.ref o0, .int 0, .ref g0, .ref o2, .ref o3, .ref o4, .ref o5, .int 0, .ref o6])), (g0, .inr (8, [.ref g1, .ref g2, .ref g3, .ref g4, .ref g5, .ref g6, .int 0, .int 0, .int 0, .int 0])), (u0, .inl (cL, 1, .inr (.inl fo)))] sz) t) (va_A [(h0, .inr (12, [.ref o0, .int 0, .ref g0, .ref o2, .ref o3, .ref o4, .ref o5, .int 0, .ref o6])), (g0, .inr (8, [.ref g1, .ref g2, .ref g3, .ref g4, .ref g5, .ref g6, .int 0, .int 0, .int 0, .int 0])), (u0, .inl (cL, 1, .inr (.inl fo)))] sz)) 1 6 (va_A [(h0, .inr (12, [.ref o0, .int 0, .ref g0, .ref o2, .ref o3, .ref o4, .ref o5, .int 0, .ref o6])), (g0, .inr (8, [.ref g1, .ref g2, .ref g3, .ref g4, .ref g5, .ref g6, .int 0, .int 0, .int 0, .int 0])), (u0, .inl (cL, 1, .inr (.inl fo)))] sz) := by
  refine va_MetW (cc := cL_times) (maxL := 3) (ret := (some .int)) (by decide +kernel) rfl ?_
  intro p e s m args below meth c s₁ B hml hv
  obtain ⟨rfl, hsz, hP, hK, hD0, hE⟩ := hv
  have hx := B.exec
  have hb := B.bytes
  have hr := B.returns
  have hts := atoms_spec (ws := wm_c_L_times) B.pre
  have hown : s.vm.findClass RL = some m.cls := findClass_of_methodNamed B.named
  have hlocks := B.notSynchronized
  have htb : c.exceptionTable.toList = tableOf [(0, 8, 11, 15)] := vx_table (x := yL_times) B (hts _ List.mem_cons_self)
  have iRX5 : ∀ w ∈ u_ws RX5 TX5 9, w ∈ wm_c_L_times := by decide +kernel
  have iRX1 : ∀ w ∈ u_ws RX1 TX1 10, w ∈ wm_c_L_times := by decide +kernel
  subst hsz
  have hD := hD0.self (sz := s.heap.size)
  generalize hAe : va_A [(h0, .inr (12, [.ref o0, .int 0, .ref g0, .ref o2, .ref o3, .ref o4, .ref o5, .int 0, .ref o6])), (g0, .inr (8, [.ref g1, .ref g2, .ref g3, .ref g4, .ref g5, .ref g6, .int 0, .int 0, .int 0, .int 0])), (u0, .inl (cL, 1, .inr (.inl fo)))] s.heap.size = A at hD hE ⊢
  have hA : ∀ q : Nat, s.heap.size ≤ q → A q := fun q h => by rw [← hAe]; exact Or.inr h
  have hS : va_S A s.heap s.heap [] := va_S.rf
  have hl := lv_entry ([.ref h0, .ref u0]) (n := 3) (Nat.le_of_ble_eq_true rfl)
  rw [lg_entry_eq]
  generalize (lg_sl ([.ref h0, .ref u0]) ++ List.replicate (3 - (lg_sl ([.ref h0, .ref u0])).length) Slot.unset).toArray = ls at hl ⊢
  have hl : lv_has ls 3 [(0, .ref h0), (1, .ref u0)] := hl
  refine lv_aload_n hx hb dL_times_0 rfl (lv_at hl 1 rfl) ?_
  refine lv_iconst (v := 0) hx hb dL_times_1 (by decide) ?_
  refine lv_aload_n hx hb dL_times_2 rfl (lv_at hl 0 rfl) ?_
  have hS0 := hS
  have hFc := va_free (wc := [(h0, .inr (12, [.ref o0, .int 0, .ref g0, .ref o2, .ref o3, .ref o4, .ref o5, .int 0, .ref o6])), (g0, .inr (8, [.ref g1, .ref g2, .ref g3, .ref g4, .ref g5, .ref g6, .int 0, .int 0, .int 0, .int 0]))]) hD hS hA [0, 1] rfl
  refine vx_calli (vx_runV (As := []) (rest := [.int 0, .ref u0]) ⟨hx, hb, hml, hown, hts⟩ (c_X5_times l hl0 κ D (s.heap).size (h0) (o0) (g0) (o2) (o3) (o4) (o5) (o6) (g1) (g2) (g3) (g4) (g5) (g6) ) (cwV 0 hts gd_c_L_times_3 rfl rfl rfl (by decide +kernel) ⟨(Nat.le_of_ble_eq_true rfl), (Nat.le_of_ble_eq_true rfl)⟩) (preV hE hK hP hD hS hA [0, 1] rfl (by decide) [] rfl (va_recv hK hP (ci := 12) (q0 := 0) rfl rfl)) rfl rfl hl.1 rfl (lv_room (Nat.le_of_ble_eq_true rfl)) dL_times_3 ⟨(Nat.le_of_ble_eq_true rfl), (Nat.le_of_ble_eq_true rfl)⟩) hS (fun q _ h => hFc q h) hFc (fun q _ h => hFc q h) (fun E9 ce q9 u9 t H1 locs ht hvm _ hB hz1 hk1 hS hce hcv hcl => ?_) (fun _ _ _ _ _ _ _ hw => hw.elim)
  obtain ⟨rfl, hB⟩ := hB
  obtain ⟨hP, hD, hK⟩ := jn (wc := [(h0, .inr (12, [.ref o0, .int 0, .ref g0, .ref o2, .ref o3, .ref o4, .ref o5, .int 0, .ref o6])), (g0, .inr (8, [.ref g1, .ref g2, .ref g3, .ref g4, .ref g5, .ref g6, .int 0, .int 0, .int 0, .int 0]))]) (wr := [(u0, .inl (cL, 1, .inr (.inl fo)))]) (w1 := [(h0, .inr (12, [.ref o0, .int 0, .ref g0, .ref o2, .ref o3, .ref o4, .ref o5, .int 0, .ref o6])), (g0, .inr (8, [.ref g1, .ref g2, .ref g3, .ref g4, .ref g5, .ref g6, .int 0, .int 0, .int 0, .int 0]))]) (t1 := []) hP hD hK hS0 hA [0, 1] [2] rfl rfl (by decide) (by decide) ht hvm hk1 hB
  generalize H1 = H at hP hS hce ⊢
  have hP : va_P D vwCl ([(u0, .inl (cL, 1, .inr (.inl fo))), (h0, .inr (12, [.ref o0, .int 0, .ref g0, .ref o2, .ref o3, .ref o4, .ref o5, .int 0, .ref o6])), (g0, .inr (8, [.ref g1, .ref g2, .ref g3, .ref g4, .ref g5, .ref g6, .int 0, .int 0, .int 0, .int 0]))]) H := hP
  have hD : va_D A ([(u0, .inl (cL, 1, .inr (.inl fo))), (h0, .inr (12, [.ref o0, .int 0, .ref g0, .ref o2, .ref o3, .ref o4, .ref o5, .int 0, .ref o6])), (g0, .inr (8, [.ref g1, .ref g2, .ref g3, .ref g4, .ref g5, .ref g6, .int 0, .int 0, .int 0, .int 0]))]) := hD
  have hK : va_K D vwCl [(cL, .long)] s := hK
  refine vx_widen (k := 1) (n := 6) (Nat.le_of_ble_eq_true rfl) (Nat.le_of_ble_eq_true rfl) ?_
  refine vx_catch (E := "java/lang/IllegalStateException") (name := "java/lang/IllegalStateException") hown [] ⟨0, 8, 11, 15⟩ [] htb (fun z hz => absurd hz List.not_mem_nil) (by decide) (by decide) (hts (.classLink RL 15 "java/lang/IllegalStateException") (by decide +kernel)) (va_Nw.use rfl hE.ca1) hce hcv hcl ?_
  refine W.eq (g2 := F0 m 11 ls [.ref q9]) rfl ?_
  refine lv_astore_n (lv' := [(2, .ref q9), (0, .ref h0), (1, .ref u0)]) hx hb dL_times_11 rfl hl (by decide) rfl (fun ls hl => ?_)
  refine lv_iconst (v := 1) hx hb dL_times_12 (by decide) ?_
  refine W.widen (k := 1) (n := 6) (Nat.le_of_ble_eq_true rfl) (Nat.le_of_ble_eq_true rfl) ?_
  exact W.iret (v := 1) hx hb hr (fun t ht hW => ⟨⟨1, (), rfl, rfl, PB.at hP hK hD hW.alike ht [] rfl (by decide) [] rfl⟩, hS.F ht⟩) hS.2.2 dL_times_13

def wm_c_L_number : List Cond := .codeWith yL_number cL_number 3 (some .int) [(0, 7, 10, 15)] :: ([.code yX5_number cX5_number 1 (some .long), .code yX5_needBegun cX5_needBegun 1 none, .fieldLink RX5 19 "Sowingcourt" "game" "LSowingcourt$Game;", .fieldLink RX5 179 "Sowingcourt$Game" "begun" "Z", .classLink RX5 162 "java/lang/IllegalStateException", .initialized "java/lang/IllegalStateException", .methodLink RX5 187 yX5_needBegun, .instanceMethod yX5_needBegun, .selects RX5 yX5_needBegun yX5_needBegun, .initialized RX5, .methodLink RL 91 yX5_number, .instanceMethod yX5_number, .selects RX5 yX5_number yX5_number, .classLink RL 15 "java/lang/IllegalStateException"] ++ wsX50 ++ wsX10 ++ (vx_atS RX5 166 "java/lang/IllegalStateException" supX).filter goodWord)
set_option maxRecDepth 20000 in
theorem gd_c_L_number_3 : GoodIn wm_c_L_number (wsV RL 91 RX5 yX5_number wm_c_X5_number) := goodIn_of _ (by decide +kernel)
set_option maxHeartbeats 4000000 in
set_option maxRecDepth 100000 in
theorem c_L_number (l : Launch) (hl0 : l.stackTraces = false) (κ : Nat → Nat) (D : va_G) (sz : Nat) (h0 : Nat) (o0 : Nat) (g0 : Nat) (o2 : Nat) (o3 : Nat) (o4 : Nat) (o5 : Nat) (o6 : Nat) (g1 : Nat) (g2 : Nat) (g3 : Nat) (g4 : Nat) (g5 : Nat) (g6 : Nat) (u0 : Nat) (cL : ClassId) (fo : Nat → Int64)  : Met l yL_number wm_c_L_number ({ frames := 13, cells := 1, slots := 6, locals := 500 }) (va_Pc [.ref h0, .ref u0] (PC κ D [(cL, .long)] [(h0, .inr (12, [.ref o0, .int 0, .ref g0, .ref o2, .ref o3, .ref o4, .ref o5, .int 0, .ref o6])), (g0, .inr (8, [.ref g1, .ref g2, .ref g3, .ref g4, .ref g5, .ref g6, .int 0, .int 0, .int 0, .int 0])), (u0, .inl (cL, 1, .inr (.inl fo)))] sz)) (va_Qi (fun (r : Int32) (_ : Unit) => r = 1) (fun _ t => PB D [] [] (va_A [(h0, .inr (12, [.ref o0, .int 0, .ref g0, .ref o2, .ref o3, .ref o4, .ref o5, .int 0, .ref o6])), (g0, .inr (8, [.ref g1, .ref g2, .ref g3, .ref g4, .ref g5, .ref g6, .int 0, .int 0, .int 0, .int 0])), (u0, .inl (cL, 1, .inr (.inl fo)))] sz) t) (va_A [(h0, .inr (12, [.ref o0, .int 0, .ref g0, .ref o2, .ref o3, .ref o4, .ref o5, .int 0, .ref o6])), (g0, .inr (8, [.ref g1, .ref g2, .ref g3, .ref g4, .ref g5, .ref g6, .int 0, .int 0, .int 0, .int 0])), (u0, .inl (cL, 1, .inr (.inl fo)))] sz)) 1 6 (va_A [(h0, .inr (12, [.ref o0, .int 0, .ref g0, .ref o2, .ref o3, .ref o4, .ref o5, .int 0, .ref o6])), (g0, .inr (8, [.ref g1, .ref g2, .ref g3, .ref g4, .ref g5, .ref g6, .int 0, .int 0, .int 0, .int 0])), (u0, .inl (cL, 1, .inr (.inl fo)))] sz) := by
  refine va_MetW (cc := cL_number) (maxL := 3) (ret := (some .int)) (by decide +kernel) rfl ?_
  intro p e s m args below meth c s₁ B hml hv
  obtain ⟨rfl, hsz, hP, hK, hD0, hE⟩ := hv
  have hx := B.exec
  have hb := B.bytes
  have hr := B.returns
  have hts := atoms_spec (ws := wm_c_L_number) B.pre
  have hown : s.vm.findClass RL = some m.cls := findClass_of_methodNamed B.named
  have hlocks := B.notSynchronized
  have htb : c.exceptionTable.toList = tableOf [(0, 7, 10, 15)] := vx_table (x := yL_number) B (hts _ List.mem_cons_self)
  have iRX5 : ∀ w ∈ u_ws RX5 TX5 9, w ∈ wm_c_L_number := by decide +kernel
  have iRX1 : ∀ w ∈ u_ws RX1 TX1 10, w ∈ wm_c_L_number := by decide +kernel
  subst hsz
  have hD := hD0.self (sz := s.heap.size)
  generalize hAe : va_A [(h0, .inr (12, [.ref o0, .int 0, .ref g0, .ref o2, .ref o3, .ref o4, .ref o5, .int 0, .ref o6])), (g0, .inr (8, [.ref g1, .ref g2, .ref g3, .ref g4, .ref g5, .ref g6, .int 0, .int 0, .int 0, .int 0])), (u0, .inl (cL, 1, .inr (.inl fo)))] s.heap.size = A at hD hE ⊢
  have hA : ∀ q : Nat, s.heap.size ≤ q → A q := fun q h => by rw [← hAe]; exact Or.inr h
  have hS : va_S A s.heap s.heap [] := va_S.rf
  have hl := lv_entry ([.ref h0, .ref u0]) (n := 3) (Nat.le_of_ble_eq_true rfl)
  rw [lg_entry_eq]
  generalize (lg_sl ([.ref h0, .ref u0]) ++ List.replicate (3 - (lg_sl ([.ref h0, .ref u0])).length) Slot.unset).toArray = ls at hl ⊢
  have hl : lv_has ls 3 [(0, .ref h0), (1, .ref u0)] := hl
  refine lv_aload_n hx hb dL_number_0 rfl (lv_at hl 1 rfl) ?_
  refine lv_iconst (v := 0) hx hb dL_number_1 (by decide) ?_
  refine lv_aload_n hx hb dL_number_2 rfl (lv_at hl 0 rfl) ?_
  have hS0 := hS
  have hFc := va_free (wc := [(h0, .inr (12, [.ref o0, .int 0, .ref g0, .ref o2, .ref o3, .ref o4, .ref o5, .int 0, .ref o6])), (g0, .inr (8, [.ref g1, .ref g2, .ref g3, .ref g4, .ref g5, .ref g6, .int 0, .int 0, .int 0, .int 0]))]) hD hS hA [0, 1] rfl
  refine vx_calll (vx_runV (As := []) (rest := [.int 0, .ref u0]) ⟨hx, hb, hml, hown, hts⟩ (c_X5_number l hl0 κ D (s.heap).size (h0) (o0) (g0) (o2) (o3) (o4) (o5) (o6) (g1) (g2) (g3) (g4) (g5) (g6) ) (cwV 0 hts gd_c_L_number_3 rfl rfl rfl (by decide +kernel) ⟨(Nat.le_of_ble_eq_true rfl), (Nat.le_of_ble_eq_true rfl)⟩) (preV hE hK hP hD hS hA [0, 1] rfl (by decide) [] rfl (va_recv hK hP (ci := 12) (q0 := 0) rfl rfl)) rfl rfl hl.1 rfl (lv_room (Nat.le_of_ble_eq_true rfl)) dL_number_3 ⟨(Nat.le_of_ble_eq_true rfl), (Nat.le_of_ble_eq_true rfl)⟩) hS (fun q _ h => hFc q h) hFc (fun q _ h => hFc q h) (fun E9 ce q9 u9 t H1 locs ht hvm _ hB hz1 hk1 hS hce hcv hcl => ?_) (fun _ _ _ _ _ _ _ hw => hw.elim)
  obtain ⟨rfl, hB⟩ := hB
  obtain ⟨hP, hD, hK⟩ := jn (wc := [(h0, .inr (12, [.ref o0, .int 0, .ref g0, .ref o2, .ref o3, .ref o4, .ref o5, .int 0, .ref o6])), (g0, .inr (8, [.ref g1, .ref g2, .ref g3, .ref g4, .ref g5, .ref g6, .int 0, .int 0, .int 0, .int 0]))]) (wr := [(u0, .inl (cL, 1, .inr (.inl fo)))]) (w1 := [(h0, .inr (12, [.ref o0, .int 0, .ref g0, .ref o2, .ref o3, .ref o4, .ref o5, .int 0, .ref o6])), (g0, .inr (8, [.ref g1, .ref g2, .ref g3, .ref g4, .ref g5, .ref g6, .int 0, .int 0, .int 0, .int 0]))]) (t1 := []) hP hD hK hS0 hA [0, 1] [2] rfl rfl (by decide) (by decide) ht hvm hk1 hB
  generalize H1 = H at hP hS hce ⊢
  have hP : va_P D vwCl ([(u0, .inl (cL, 1, .inr (.inl fo))), (h0, .inr (12, [.ref o0, .int 0, .ref g0, .ref o2, .ref o3, .ref o4, .ref o5, .int 0, .ref o6])), (g0, .inr (8, [.ref g1, .ref g2, .ref g3, .ref g4, .ref g5, .ref g6, .int 0, .int 0, .int 0, .int 0]))]) H := hP
  have hD : va_D A ([(u0, .inl (cL, 1, .inr (.inl fo))), (h0, .inr (12, [.ref o0, .int 0, .ref g0, .ref o2, .ref o3, .ref o4, .ref o5, .int 0, .ref o6])), (g0, .inr (8, [.ref g1, .ref g2, .ref g3, .ref g4, .ref g5, .ref g6, .int 0, .int 0, .int 0, .int 0]))]) := hD
  have hK : va_K D vwCl [(cL, .long)] s := hK
  refine vx_widen (k := 1) (n := 6) (Nat.le_of_ble_eq_true rfl) (Nat.le_of_ble_eq_true rfl) ?_
  refine vx_catch (E := "java/lang/IllegalStateException") (name := "java/lang/IllegalStateException") hown [] ⟨0, 7, 10, 15⟩ [] htb (fun z hz => absurd hz List.not_mem_nil) (by decide) (by decide) (hts (.classLink RL 15 "java/lang/IllegalStateException") (by decide +kernel)) (va_Nw.use rfl hE.ca1) hce hcv hcl ?_
  refine W.eq (g2 := F0 m 10 ls [.ref q9]) rfl ?_
  refine lv_astore_n (lv' := [(2, .ref q9), (0, .ref h0), (1, .ref u0)]) hx hb dL_number_10 rfl hl (by decide) rfl (fun ls hl => ?_)
  refine lv_iconst (v := 1) hx hb dL_number_11 (by decide) ?_
  refine W.widen (k := 1) (n := 6) (Nat.le_of_ble_eq_true rfl) (Nat.le_of_ble_eq_true rfl) ?_
  exact W.iret (v := 1) hx hb hr (fun t ht hW => ⟨⟨1, (), rfl, rfl, PB.at hP hK hD hW.alike ht [] rfl (by decide) [] rfl⟩, hS.F ht⟩) hS.2.2 dL_number_12

def wm_c_L_line : List Cond := .codeWith yL_line cL_line 3 (some .int) [(0, 8, 11, 15)] :: ([.code yX5_line cX5_line 1 (some .int), .code yX5_needBegun cX5_needBegun 1 none, .fieldLink RX5 19 "Sowingcourt" "game" "LSowingcourt$Game;", .fieldLink RX5 179 "Sowingcourt$Game" "begun" "Z", .classLink RX5 162 "java/lang/IllegalStateException", .initialized "java/lang/IllegalStateException", .methodLink RX5 187 yX5_needBegun, .instanceMethod yX5_needBegun, .selects RX5 yX5_needBegun yX5_needBegun, .initialized RX5, .methodLink RL 125 yX5_line, .instanceMethod yX5_line, .selects RX5 yX5_line yX5_line, .classLink RL 15 "java/lang/IllegalStateException"] ++ wsX50 ++ wsX10 ++ (vx_atS RX5 166 "java/lang/IllegalStateException" supX).filter goodWord)
set_option maxRecDepth 20000 in
theorem gd_c_L_line_3 : GoodIn wm_c_L_line (wsV RL 125 RX5 yX5_line wm_c_X5_line) := goodIn_of _ (by decide +kernel)
set_option maxHeartbeats 4000000 in
set_option maxRecDepth 100000 in
theorem c_L_line (l : Launch) (hl0 : l.stackTraces = false) (κ : Nat → Nat) (D : va_G) (sz : Nat) (h0 : Nat) (o0 : Nat) (g0 : Nat) (o2 : Nat) (o3 : Nat) (o4 : Nat) (o5 : Nat) (o6 : Nat) (g1 : Nat) (g2 : Nat) (g3 : Nat) (g4 : Nat) (g5 : Nat) (g6 : Nat) (u0 : Nat) (cL : ClassId) (fo : Nat → Int64)  : Met l yL_line wm_c_L_line ({ frames := 13, cells := 1, slots := 6, locals := 500 }) (va_Pc [.ref h0, .ref u0] (PC κ D [(cL, .long)] [(h0, .inr (12, [.ref o0, .int 0, .ref g0, .ref o2, .ref o3, .ref o4, .ref o5, .int 0, .ref o6])), (g0, .inr (8, [.ref g1, .ref g2, .ref g3, .ref g4, .ref g5, .ref g6, .int 0, .int 0, .int 0, .int 0])), (u0, .inl (cL, 1, .inr (.inl fo)))] sz)) (va_Qi (fun (r : Int32) (_ : Unit) => r = 1) (fun _ t => PB D [] [] (va_A [(h0, .inr (12, [.ref o0, .int 0, .ref g0, .ref o2, .ref o3, .ref o4, .ref o5, .int 0, .ref o6])), (g0, .inr (8, [.ref g1, .ref g2, .ref g3, .ref g4, .ref g5, .ref g6, .int 0, .int 0, .int 0, .int 0])), (u0, .inl (cL, 1, .inr (.inl fo)))] sz) t) (va_A [(h0, .inr (12, [.ref o0, .int 0, .ref g0, .ref o2, .ref o3, .ref o4, .ref o5, .int 0, .ref o6])), (g0, .inr (8, [.ref g1, .ref g2, .ref g3, .ref g4, .ref g5, .ref g6, .int 0, .int 0, .int 0, .int 0])), (u0, .inl (cL, 1, .inr (.inl fo)))] sz)) 1 6 (va_A [(h0, .inr (12, [.ref o0, .int 0, .ref g0, .ref o2, .ref o3, .ref o4, .ref o5, .int 0, .ref o6])), (g0, .inr (8, [.ref g1, .ref g2, .ref g3, .ref g4, .ref g5, .ref g6, .int 0, .int 0, .int 0, .int 0])), (u0, .inl (cL, 1, .inr (.inl fo)))] sz) := by
  refine va_MetW (cc := cL_line) (maxL := 3) (ret := (some .int)) (by decide +kernel) rfl ?_
  intro p e s m args below meth c s₁ B hml hv
  obtain ⟨rfl, hsz, hP, hK, hD0, hE⟩ := hv
  have hx := B.exec
  have hb := B.bytes
  have hr := B.returns
  have hts := atoms_spec (ws := wm_c_L_line) B.pre
  have hown : s.vm.findClass RL = some m.cls := findClass_of_methodNamed B.named
  have hlocks := B.notSynchronized
  have htb : c.exceptionTable.toList = tableOf [(0, 8, 11, 15)] := vx_table (x := yL_line) B (hts _ List.mem_cons_self)
  have iRX5 : ∀ w ∈ u_ws RX5 TX5 9, w ∈ wm_c_L_line := by decide +kernel
  have iRX1 : ∀ w ∈ u_ws RX1 TX1 10, w ∈ wm_c_L_line := by decide +kernel
  subst hsz
  have hD := hD0.self (sz := s.heap.size)
  generalize hAe : va_A [(h0, .inr (12, [.ref o0, .int 0, .ref g0, .ref o2, .ref o3, .ref o4, .ref o5, .int 0, .ref o6])), (g0, .inr (8, [.ref g1, .ref g2, .ref g3, .ref g4, .ref g5, .ref g6, .int 0, .int 0, .int 0, .int 0])), (u0, .inl (cL, 1, .inr (.inl fo)))] s.heap.size = A at hD hE ⊢
  have hA : ∀ q : Nat, s.heap.size ≤ q → A q := fun q h => by rw [← hAe]; exact Or.inr h
  have hS : va_S A s.heap s.heap [] := va_S.rf
  have hl := lv_entry ([.ref h0, .ref u0]) (n := 3) (Nat.le_of_ble_eq_true rfl)
  rw [lg_entry_eq]
  generalize (lg_sl ([.ref h0, .ref u0]) ++ List.replicate (3 - (lg_sl ([.ref h0, .ref u0])).length) Slot.unset).toArray = ls at hl ⊢
  have hl : lv_has ls 3 [(0, .ref h0), (1, .ref u0)] := hl
  refine lv_aload_n hx hb dL_line_0 rfl (lv_at hl 1 rfl) ?_
  refine lv_iconst (v := 0) hx hb dL_line_1 (by decide) ?_
  refine lv_aload_n hx hb dL_line_2 rfl (lv_at hl 0 rfl) ?_
  have hS0 := hS
  have hFc := va_free (wc := [(h0, .inr (12, [.ref o0, .int 0, .ref g0, .ref o2, .ref o3, .ref o4, .ref o5, .int 0, .ref o6])), (g0, .inr (8, [.ref g1, .ref g2, .ref g3, .ref g4, .ref g5, .ref g6, .int 0, .int 0, .int 0, .int 0]))]) hD hS hA [0, 1] rfl
  refine vx_calli (vx_runV (As := []) (rest := [.int 0, .ref u0]) ⟨hx, hb, hml, hown, hts⟩ (c_X5_line l hl0 κ D (s.heap).size (h0) (o0) (g0) (o2) (o3) (o4) (o5) (o6) (g1) (g2) (g3) (g4) (g5) (g6) ) (cwV 0 hts gd_c_L_line_3 rfl rfl rfl (by decide +kernel) ⟨(Nat.le_of_ble_eq_true rfl), (Nat.le_of_ble_eq_true rfl)⟩) (preV hE hK hP hD hS hA [0, 1] rfl (by decide) [] rfl (va_recv hK hP (ci := 12) (q0 := 0) rfl rfl)) rfl rfl hl.1 rfl (lv_room (Nat.le_of_ble_eq_true rfl)) dL_line_3 ⟨(Nat.le_of_ble_eq_true rfl), (Nat.le_of_ble_eq_true rfl)⟩) hS (fun q _ h => hFc q h) hFc (fun q _ h => hFc q h) (fun E9 ce q9 u9 t H1 locs ht hvm _ hB hz1 hk1 hS hce hcv hcl => ?_) (fun _ _ _ _ _ _ _ hw => hw.elim)
  obtain ⟨rfl, hB⟩ := hB
  obtain ⟨hP, hD, hK⟩ := jn (wc := [(h0, .inr (12, [.ref o0, .int 0, .ref g0, .ref o2, .ref o3, .ref o4, .ref o5, .int 0, .ref o6])), (g0, .inr (8, [.ref g1, .ref g2, .ref g3, .ref g4, .ref g5, .ref g6, .int 0, .int 0, .int 0, .int 0]))]) (wr := [(u0, .inl (cL, 1, .inr (.inl fo)))]) (w1 := [(h0, .inr (12, [.ref o0, .int 0, .ref g0, .ref o2, .ref o3, .ref o4, .ref o5, .int 0, .ref o6])), (g0, .inr (8, [.ref g1, .ref g2, .ref g3, .ref g4, .ref g5, .ref g6, .int 0, .int 0, .int 0, .int 0]))]) (t1 := []) hP hD hK hS0 hA [0, 1] [2] rfl rfl (by decide) (by decide) ht hvm hk1 hB
  generalize H1 = H at hP hS hce ⊢
  have hP : va_P D vwCl ([(u0, .inl (cL, 1, .inr (.inl fo))), (h0, .inr (12, [.ref o0, .int 0, .ref g0, .ref o2, .ref o3, .ref o4, .ref o5, .int 0, .ref o6])), (g0, .inr (8, [.ref g1, .ref g2, .ref g3, .ref g4, .ref g5, .ref g6, .int 0, .int 0, .int 0, .int 0]))]) H := hP
  have hD : va_D A ([(u0, .inl (cL, 1, .inr (.inl fo))), (h0, .inr (12, [.ref o0, .int 0, .ref g0, .ref o2, .ref o3, .ref o4, .ref o5, .int 0, .ref o6])), (g0, .inr (8, [.ref g1, .ref g2, .ref g3, .ref g4, .ref g5, .ref g6, .int 0, .int 0, .int 0, .int 0]))]) := hD
  have hK : va_K D vwCl [(cL, .long)] s := hK
  refine vx_widen (k := 1) (n := 6) (Nat.le_of_ble_eq_true rfl) (Nat.le_of_ble_eq_true rfl) ?_
  refine vx_catch (E := "java/lang/IllegalStateException") (name := "java/lang/IllegalStateException") hown [] ⟨0, 8, 11, 15⟩ [] htb (fun z hz => absurd hz List.not_mem_nil) (by decide) (by decide) (hts (.classLink RL 15 "java/lang/IllegalStateException") (by decide +kernel)) (va_Nw.use rfl hE.ca1) hce hcv hcl ?_
  refine W.eq (g2 := F0 m 11 ls [.ref q9]) rfl ?_
  refine lv_astore_n (lv' := [(2, .ref q9), (0, .ref h0), (1, .ref u0)]) hx hb dL_line_11 rfl hl (by decide) rfl (fun ls hl => ?_)
  refine lv_iconst (v := 1) hx hb dL_line_12 (by decide) ?_
  refine W.widen (k := 1) (n := 6) (Nat.le_of_ble_eq_true rfl) (Nat.le_of_ble_eq_true rfl) ?_
  exact W.iret (v := 1) hx hb hr (fun t ht hW => ⟨⟨1, (), rfl, rfl, PB.at hP hK hD hW.alike ht [] rfl (by decide) [] rfl⟩, hS.F ht⟩) hS.2.2 dL_line_13

def wm_c_L_sign : List Cond := .codeWith yL_sign cL_sign 4 (some .int) [(0, 9, 12, 15), (0, 9, 15, 38)] :: ([.code yX5_sign cX5_sign 2 (some .char), .code yX5_needBegun cX5_needBegun 1 none, .fieldLink RX5 19 "Sowingcourt" "game" "LSowingcourt$Game;", .fieldLink RX5 179 "Sowingcourt$Game" "begun" "Z", .classLink RX5 162 "java/lang/IllegalStateException", .initialized "java/lang/IllegalStateException", .methodLink RX5 187 yX5_needBegun, .instanceMethod yX5_needBegun, .selects RX5 yX5_needBegun yX5_needBegun, .initialized RX5, .methodLink RL 128 yX5_sign, .instanceMethod yX5_sign, .selects RX5 yX5_sign yX5_sign, .classLink RL 15 "java/lang/IllegalStateException"] ++ wsX50 ++ wsX10 ++ (vx_atS RX5 166 "java/lang/IllegalStateException" supX).filter goodWord)
set_option maxRecDepth 20000 in
theorem gd_c_L_sign_4 : GoodIn wm_c_L_sign (wsV RL 128 RX5 yX5_sign wm_c_X5_sign) := goodIn_of _ (by decide +kernel)
set_option maxHeartbeats 4000000 in
set_option maxRecDepth 100000 in
theorem c_L_sign (l : Launch) (hl0 : l.stackTraces = false) (κ : Nat → Nat) (D : va_G) (sz : Nat) (h0 : Nat) (o0 : Nat) (g0 : Nat) (o2 : Nat) (o3 : Nat) (o4 : Nat) (o5 : Nat) (o6 : Nat) (g1 : Nat) (g2 : Nat) (g3 : Nat) (g4 : Nat) (g5 : Nat) (g6 : Nat) (p0 : Int32) (u0 : Nat) (cL : ClassId) (fo : Nat → Int64)  : Met l yL_sign wm_c_L_sign ({ frames := 13, cells := 1, slots := 6, locals := 500 }) (va_Pc [.ref h0, .int p0, .ref u0] (PC κ D [(cL, .long)] [(h0, .inr (12, [.ref o0, .int 0, .ref g0, .ref o2, .ref o3, .ref o4, .ref o5, .int 0, .ref o6])), (g0, .inr (8, [.ref g1, .ref g2, .ref g3, .ref g4, .ref g5, .ref g6, .int 0, .int 0, .int 0, .int 0])), (u0, .inl (cL, 1, .inr (.inl fo)))] sz)) (va_Qi (fun (r : Int32) (_ : Unit) => r = 1) (fun _ t => PB D [] [] (va_A [(h0, .inr (12, [.ref o0, .int 0, .ref g0, .ref o2, .ref o3, .ref o4, .ref o5, .int 0, .ref o6])), (g0, .inr (8, [.ref g1, .ref g2, .ref g3, .ref g4, .ref g5, .ref g6, .int 0, .int 0, .int 0, .int 0])), (u0, .inl (cL, 1, .inr (.inl fo)))] sz) t) (va_A [(h0, .inr (12, [.ref o0, .int 0, .ref g0, .ref o2, .ref o3, .ref o4, .ref o5, .int 0, .ref o6])), (g0, .inr (8, [.ref g1, .ref g2, .ref g3, .ref g4, .ref g5, .ref g6, .int 0, .int 0, .int 0, .int 0])), (u0, .inl (cL, 1, .inr (.inl fo)))] sz)) 1 6 (va_A [(h0, .inr (12, [.ref o0, .int 0, .ref g0, .ref o2, .ref o3, .ref o4, .ref o5, .int 0, .ref o6])), (g0, .inr (8, [.ref g1, .ref g2, .ref g3, .ref g4, .ref g5, .ref g6, .int 0, .int 0, .int 0, .int 0])), (u0, .inl (cL, 1, .inr (.inl fo)))] sz) := by
  refine va_MetW (cc := cL_sign) (maxL := 4) (ret := (some .int)) (by decide +kernel) rfl ?_
  intro p e s m args below meth c s₁ B hml hv
  obtain ⟨rfl, hsz, hP, hK, hD0, hE⟩ := hv
  have hx := B.exec
  have hb := B.bytes
  have hr := B.returns
  have hts := atoms_spec (ws := wm_c_L_sign) B.pre
  have hown : s.vm.findClass RL = some m.cls := findClass_of_methodNamed B.named
  have hlocks := B.notSynchronized
  have htb : c.exceptionTable.toList = tableOf [(0, 9, 12, 15), (0, 9, 15, 38)] := vx_table (x := yL_sign) B (hts _ List.mem_cons_self)
  have iRX5 : ∀ w ∈ u_ws RX5 TX5 9, w ∈ wm_c_L_sign := by decide +kernel
  have iRX1 : ∀ w ∈ u_ws RX1 TX1 10, w ∈ wm_c_L_sign := by decide +kernel
  subst hsz
  have hD := hD0.self (sz := s.heap.size)
  generalize hAe : va_A [(h0, .inr (12, [.ref o0, .int 0, .ref g0, .ref o2, .ref o3, .ref o4, .ref o5, .int 0, .ref o6])), (g0, .inr (8, [.ref g1, .ref g2, .ref g3, .ref g4, .ref g5, .ref g6, .int 0, .int 0, .int 0, .int 0])), (u0, .inl (cL, 1, .inr (.inl fo)))] s.heap.size = A at hD hE ⊢
  have hA : ∀ q : Nat, s.heap.size ≤ q → A q := fun q h => by rw [← hAe]; exact Or.inr h
  have hS : va_S A s.heap s.heap [] := va_S.rf
  have hl := lv_entry ([.ref h0, .int p0, .ref u0]) (n := 4) (Nat.le_of_ble_eq_true rfl)
  rw [lg_entry_eq]
  generalize (lg_sl ([.ref h0, .int p0, .ref u0]) ++ List.replicate (4 - (lg_sl ([.ref h0, .int p0, .ref u0])).length) Slot.unset).toArray = ls at hl ⊢
  have hl : lv_has ls 4 [(0, .ref h0), (1, .int p0), (2, .ref u0)] := hl
  refine lv_aload_n hx hb dL_sign_0 rfl (lv_at hl 2 rfl) ?_
  refine lv_iconst (v := 0) hx hb dL_sign_1 (by decide) ?_
  refine lv_aload_n hx hb dL_sign_2 rfl (lv_at hl 0 rfl) ?_
  refine lv_iload_n hx hb dL_sign_3 rfl (lv_at hl 1 rfl) ?_
  have hS0 := hS
  have hFc := va_free (wc := [(h0, .inr (12, [.ref o0, .int 0, .ref g0, .ref o2, .ref o3, .ref o4, .ref o5, .int 0, .ref o6])), (g0, .inr (8, [.ref g1, .ref g2, .ref g3, .ref g4, .ref g5, .ref g6, .int 0, .int 0, .int 0, .int 0]))]) hD hS hA [0, 1] rfl
  refine vx_calli (vx_runV (As := [.int p0]) (rest := [.int 0, .ref u0]) ⟨hx, hb, hml, hown, hts⟩ (c_X5_sign l hl0 κ D (s.heap).size (h0) (o0) (g0) (o2) (o3) (o4) (o5) (o6) (g1) (g2) (g3) (g4) (g5) (g6) (p0) ) (cwV 1 hts gd_c_L_sign_4 rfl rfl rfl (by decide +kernel) ⟨(Nat.le_of_ble_eq_true rfl), (Nat.le_of_ble_eq_true rfl)⟩) (preV hE hK hP hD hS hA [0, 1] rfl (by decide) [] rfl (va_recv hK hP (ci := 12) (q0 := 0) rfl rfl)) rfl rfl hl.1 rfl (lv_room (Nat.le_of_ble_eq_true rfl)) dL_sign_4 ⟨(Nat.le_of_ble_eq_true rfl), (Nat.le_of_ble_eq_true rfl)⟩) hS (fun q _ h => hFc q h) hFc (fun q _ h => hFc q h) (fun E9 ce q9 u9 t H1 locs ht hvm _ hB hz1 hk1 hS hce hcv hcl => ?_) (fun _ _ _ _ _ _ _ hw => hw.elim)
  obtain ⟨rfl, hB⟩ := hB
  obtain ⟨hP, hD, hK⟩ := jn (wc := [(h0, .inr (12, [.ref o0, .int 0, .ref g0, .ref o2, .ref o3, .ref o4, .ref o5, .int 0, .ref o6])), (g0, .inr (8, [.ref g1, .ref g2, .ref g3, .ref g4, .ref g5, .ref g6, .int 0, .int 0, .int 0, .int 0]))]) (wr := [(u0, .inl (cL, 1, .inr (.inl fo)))]) (w1 := [(h0, .inr (12, [.ref o0, .int 0, .ref g0, .ref o2, .ref o3, .ref o4, .ref o5, .int 0, .ref o6])), (g0, .inr (8, [.ref g1, .ref g2, .ref g3, .ref g4, .ref g5, .ref g6, .int 0, .int 0, .int 0, .int 0]))]) (t1 := []) hP hD hK hS0 hA [0, 1] [2] rfl rfl (by decide) (by decide) ht hvm hk1 hB
  generalize H1 = H at hP hS hce ⊢
  have hP : va_P D vwCl ([(u0, .inl (cL, 1, .inr (.inl fo))), (h0, .inr (12, [.ref o0, .int 0, .ref g0, .ref o2, .ref o3, .ref o4, .ref o5, .int 0, .ref o6])), (g0, .inr (8, [.ref g1, .ref g2, .ref g3, .ref g4, .ref g5, .ref g6, .int 0, .int 0, .int 0, .int 0]))]) H := hP
  have hD : va_D A ([(u0, .inl (cL, 1, .inr (.inl fo))), (h0, .inr (12, [.ref o0, .int 0, .ref g0, .ref o2, .ref o3, .ref o4, .ref o5, .int 0, .ref o6])), (g0, .inr (8, [.ref g1, .ref g2, .ref g3, .ref g4, .ref g5, .ref g6, .int 0, .int 0, .int 0, .int 0]))]) := hD
  have hK : va_K D vwCl [(cL, .long)] s := hK
  refine vx_widen (k := 1) (n := 6) (Nat.le_of_ble_eq_true rfl) (Nat.le_of_ble_eq_true rfl) ?_
  refine vx_catch (E := "java/lang/IllegalStateException") (name := "java/lang/IllegalStateException") hown [] ⟨0, 9, 12, 15⟩ [⟨0, 9, 15, 38⟩] htb (fun z hz => absurd hz List.not_mem_nil) (by decide) (by decide) (hts (.classLink RL 15 "java/lang/IllegalStateException") (by decide +kernel)) (va_Nw.use rfl hE.ca1) hce hcv hcl ?_
  refine W.eq (g2 := F0 m 12 ls [.ref q9]) rfl ?_
  refine lv_astore_n (lv' := [(3, .ref q9), (0, .ref h0), (1, .int p0), (2, .ref u0)]) hx hb dL_sign_12 rfl hl (by decide) rfl (fun ls hl => ?_)
  refine lv_iconst (v := 1) hx hb dL_sign_13 (by decide) ?_
  refine W.widen (k := 1) (n := 6) (Nat.le_of_ble_eq_true rfl) (Nat.le_of_ble_eq_true rfl) ?_
  exact W.iret (v := 1) hx hb hr (fun t ht hW => ⟨⟨1, (), rfl, rfl, PB.at hP hK hD hW.alike ht [] rfl (by decide) [] rfl⟩, hS.F ht⟩) hS.2.2 dL_sign_14

def wm_c_L_undo : List Cond := .codeWith yL_undo cL_undo 3 (some .int) [(0, 8, 11, 46)] :: ([.code yX5_undo cX5_undo 1 (some .int), .fieldLink RX5 19 "Sowingcourt" "game" "LSowingcourt$Game;", .fieldLink RX5 179 "Sowingcourt$Game" "begun" "Z", .classLink RX5 150 "java/lang/UnsupportedOperationException", .initialized "java/lang/UnsupportedOperationException", .methodLink RL 59 yX5_undo, .instanceMethod yX5_undo, .selects RX5 yX5_undo yX5_undo, .initialized RX5, .classLink RL 46 "java/lang/UnsupportedOperationException"] ++ wsX50 ++ wsX10 ++ (vx_atS RX5 154 "java/lang/UnsupportedOperationException" supX).filter goodWord)
set_option maxRecDepth 20000 in
theorem gd_c_L_undo_3 : GoodIn wm_c_L_undo (wsV RL 59 RX5 yX5_undo wm_c_X5_undo) := goodIn_of _ (by decide +kernel)
set_option maxHeartbeats 4000000 in
set_option maxRecDepth 100000 in
theorem c_L_undo (l : Launch) (hl0 : l.stackTraces = false) (κ : Nat → Nat) (D : va_G) (sz : Nat) (h0 : Nat) (o0 : Nat) (g0 : Nat) (o2 : Nat) (o3 : Nat) (o4 : Nat) (o5 : Nat) (o6 : Nat) (g1 : Nat) (g2 : Nat) (g3 : Nat) (g4 : Nat) (g5 : Nat) (g6 : Nat) (u0 : Nat) (cL : ClassId) (fo : Nat → Int64)  : Met l yL_undo wm_c_L_undo ({ frames := 13, cells := 1, slots := 6, locals := 500 }) (va_Pc [.ref h0, .ref u0] (PC κ D [(cL, .long)] [(h0, .inr (12, [.ref o0, .int 0, .ref g0, .ref o2, .ref o3, .ref o4, .ref o5, .int 0, .ref o6])), (g0, .inr (8, [.ref g1, .ref g2, .ref g3, .ref g4, .ref g5, .ref g6, .int 0, .int 0, .int 0, .int 0])), (u0, .inl (cL, 1, .inr (.inl fo)))] sz)) (va_Qi (fun (r : Int32) (_ : Unit) => r = 1) (fun _ t => PB D [] [] (va_A [(h0, .inr (12, [.ref o0, .int 0, .ref g0, .ref o2, .ref o3, .ref o4, .ref o5, .int 0, .ref o6])), (g0, .inr (8, [.ref g1, .ref g2, .ref g3, .ref g4, .ref g5, .ref g6, .int 0, .int 0, .int 0, .int 0])), (u0, .inl (cL, 1, .inr (.inl fo)))] sz) t) (va_A [(h0, .inr (12, [.ref o0, .int 0, .ref g0, .ref o2, .ref o3, .ref o4, .ref o5, .int 0, .ref o6])), (g0, .inr (8, [.ref g1, .ref g2, .ref g3, .ref g4, .ref g5, .ref g6, .int 0, .int 0, .int 0, .int 0])), (u0, .inl (cL, 1, .inr (.inl fo)))] sz)) 1 6 (va_A [(h0, .inr (12, [.ref o0, .int 0, .ref g0, .ref o2, .ref o3, .ref o4, .ref o5, .int 0, .ref o6])), (g0, .inr (8, [.ref g1, .ref g2, .ref g3, .ref g4, .ref g5, .ref g6, .int 0, .int 0, .int 0, .int 0])), (u0, .inl (cL, 1, .inr (.inl fo)))] sz) := by
  refine va_MetW (cc := cL_undo) (maxL := 3) (ret := (some .int)) (by decide +kernel) rfl ?_
  intro p e s m args below meth c s₁ B hml hv
  obtain ⟨rfl, hsz, hP, hK, hD0, hE⟩ := hv
  have hx := B.exec
  have hb := B.bytes
  have hr := B.returns
  have hts := atoms_spec (ws := wm_c_L_undo) B.pre
  have hown : s.vm.findClass RL = some m.cls := findClass_of_methodNamed B.named
  have hlocks := B.notSynchronized
  have htb : c.exceptionTable.toList = tableOf [(0, 8, 11, 46)] := vx_table (x := yL_undo) B (hts _ List.mem_cons_self)
  have iRX5 : ∀ w ∈ u_ws RX5 TX5 9, w ∈ wm_c_L_undo := by decide +kernel
  have iRX1 : ∀ w ∈ u_ws RX1 TX1 10, w ∈ wm_c_L_undo := by decide +kernel
  subst hsz
  have hD := hD0.self (sz := s.heap.size)
  generalize hAe : va_A [(h0, .inr (12, [.ref o0, .int 0, .ref g0, .ref o2, .ref o3, .ref o4, .ref o5, .int 0, .ref o6])), (g0, .inr (8, [.ref g1, .ref g2, .ref g3, .ref g4, .ref g5, .ref g6, .int 0, .int 0, .int 0, .int 0])), (u0, .inl (cL, 1, .inr (.inl fo)))] s.heap.size = A at hD hE ⊢
  have hA : ∀ q : Nat, s.heap.size ≤ q → A q := fun q h => by rw [← hAe]; exact Or.inr h
  have hS : va_S A s.heap s.heap [] := va_S.rf
  have hl := lv_entry ([.ref h0, .ref u0]) (n := 3) (Nat.le_of_ble_eq_true rfl)
  rw [lg_entry_eq]
  generalize (lg_sl ([.ref h0, .ref u0]) ++ List.replicate (3 - (lg_sl ([.ref h0, .ref u0])).length) Slot.unset).toArray = ls at hl ⊢
  have hl : lv_has ls 3 [(0, .ref h0), (1, .ref u0)] := hl
  refine lv_aload_n hx hb dL_undo_0 rfl (lv_at hl 1 rfl) ?_
  refine lv_iconst (v := 0) hx hb dL_undo_1 (by decide) ?_
  refine lv_aload_n hx hb dL_undo_2 rfl (lv_at hl 0 rfl) ?_
  have hS0 := hS
  have hFc := va_free (wc := [(h0, .inr (12, [.ref o0, .int 0, .ref g0, .ref o2, .ref o3, .ref o4, .ref o5, .int 0, .ref o6])), (g0, .inr (8, [.ref g1, .ref g2, .ref g3, .ref g4, .ref g5, .ref g6, .int 0, .int 0, .int 0, .int 0]))]) hD hS hA [0, 1] rfl
  refine vx_calli (vx_runV (As := []) (rest := [.int 0, .ref u0]) ⟨hx, hb, hml, hown, hts⟩ (c_X5_undo l hl0 κ D (s.heap).size (h0) (o0) (g0) (o2) (o3) (o4) (o5) (o6) (g1) (g2) (g3) (g4) (g5) (g6) ) (cwV 0 hts gd_c_L_undo_3 rfl rfl rfl (by decide +kernel) ⟨(Nat.le_of_ble_eq_true rfl), (Nat.le_of_ble_eq_true rfl)⟩) (preV hE hK hP hD hS hA [0, 1] rfl (by decide) [] rfl (va_recv hK hP (ci := 12) (q0 := 0) rfl rfl)) rfl rfl hl.1 rfl (lv_room (Nat.le_of_ble_eq_true rfl)) dL_undo_3 ⟨(Nat.le_of_ble_eq_true rfl), (Nat.le_of_ble_eq_true rfl)⟩) hS (fun q _ h => hFc q h) hFc (fun q _ h => hFc q h) (fun E9 ce q9 u9 t H1 locs ht hvm _ hB hz1 hk1 hS hce hcv hcl => ?_) (fun _ _ _ _ _ _ _ hw => hw.elim)
  obtain ⟨rfl, hB⟩ := hB
  obtain ⟨hP, hD, hK⟩ := jn (wc := [(h0, .inr (12, [.ref o0, .int 0, .ref g0, .ref o2, .ref o3, .ref o4, .ref o5, .int 0, .ref o6])), (g0, .inr (8, [.ref g1, .ref g2, .ref g3, .ref g4, .ref g5, .ref g6, .int 0, .int 0, .int 0, .int 0]))]) (wr := [(u0, .inl (cL, 1, .inr (.inl fo)))]) (w1 := [(h0, .inr (12, [.ref o0, .int 0, .ref g0, .ref o2, .ref o3, .ref o4, .ref o5, .int 0, .ref o6])), (g0, .inr (8, [.ref g1, .ref g2, .ref g3, .ref g4, .ref g5, .ref g6, .int 0, .int 0, .int 0, .int 0]))]) (t1 := []) hP hD hK hS0 hA [0, 1] [2] rfl rfl (by decide) (by decide) ht hvm hk1 hB
  generalize H1 = H at hP hS hce ⊢
  have hP : va_P D vwCl ([(u0, .inl (cL, 1, .inr (.inl fo))), (h0, .inr (12, [.ref o0, .int 0, .ref g0, .ref o2, .ref o3, .ref o4, .ref o5, .int 0, .ref o6])), (g0, .inr (8, [.ref g1, .ref g2, .ref g3, .ref g4, .ref g5, .ref g6, .int 0, .int 0, .int 0, .int 0]))]) H := hP
  have hD : va_D A ([(u0, .inl (cL, 1, .inr (.inl fo))), (h0, .inr (12, [.ref o0, .int 0, .ref g0, .ref o2, .ref o3, .ref o4, .ref o5, .int 0, .ref o6])), (g0, .inr (8, [.ref g1, .ref g2, .ref g3, .ref g4, .ref g5, .ref g6, .int 0, .int 0, .int 0, .int 0]))]) := hD
  have hK : va_K D vwCl [(cL, .long)] s := hK
  refine vx_widen (k := 1) (n := 6) (Nat.le_of_ble_eq_true rfl) (Nat.le_of_ble_eq_true rfl) ?_
  refine vx_catch (E := "java/lang/UnsupportedOperationException") (name := "java/lang/UnsupportedOperationException") hown [] ⟨0, 8, 11, 46⟩ [] htb (fun z hz => absurd hz List.not_mem_nil) (by decide) (by decide) (hts (.classLink RL 46 "java/lang/UnsupportedOperationException") (by decide +kernel)) (va_Nw.use rfl hE.ca4) hce hcv hcl ?_
  refine W.eq (g2 := F0 m 11 ls [.ref q9]) rfl ?_
  refine lv_astore_n (lv' := [(2, .ref q9), (0, .ref h0), (1, .ref u0)]) hx hb dL_undo_11 rfl hl (by decide) rfl (fun ls hl => ?_)
  refine lv_iconst (v := 1) hx hb dL_undo_12 (by decide) ?_
  refine W.widen (k := 1) (n := 6) (Nat.le_of_ble_eq_true rfl) (Nat.le_of_ble_eq_true rfl) ?_
  exact W.iret (v := 1) hx hb hr (fun t ht hW => ⟨⟨1, (), rfl, rfl, PB.at hP hK hD hW.alike ht [] rfl (by decide) [] rfl⟩, hS.F ht⟩) hS.2.2 dL_undo_13

def wm_c_L_explainer : List Cond := .codeWith yL_explainer cL_explainer 3 (some .int) [(0, 8, 11, 38)] :: ([.code yX5_explainer cX5_explainer 5 (some .int), .fieldLink RX5 80 "Sowingcourt" "kindCount" "I", .classLink RX5 116 "java/util/NoSuchElementException", .initialized "java/util/NoSuchElementException", .methodLink RL 122 yX5_explainer, .instanceMethod yX5_explainer, .selects RX5 yX5_explainer yX5_explainer, .initialized RX5, .classLink RL 38 "java/util/NoSuchElementException"] ++ wsX50 ++ (vx_atSX RX5 120 "java/util/NoSuchElementException" 13 prog_49_method_4_code supX).filter goodWord)
set_option maxRecDepth 20000 in
theorem gd_c_L_explainer_3 : GoodIn wm_c_L_explainer (wsV RL 122 RX5 yX5_explainer wm_c_X5_explainer) := goodIn_of _ (by decide +kernel)
set_option maxHeartbeats 4000000 in
set_option maxRecDepth 100000 in
theorem c_L_explainer (l : Launch) (hl0 : l.stackTraces = false) (κ : Nat → Nat) (D : va_G) (sz : Nat) (h0 : Nat) (o0 : Nat) (g0 : Nat) (o2 : Nat) (o3 : Nat) (o4 : Nat) (o5 : Nat) (o6 : Nat) (u0 : Nat) (cL : ClassId) (fo : Nat → Int64)  : Met l yL_explainer wm_c_L_explainer ({ frames := 13, cells := 1, slots := 6, locals := 500 }) (va_Pc [.ref h0, .ref u0] (PC κ D [(cL, .long)] [(h0, .inr (12, [.ref o0, .int 0, .ref g0, .ref o2, .ref o3, .ref o4, .ref o5, .int 0, .ref o6])), (u0, .inl (cL, 1, .inr (.inl fo)))] sz)) (va_Qi (fun (r : Int32) (_ : Unit) => r = 1) (fun _ t => PB D [] [] (va_A [(h0, .inr (12, [.ref o0, .int 0, .ref g0, .ref o2, .ref o3, .ref o4, .ref o5, .int 0, .ref o6])), (u0, .inl (cL, 1, .inr (.inl fo)))] sz) t) (va_A [(h0, .inr (12, [.ref o0, .int 0, .ref g0, .ref o2, .ref o3, .ref o4, .ref o5, .int 0, .ref o6])), (u0, .inl (cL, 1, .inr (.inl fo)))] sz)) 1 6 (va_A [(h0, .inr (12, [.ref o0, .int 0, .ref g0, .ref o2, .ref o3, .ref o4, .ref o5, .int 0, .ref o6])), (u0, .inl (cL, 1, .inr (.inl fo)))] sz) := by
  refine va_MetW (cc := cL_explainer) (maxL := 3) (ret := (some .int)) (by decide +kernel) rfl ?_
  intro p e s m args below meth c s₁ B hml hv
  obtain ⟨rfl, hsz, hP, hK, hD0, hE⟩ := hv
  have hx := B.exec
  have hb := B.bytes
  have hr := B.returns
  have hts := atoms_spec (ws := wm_c_L_explainer) B.pre
  have hown : s.vm.findClass RL = some m.cls := findClass_of_methodNamed B.named
  have hlocks := B.notSynchronized
  have htb : c.exceptionTable.toList = tableOf [(0, 8, 11, 38)] := vx_table (x := yL_explainer) B (hts _ List.mem_cons_self)
  have iRX5 : ∀ w ∈ u_ws RX5 TX5 9, w ∈ wm_c_L_explainer := by decide +kernel
  subst hsz
  have hD := hD0.self (sz := s.heap.size)
  generalize hAe : va_A [(h0, .inr (12, [.ref o0, .int 0, .ref g0, .ref o2, .ref o3, .ref o4, .ref o5, .int 0, .ref o6])), (u0, .inl (cL, 1, .inr (.inl fo)))] s.heap.size = A at hD hE ⊢
  have hA : ∀ q : Nat, s.heap.size ≤ q → A q := fun q h => by rw [← hAe]; exact Or.inr h
  have hS : va_S A s.heap s.heap [] := va_S.rf
  have hl := lv_entry ([.ref h0, .ref u0]) (n := 3) (Nat.le_of_ble_eq_true rfl)
  rw [lg_entry_eq]
  generalize (lg_sl ([.ref h0, .ref u0]) ++ List.replicate (3 - (lg_sl ([.ref h0, .ref u0])).length) Slot.unset).toArray = ls at hl ⊢
  have hl : lv_has ls 3 [(0, .ref h0), (1, .ref u0)] := hl
  refine lv_aload_n hx hb dL_explainer_0 rfl (lv_at hl 1 rfl) ?_
  refine lv_iconst (v := 0) hx hb dL_explainer_1 (by decide) ?_
  refine lv_aload_n hx hb dL_explainer_2 rfl (lv_at hl 0 rfl) ?_
  have hS0 := hS
  have hFc := va_free (wc := [(h0, .inr (12, [.ref o0, .int 0, .ref g0, .ref o2, .ref o3, .ref o4, .ref o5, .int 0, .ref o6]))]) hD hS hA [0] rfl
  refine vx_calli (vx_runV (As := []) (rest := [.int 0, .ref u0]) ⟨hx, hb, hml, hown, hts⟩ (c_X5_explainer l hl0 κ D (s.heap).size (h0) (o0) (g0) (o2) (o3) (o4) (o5) (o6) ) (cwV 0 hts gd_c_L_explainer_3 rfl rfl rfl (by decide +kernel) ⟨(Nat.le_of_ble_eq_true rfl), (Nat.le_of_ble_eq_true rfl)⟩) (preV hE hK hP hD hS hA [0] rfl (by decide) [] rfl (va_recv hK hP (ci := 12) (q0 := 0) rfl rfl)) rfl rfl hl.1 rfl (lv_room (Nat.le_of_ble_eq_true rfl)) dL_explainer_3 ⟨(Nat.le_of_ble_eq_true rfl), (Nat.le_of_ble_eq_true rfl)⟩) hS (fun q _ h => hFc q h) hFc (fun q _ h => hFc q h) (fun E9 ce q9 u9 t H1 locs ht hvm _ hB hz1 hk1 hS hce hcv hcl => ?_) (fun _ _ _ _ _ _ _ hw => hw.elim)
  obtain ⟨rfl, hB⟩ := hB
  obtain ⟨hP, hD, hK⟩ := jn (wc := [(h0, .inr (12, [.ref o0, .int 0, .ref g0, .ref o2, .ref o3, .ref o4, .ref o5, .int 0, .ref o6]))]) (wr := [(u0, .inl (cL, 1, .inr (.inl fo)))]) (w1 := [(h0, .inr (12, [.ref o0, .int 0, .ref g0, .ref o2, .ref o3, .ref o4, .ref o5, .int 0, .ref o6]))]) (t1 := []) hP hD hK hS0 hA [0] [1] rfl rfl (by decide) (by decide) ht hvm hk1 hB
  generalize H1 = H at hP hS hce ⊢
  have hP : va_P D vwCl ([(u0, .inl (cL, 1, .inr (.inl fo))), (h0, .inr (12, [.ref o0, .int 0, .ref g0, .ref o2, .ref o3, .ref o4, .ref o5, .int 0, .ref o6]))]) H := hP
  have hD : va_D A ([(u0, .inl (cL, 1, .inr (.inl fo))), (h0, .inr (12, [.ref o0, .int 0, .ref g0, .ref o2, .ref o3, .ref o4, .ref o5, .int 0, .ref o6]))]) := hD
  have hK : va_K D vwCl [(cL, .long)] s := hK
  refine vx_widen (k := 1) (n := 6) (Nat.le_of_ble_eq_true rfl) (Nat.le_of_ble_eq_true rfl) ?_
  refine vx_catch (E := "java/util/NoSuchElementException") (name := "java/util/NoSuchElementException") hown [] ⟨0, 8, 11, 38⟩ [] htb (fun z hz => absurd hz List.not_mem_nil) (by decide) (by decide) (hts (.classLink RL 38 "java/util/NoSuchElementException") (by decide +kernel)) (va_Nw.use rfl hE.ca3) hce hcv hcl ?_
  refine W.eq (g2 := F0 m 11 ls [.ref q9]) rfl ?_
  refine lv_astore_n (lv' := [(2, .ref q9), (0, .ref h0), (1, .ref u0)]) hx hb dL_explainer_11 rfl hl (by decide) rfl (fun ls hl => ?_)
  refine lv_iconst (v := 1) hx hb dL_explainer_12 (by decide) ?_
  refine W.widen (k := 1) (n := 6) (Nat.le_of_ble_eq_true rfl) (Nat.le_of_ble_eq_true rfl) ?_
  exact W.iret (v := 1) hx hb hr (fun t ht hW => ⟨⟨1, (), rfl, rfl, PB.at hP hK hD hW.alike ht [] rfl (by decide) [] rfl⟩, hS.F ht⟩) hS.2.2 dL_explainer_13

def wm_c_L_meanUnlike : List Cond := .codeWith yL_meanUnlike cL_meanUnlike 3 (some .int) [(0, 7, 10, 139)] :: ([.code yX5_meanUnlike cX5_meanUnlike 3 (some .double), .fieldLink RX5 80 "Sowingcourt" "kindCount" "I", .classLink RX5 297 "java/lang/ArithmeticException", .initialized "java/lang/ArithmeticException", .methodLink RL 135 yX5_meanUnlike, .instanceMethod yX5_meanUnlike, .selects RX5 yX5_meanUnlike yX5_meanUnlike, .initialized RX5, .classLink RL 139 "java/lang/ArithmeticException"] ++ wsX50 ++ (vx_atS RX5 301 "java/lang/ArithmeticException" supX).filter goodWord)
set_option maxRecDepth 20000 in
theorem gd_c_L_meanUnlike_3 : GoodIn wm_c_L_meanUnlike (wsV RL 135 RX5 yX5_meanUnlike wm_c_X5_meanUnlike) := goodIn_of _ (by decide +kernel)
set_option maxHeartbeats 4000000 in
set_option maxRecDepth 100000 in
theorem c_L_meanUnlike (l : Launch) (hl0 : l.stackTraces = false) (κ : Nat → Nat) (D : va_G) (sz : Nat) (h0 : Nat) (o0 : Nat) (g0 : Nat) (o2 : Nat) (o3 : Nat) (o4 : Nat) (o5 : Nat) (o6 : Nat) (u0 : Nat) (cL : ClassId) (fo : Nat → UInt64)  : Met l yL_meanUnlike wm_c_L_meanUnlike ({ frames := 13, cells := 1, slots := 6, locals := 500 }) (va_Pc [.ref h0, .ref u0] (PC κ D [(cL, .double)] [(h0, .inr (12, [.ref o0, .int 0, .ref g0, .ref o2, .ref o3, .ref o4, .ref o5, .int 0, .ref o6])), (u0, .inl (cL, 1, .inr (.inr (.inr (.inl fo)))))] sz)) (va_Qi (fun (r : Int32) (_ : Unit) => r = 1) (fun _ t => PB D [] [] (va_A [(h0, .inr (12, [.ref o0, .int 0, .ref g0, .ref o2, .ref o3, .ref o4, .ref o5, .int 0, .ref o6])), (u0, .inl (cL, 1, .inr (.inr (.inr (.inl fo)))))] sz) t) (va_A [(h0, .inr (12, [.ref o0, .int 0, .ref g0, .ref o2, .ref o3, .ref o4, .ref o5, .int 0, .ref o6])), (u0, .inl (cL, 1, .inr (.inr (.inr (.inl fo)))))] sz)) 1 6 (va_A [(h0, .inr (12, [.ref o0, .int 0, .ref g0, .ref o2, .ref o3, .ref o4, .ref o5, .int 0, .ref o6])), (u0, .inl (cL, 1, .inr (.inr (.inr (.inl fo)))))] sz) := by
  refine va_MetW (cc := cL_meanUnlike) (maxL := 3) (ret := (some .int)) (by decide +kernel) rfl ?_
  intro p e s m args below meth c s₁ B hml hv
  obtain ⟨rfl, hsz, hP, hK, hD0, hE⟩ := hv
  have hx := B.exec
  have hb := B.bytes
  have hr := B.returns
  have hts := atoms_spec (ws := wm_c_L_meanUnlike) B.pre
  have hown : s.vm.findClass RL = some m.cls := findClass_of_methodNamed B.named
  have hlocks := B.notSynchronized
  have htb : c.exceptionTable.toList = tableOf [(0, 7, 10, 139)] := vx_table (x := yL_meanUnlike) B (hts _ List.mem_cons_self)
  have iRX5 : ∀ w ∈ u_ws RX5 TX5 9, w ∈ wm_c_L_meanUnlike := by decide +kernel
  subst hsz
  have hD := hD0.self (sz := s.heap.size)
  generalize hAe : va_A [(h0, .inr (12, [.ref o0, .int 0, .ref g0, .ref o2, .ref o3, .ref o4, .ref o5, .int 0, .ref o6])), (u0, .inl (cL, 1, .inr (.inr (.inr (.inl fo)))))] s.heap.size = A at hD hE ⊢
  have hA : ∀ q : Nat, s.heap.size ≤ q → A q := fun q h => by rw [← hAe]; exact Or.inr h
  have hS : va_S A s.heap s.heap [] := va_S.rf
  have hl := lv_entry ([.ref h0, .ref u0]) (n := 3) (Nat.le_of_ble_eq_true rfl)
  rw [lg_entry_eq]
  generalize (lg_sl ([.ref h0, .ref u0]) ++ List.replicate (3 - (lg_sl ([.ref h0, .ref u0])).length) Slot.unset).toArray = ls at hl ⊢
  have hl : lv_has ls 3 [(0, .ref h0), (1, .ref u0)] := hl
  refine lv_aload_n hx hb dL_meanUnlike_0 rfl (lv_at hl 1 rfl) ?_
  refine lv_iconst (v := 0) hx hb dL_meanUnlike_1 (by decide) ?_
  refine lv_aload_n hx hb dL_meanUnlike_2 rfl (lv_at hl 0 rfl) ?_
  have hS0 := hS
  have hFc := va_free (wc := [(h0, .inr (12, [.ref o0, .int 0, .ref g0, .ref o2, .ref o3, .ref o4, .ref o5, .int 0, .ref o6]))]) hD hS hA [0] rfl
  refine vx_calld (vx_runV (As := []) (rest := [.int 0, .ref u0]) ⟨hx, hb, hml, hown, hts⟩ (c_X5_meanUnlike l hl0 κ D (s.heap).size (h0) (o0) (g0) (o2) (o3) (o4) (o5) (o6) ) (cwV 0 hts gd_c_L_meanUnlike_3 rfl rfl rfl (by decide +kernel) ⟨(Nat.le_of_ble_eq_true rfl), (Nat.le_of_ble_eq_true rfl)⟩) (preV hE hK hP hD hS hA [0] rfl (by decide) [] rfl (va_recv hK hP (ci := 12) (q0 := 0) rfl rfl)) rfl rfl hl.1 rfl (lv_room (Nat.le_of_ble_eq_true rfl)) dL_meanUnlike_3 ⟨(Nat.le_of_ble_eq_true rfl), (Nat.le_of_ble_eq_true rfl)⟩) hS (fun q _ h => hFc q h) hFc (fun q _ h => hFc q h) (fun E9 ce q9 u9 t H1 locs ht hvm _ hB hz1 hk1 hS hce hcv hcl => ?_) (fun _ _ _ _ _ _ _ hw => hw.elim)
  obtain ⟨rfl, hB⟩ := hB
  obtain ⟨hP, hD, hK⟩ := jn (wc := [(h0, .inr (12, [.ref o0, .int 0, .ref g0, .ref o2, .ref o3, .ref o4, .ref o5, .int 0, .ref o6]))]) (wr := [(u0, .inl (cL, 1, .inr (.inr (.inr (.inl fo)))))]) (w1 := [(h0, .inr (12, [.ref o0, .int 0, .ref g0, .ref o2, .ref o3, .ref o4, .ref o5, .int 0, .ref o6]))]) (t1 := []) hP hD hK hS0 hA [0] [1] rfl rfl (by decide) (by decide) ht hvm hk1 hB
  generalize H1 = H at hP hS hce ⊢
  have hP : va_P D vwCl ([(u0, .inl (cL, 1, .inr (.inr (.inr (.inl fo))))), (h0, .inr (12, [.ref o0, .int 0, .ref g0, .ref o2, .ref o3, .ref o4, .ref o5, .int 0, .ref o6]))]) H := hP
  have hD : va_D A ([(u0, .inl (cL, 1, .inr (.inr (.inr (.inl fo))))), (h0, .inr (12, [.ref o0, .int 0, .ref g0, .ref o2, .ref o3, .ref o4, .ref o5, .int 0, .ref o6]))]) := hD
  have hK : va_K D vwCl [(cL, .double)] s := hK
  refine vx_widen (k := 1) (n := 6) (Nat.le_of_ble_eq_true rfl) (Nat.le_of_ble_eq_true rfl) ?_
  refine vx_catch (E := "java/lang/ArithmeticException") (name := "java/lang/ArithmeticException") hown [] ⟨0, 7, 10, 139⟩ [] htb (fun z hz => absurd hz List.not_mem_nil) (by decide) (by decide) (hts (.classLink RL 139 "java/lang/ArithmeticException") (by decide +kernel)) (va_Nw.use rfl hE.ca5) hce hcv hcl ?_
  refine W.eq (g2 := F0 m 10 ls [.ref q9]) rfl ?_
  refine lv_astore_n (lv' := [(2, .ref q9), (0, .ref h0), (1, .ref u0)]) hx hb dL_meanUnlike_10 rfl hl (by decide) rfl (fun ls hl => ?_)
  refine lv_iconst (v := 1) hx hb dL_meanUnlike_11 (by decide) ?_
  refine W.widen (k := 1) (n := 6) (Nat.le_of_ble_eq_true rfl) (Nat.le_of_ble_eq_true rfl) ?_
  exact W.iret (v := 1) hx hb hr (fun t ht hW => ⟨⟨1, (), rfl, rfl, PB.at hP hK hD hW.alike ht [] rfl (by decide) [] rfl⟩, hS.F ht⟩) hS.2.2 dL_meanUnlike_12

def wm_c_L_kind_bad : List Cond := .codeWith yL_kind cL_kind 7 (some .int) [(0, 14, 17, 13), (0, 14, 21, 15)] :: ([.code yX5_kind cX5_kind 6 (some .int), .code yX5_isWithin cX5_isWithin 3 (some .boolean), .methodLink RX5 57 yX5_isWithin, .static yX5_isWithin, .initialized RX5, .classLink RX5 61 "java/lang/IllegalArgumentException", .initialized "java/lang/IllegalArgumentException", .code yX2_isLap cX2_isLap 1 (some .boolean), .methodLink RX5 68 yX2_isLap, .static yX2_isLap, .initialized RX2, .code yX2_isCapture cX2_isCapture 1 (some .boolean), .methodLink RX5 72 yX2_isCapture, .static yX2_isCapture, .methodLink RL 7 yX5_kind, .instanceMethod yX5_kind, .selects RX5 yX5_kind yX5_kind, .classLink RL 13 "java/lang/IllegalArgumentException"] ++ (vx_atS RX5 65 "java/lang/IllegalArgumentException" supX).filter goodWord)
set_option maxRecDepth 20000 in
theorem gd_c_L_kind_bad_9 : GoodIn wm_c_L_kind_bad (wsV RL 7 RX5 yX5_kind wm_c_X5_kind_bad) := goodIn_of _ (by decide +kernel)
set_option maxHeartbeats 4000000 in
set_option maxRecDepth 100000 in
theorem c_L_kind_bad (l : Launch) (hl0 : l.stackTraces = false) (κ : Nat → Nat) (D : va_G) (sz : Nat) (h0 : Nat) (o0 : Nat) (g0 : Nat) (o2 : Nat) (o3 : Nat) (o4 : Nat) (o5 : Nat) (o6 : Nat) (p0 : Int32) (p1 : Int32) (p2 : Int32) (p3 : Int32) (u0 : Nat) (cL : ClassId) (fo : Nat → Int64) (hbad : ¬ (((2 : Int32).toInt ≤ p0.toInt ∧ p0.toInt ≤ (5 : Int32).toInt) ∧ ((1 : Int32).toInt ≤ p1.toInt ∧ p1.toInt ≤ (5 : Int32).toInt) ∧ (p2 = 115 ∨ p2 = 114 ∨ p2 = 112) ∧ (p3 = 110 ∨ p3 = 111 ∨ p3 = 99 ∨ p3 = 101))) : Met l yL_kind wm_c_L_kind_bad ({ frames := 13, cells := 1, slots := 6, locals := 500 }) (va_Pc [.ref h0, .int p0, .int p1, .int p2, .int p3, .ref u0] (PC κ D [(cL, .long)] [(h0, .inr (12, [.ref o0, .int 0, .ref g0, .ref o2, .ref o3, .ref o4, .ref o5, .int 0, .ref o6])), (u0, .inl (cL, 1, .inr (.inl fo)))] sz)) (va_Qi (fun (r : Int32) (_ : Unit) => r = 1) (fun _ t => PB D [] [] (va_A [(h0, .inr (12, [.ref o0, .int 0, .ref g0, .ref o2, .ref o3, .ref o4, .ref o5, .int 0, .ref o6])), (u0, .inl (cL, 1, .inr (.inl fo)))] sz) t) (va_A [(h0, .inr (12, [.ref o0, .int 0, .ref g0, .ref o2, .ref o3, .ref o4, .ref o5, .int 0, .ref o6])), (u0, .inl (cL, 1, .inr (.inl fo)))] sz)) 1 6 (va_A [(h0, .inr (12, [.ref o0, .int 0, .ref g0, .ref o2, .ref o3, .ref o4, .ref o5, .int 0, .ref o6])), (u0, .inl (cL, 1, .inr (.inl fo)))] sz) := by
  refine va_MetW (cc := cL_kind) (maxL := 7) (ret := (some .int)) (by decide +kernel) rfl ?_
  intro p e s m args below meth c s₁ B hml hv
  obtain ⟨rfl, hsz, hP, hK, hD0, hE⟩ := hv
  have hx := B.exec
  have hb := B.bytes
  have hr := B.returns
  have hts := atoms_spec (ws := wm_c_L_kind_bad) B.pre
  have hown : s.vm.findClass RL = some m.cls := findClass_of_methodNamed B.named
  have hlocks := B.notSynchronized
  have htb : c.exceptionTable.toList = tableOf [(0, 14, 17, 13), (0, 14, 21, 15)] := vx_table (x := yL_kind) B (hts _ List.mem_cons_self)
  subst hsz
  have hD := hD0.self (sz := s.heap.size)
  generalize hAe : va_A [(h0, .inr (12, [.ref o0, .int 0, .ref g0, .ref o2, .ref o3, .ref o4, .ref o5, .int 0, .ref o6])), (u0, .inl (cL, 1, .inr (.inl fo)))] s.heap.size = A at hD hE ⊢
  have hA : ∀ q : Nat, s.heap.size ≤ q → A q := fun q h => by rw [← hAe]; exact Or.inr h
  have hS : va_S A s.heap s.heap [] := va_S.rf
  have hl := lv_entry ([.ref h0, .int p0, .int p1, .int p2, .int p3, .ref u0]) (n := 7) (Nat.le_of_ble_eq_true rfl)
  rw [lg_entry_eq]
  generalize (lg_sl ([.ref h0, .int p0, .int p1, .int p2, .int p3, .ref u0]) ++ List.replicate (7 - (lg_sl ([.ref h0, .int p0, .int p1, .int p2, .int p3, .ref u0])).length) Slot.unset).toArray = ls at hl ⊢
  have hl : lv_has ls 7 [(0, .ref h0), (1, .int p0), (2, .int p1), (3, .int p2), (4, .int p3), (5, .ref u0)] := hl
  refine lv_aload hx hb dL_kind_0 (lv_at hl 5 rfl) ?_
  refine lv_iconst (v := 0) hx hb dL_kind_2 (by decide) ?_
  refine lv_aload_n hx hb dL_kind_3 rfl (lv_at hl 0 rfl) ?_
  refine lv_iload_n hx hb dL_kind_4 rfl (lv_at hl 1 rfl) ?_
  refine lv_iload_n hx hb dL_kind_5 rfl (lv_at hl 2 rfl) ?_
  refine lv_iload_n hx hb dL_kind_6 rfl (lv_at hl 3 rfl) ?_
  refine lv_iload hx hb dL_kind_7 (lv_at hl 4 rfl) ?_
  have hS0 := hS
  have hFc := va_free (wc := [(h0, .inr (12, [.ref o0, .int 0, .ref g0, .ref o2, .ref o3, .ref o4, .ref o5, .int 0, .ref o6]))]) hD hS hA [0] rfl
  refine vx_calli (vx_runV (As := [.int p0, .int p1, .int p2, .int p3]) (rest := [.int 0, .ref u0]) ⟨hx, hb, hml, hown, hts⟩ (c_X5_kind_bad l hl0 κ D (s.heap).size (h0) (o0) (g0) (o2) (o3) (o4) (o5) (o6) (p0) (p1) (p2) (p3) (hbad)) (cwV 4 hts gd_c_L_kind_bad_9 rfl rfl rfl (by decide +kernel) ⟨(Nat.le_of_ble_eq_true rfl), (Nat.le_of_ble_eq_true rfl)⟩) (preV hE hK hP hD hS hA [0] rfl (by decide) [] rfl (va_recv hK hP (ci := 12) (q0 := 0) rfl rfl)) rfl rfl hl.1 rfl (lv_room (Nat.le_of_ble_eq_true rfl)) dL_kind_9 ⟨(Nat.le_of_ble_eq_true rfl), (Nat.le_of_ble_eq_true rfl)⟩) hS (fun q _ h => hFc q h) hFc (fun q _ h => hFc q h) (fun E9 ce q9 u9 t H1 locs ht hvm _ hB hz1 hk1 hS hce hcv hcl => ?_) (fun _ _ _ _ _ _ _ hw => hw.elim)
  obtain ⟨rfl, hB⟩ := hB
  obtain ⟨hP, hD, hK⟩ := jn (wc := [(h0, .inr (12, [.ref o0, .int 0, .ref g0, .ref o2, .ref o3, .ref o4, .ref o5, .int 0, .ref o6]))]) (wr := [(u0, .inl (cL, 1, .inr (.inl fo)))]) (w1 := [(h0, .inr (12, [.ref o0, .int 0, .ref g0, .ref o2, .ref o3, .ref o4, .ref o5, .int 0, .ref o6]))]) (t1 := []) hP hD hK hS0 hA [0] [1] rfl rfl (by decide) (by decide) ht hvm hk1 hB
  generalize H1 = H at hP hS hce ⊢
  have hP : va_P D vwCl ([(u0, .inl (cL, 1, .inr (.inl fo))), (h0, .inr (12, [.ref o0, .int 0, .ref g0, .ref o2, .ref o3, .ref o4, .ref o5, .int 0, .ref o6]))]) H := hP
  have hD : va_D A ([(u0, .inl (cL, 1, .inr (.inl fo))), (h0, .inr (12, [.ref o0, .int 0, .ref g0, .ref o2, .ref o3, .ref o4, .ref o5, .int 0, .ref o6]))]) := hD
  have hK : va_K D vwCl [(cL, .long)] s := hK
  refine vx_widen (k := 1) (n := 6) (Nat.le_of_ble_eq_true rfl) (Nat.le_of_ble_eq_true rfl) ?_
  refine vx_catch (E := "java/lang/IllegalArgumentException") (name := "java/lang/IllegalArgumentException") hown [] ⟨0, 14, 17, 13⟩ [⟨0, 14, 21, 15⟩] htb (fun z hz => absurd hz List.not_mem_nil) (by decide) (by decide) (hts (.classLink RL 13 "java/lang/IllegalArgumentException") (by decide +kernel)) (va_Nw.use rfl hE.ca0) hce hcv hcl ?_
  refine W.eq (g2 := F0 m 17 ls [.ref q9]) rfl ?_
  refine lv_astore (lv' := [(6, .ref q9), (0, .ref h0), (1, .int p0), (2, .int p1), (3, .int p2), (4, .int p3), (5, .ref u0)]) hx hb dL_kind_17 hl (by decide) rfl (fun ls hl => ?_)
  refine lv_iconst (v := 1) hx hb dL_kind_19 (by decide) ?_
  refine W.widen (k := 1) (n := 6) (Nat.le_of_ble_eq_true rfl) (Nat.le_of_ble_eq_true rfl) ?_
  exact W.iret (v := 1) hx hb hr (fun t ht hW => ⟨⟨1, (), rfl, rfl, PB.at hP hK hD hW.alike ht [] rfl (by decide) [] rfl⟩, hS.F ht⟩) hS.2.2 dL_kind_20

def wm_c_L_many_bad : List Cond := .codeWith yL_many cL_many 5 (some .int) [(0, 9, 12, 13)] :: ([.code yX5_many cX5_many 3 (some .long), .code yX5_needRows cX5_needRows 2 none, .code yX5_isWithin cX5_isWithin 3 (some .boolean), .methodLink RX5 57 yX5_isWithin, .static yX5_isWithin, .initialized RX5, .classLink RX5 61 "java/lang/IllegalArgumentException", .initialized "java/lang/IllegalArgumentException", .methodLink RX5 215 yX5_needRows, .static yX5_needRows, .methodLink RL 87 yX5_many, .instanceMethod yX5_many, .selects RX5 yX5_many yX5_many, .classLink RL 13 "java/lang/IllegalArgumentException"] ++ (vx_atS RX5 65 "java/lang/IllegalArgumentException" supX).filter goodWord)
set_option maxRecDepth 20000 in
theorem gd_c_L_many_bad_5 : GoodIn wm_c_L_many_bad (wsV RL 87 RX5 yX5_many wm_c_X5_many_bad) := goodIn_of _ (by decide +kernel)
set_option maxHeartbeats 4000000 in
set_option maxRecDepth 100000 in
theorem c_L_many_bad (l : Launch) (hl0 : l.stackTraces = false) (κ : Nat → Nat) (D : va_G) (sz : Nat) (h0 : Nat) (o0 : Nat) (g0 : Nat) (o2 : Nat) (o3 : Nat) (o4 : Nat) (o5 : Nat) (o6 : Nat) (p0 : Int32) (p1 : Int32) (u0 : Nat) (cL : ClassId) (fo : Nat → Int64) (hbad : ¬ (((1 : Int32).toInt ≤ p0.toInt ∧ p0.toInt ≤ (10 : Int32).toInt) ∧ ((0 : Int32).toInt ≤ p1.toInt ∧ p1.toInt ≤ (50 : Int32).toInt))) : Met l yL_many wm_c_L_many_bad ({ frames := 13, cells := 1, slots := 6, locals := 500 }) (va_Pc [.ref h0, .int p0, .int p1, .ref u0] (PC κ D [(cL, .long)] [(h0, .inr (12, [.ref o0, .int 0, .ref g0, .ref o2, .ref o3, .ref o4, .ref o5, .int 0, .ref o6])), (u0, .inl (cL, 1, .inr (.inl fo)))] sz)) (va_Qi (fun (r : Int32) (_ : Unit) => r = 1) (fun _ t => PB D [] [] (va_A [(h0, .inr (12, [.ref o0, .int 0, .ref g0, .ref o2, .ref o3, .ref o4, .ref o5, .int 0, .ref o6])), (u0, .inl (cL, 1, .inr (.inl fo)))] sz) t) (va_A [(h0, .inr (12, [.ref o0, .int 0, .ref g0, .ref o2, .ref o3, .ref o4, .ref o5, .int 0, .ref o6])), (u0, .inl (cL, 1, .inr (.inl fo)))] sz)) 1 6 (va_A [(h0, .inr (12, [.ref o0, .int 0, .ref g0, .ref o2, .ref o3, .ref o4, .ref o5, .int 0, .ref o6])), (u0, .inl (cL, 1, .inr (.inl fo)))] sz) := by
  refine va_MetW (cc := cL_many) (maxL := 5) (ret := (some .int)) (by decide +kernel) rfl ?_
  intro p e s m args below meth c s₁ B hml hv
  obtain ⟨rfl, hsz, hP, hK, hD0, hE⟩ := hv
  have hx := B.exec
  have hb := B.bytes
  have hr := B.returns
  have hts := atoms_spec (ws := wm_c_L_many_bad) B.pre
  have hown : s.vm.findClass RL = some m.cls := findClass_of_methodNamed B.named
  have hlocks := B.notSynchronized
  have htb : c.exceptionTable.toList = tableOf [(0, 9, 12, 13)] := vx_table (x := yL_many) B (hts _ List.mem_cons_self)
  subst hsz
  have hD := hD0.self (sz := s.heap.size)
  generalize hAe : va_A [(h0, .inr (12, [.ref o0, .int 0, .ref g0, .ref o2, .ref o3, .ref o4, .ref o5, .int 0, .ref o6])), (u0, .inl (cL, 1, .inr (.inl fo)))] s.heap.size = A at hD hE ⊢
  have hA : ∀ q : Nat, s.heap.size ≤ q → A q := fun q h => by rw [← hAe]; exact Or.inr h
  have hS : va_S A s.heap s.heap [] := va_S.rf
  have hl := lv_entry ([.ref h0, .int p0, .int p1, .ref u0]) (n := 5) (Nat.le_of_ble_eq_true rfl)
  rw [lg_entry_eq]
  generalize (lg_sl ([.ref h0, .int p0, .int p1, .ref u0]) ++ List.replicate (5 - (lg_sl ([.ref h0, .int p0, .int p1, .ref u0])).length) Slot.unset).toArray = ls at hl ⊢
  have hl : lv_has ls 5 [(0, .ref h0), (1, .int p0), (2, .int p1), (3, .ref u0)] := hl
  refine lv_aload_n hx hb dL_many_0 rfl (lv_at hl 3 rfl) ?_
  refine lv_iconst (v := 0) hx hb dL_many_1 (by decide) ?_
  refine lv_aload_n hx hb dL_many_2 rfl (lv_at hl 0 rfl) ?_
  refine lv_iload_n hx hb dL_many_3 rfl (lv_at hl 1 rfl) ?_
  refine lv_iload_n hx hb dL_many_4 rfl (lv_at hl 2 rfl) ?_
  have hS0 := hS
  have hFc := va_free (wc := [(h0, .inr (12, [.ref o0, .int 0, .ref g0, .ref o2, .ref o3, .ref o4, .ref o5, .int 0, .ref o6]))]) hD hS hA [0] rfl
  refine vx_calll (vx_runV (As := [.int p0, .int p1]) (rest := [.int 0, .ref u0]) ⟨hx, hb, hml, hown, hts⟩ (c_X5_many_bad l hl0 κ D (s.heap).size (h0) (o0) (g0) (o2) (o3) (o4) (o5) (o6) (p0) (p1) (hbad)) (cwV 2 hts gd_c_L_many_bad_5 rfl rfl rfl (by decide +kernel) ⟨(Nat.le_of_ble_eq_true rfl), (Nat.le_of_ble_eq_true rfl)⟩) (preV hE hK hP hD hS hA [0] rfl (by decide) [] rfl (va_recv hK hP (ci := 12) (q0 := 0) rfl rfl)) rfl rfl hl.1 rfl (lv_room (Nat.le_of_ble_eq_true rfl)) dL_many_5 ⟨(Nat.le_of_ble_eq_true rfl), (Nat.le_of_ble_eq_true rfl)⟩) hS (fun q _ h => hFc q h) hFc (fun q _ h => hFc q h) (fun E9 ce q9 u9 t H1 locs ht hvm _ hB hz1 hk1 hS hce hcv hcl => ?_) (fun _ _ _ _ _ _ _ hw => hw.elim)
  obtain ⟨rfl, hB⟩ := hB
  obtain ⟨hP, hD, hK⟩ := jn (wc := [(h0, .inr (12, [.ref o0, .int 0, .ref g0, .ref o2, .ref o3, .ref o4, .ref o5, .int 0, .ref o6]))]) (wr := [(u0, .inl (cL, 1, .inr (.inl fo)))]) (w1 := []) (t1 := []) hP hD hK hS0 hA [0] [1] rfl rfl (by decide) (by decide) ht hvm hk1 hB
  generalize H1 = H at hP hS hce ⊢
  have hP : va_P D vwCl ([(u0, .inl (cL, 1, .inr (.inl fo)))]) H := hP
  have hD : va_D A ([(u0, .inl (cL, 1, .inr (.inl fo)))]) := hD
  have hK : va_K D vwCl [(cL, .long)] s := hK
  refine vx_widen (k := 1) (n := 6) (Nat.le_of_ble_eq_true rfl) (Nat.le_of_ble_eq_true rfl) ?_
  refine vx_catch (E := "java/lang/IllegalArgumentException") (name := "java/lang/IllegalArgumentException") hown [] ⟨0, 9, 12, 13⟩ [] htb (fun z hz => absurd hz List.not_mem_nil) (by decide) (by decide) (hts (.classLink RL 13 "java/lang/IllegalArgumentException") (by decide +kernel)) (va_Nw.use rfl hE.ca0) hce hcv hcl ?_
  refine W.eq (g2 := F0 m 12 ls [.ref q9]) rfl ?_
  refine lv_astore (lv' := [(4, .ref q9), (0, .ref h0), (1, .int p0), (2, .int p1), (3, .ref u0)]) hx hb dL_many_12 hl (by decide) rfl (fun ls hl => ?_)
  refine lv_iconst (v := 1) hx hb dL_many_14 (by decide) ?_
  refine W.widen (k := 1) (n := 6) (Nat.le_of_ble_eq_true rfl) (Nat.le_of_ble_eq_true rfl) ?_
  exact W.iret (v := 1) hx hb hr (fun t ht hW => ⟨⟨1, (), rfl, rfl, PB.at hP hK hD hW.alike ht [] rfl (by decide) [] rfl⟩, hS.F ht⟩) hS.2.2 dL_many_15

def wm_c_L_type_bad : List Cond := .codeWith yL_type cL_type 4 (some .int) [(0, 9, 12, 13), (0, 9, 15, 15)] :: ([.code yX5_type cX5_type 2 (some .int), .code yX5_isWithin cX5_isWithin 3 (some .boolean), .methodLink RX5 57 yX5_isWithin, .static yX5_isWithin, .initialized RX5, .classLink RX5 61 "java/lang/IllegalArgumentException", .initialized "java/lang/IllegalArgumentException", .methodLink RL 116 yX5_type, .instanceMethod yX5_type, .selects RX5 yX5_type yX5_type, .classLink RL 13 "java/lang/IllegalArgumentException"] ++ (vx_atS RX5 65 "java/lang/IllegalArgumentException" supX).filter goodWord)
set_option maxRecDepth 20000 in
theorem gd_c_L_type_bad_4 : GoodIn wm_c_L_type_bad (wsV RL 116 RX5 yX5_type wm_c_X5_type_bad) := goodIn_of _ (by decide +kernel)
set_option maxHeartbeats 4000000 in
set_option maxRecDepth 100000 in
theorem c_L_type_bad (l : Launch) (hl0 : l.stackTraces = false) (κ : Nat → Nat) (D : va_G) (sz : Nat) (h0 : Nat) (o0 : Nat) (g0 : Nat) (o2 : Nat) (o3 : Nat) (o4 : Nat) (o5 : Nat) (o6 : Nat) (p0 : Int32) (u0 : Nat) (cL : ClassId) (fo : Nat → Int64) (hbad : ¬ ((0 : Int32).toInt ≤ p0.toInt ∧ p0.toInt ≤ (9 : Int32).toInt)) : Met l yL_type wm_c_L_type_bad ({ frames := 13, cells := 1, slots := 6, locals := 500 }) (va_Pc [.ref h0, .int p0, .ref u0] (PC κ D [(cL, .long)] [(h0, .inr (12, [.ref o0, .int 0, .ref g0, .ref o2, .ref o3, .ref o4, .ref o5, .int 0, .ref o6])), (u0, .inl (cL, 1, .inr (.inl fo)))] sz)) (va_Qi (fun (r : Int32) (_ : Unit) => r = 1) (fun _ t => PB D [] [] (va_A [(h0, .inr (12, [.ref o0, .int 0, .ref g0, .ref o2, .ref o3, .ref o4, .ref o5, .int 0, .ref o6])), (u0, .inl (cL, 1, .inr (.inl fo)))] sz) t) (va_A [(h0, .inr (12, [.ref o0, .int 0, .ref g0, .ref o2, .ref o3, .ref o4, .ref o5, .int 0, .ref o6])), (u0, .inl (cL, 1, .inr (.inl fo)))] sz)) 1 6 (va_A [(h0, .inr (12, [.ref o0, .int 0, .ref g0, .ref o2, .ref o3, .ref o4, .ref o5, .int 0, .ref o6])), (u0, .inl (cL, 1, .inr (.inl fo)))] sz) := by
  refine va_MetW (cc := cL_type) (maxL := 4) (ret := (some .int)) (by decide +kernel) rfl ?_
  intro p e s m args below meth c s₁ B hml hv
  obtain ⟨rfl, hsz, hP, hK, hD0, hE⟩ := hv
  have hx := B.exec
  have hb := B.bytes
  have hr := B.returns
  have hts := atoms_spec (ws := wm_c_L_type_bad) B.pre
  have hown : s.vm.findClass RL = some m.cls := findClass_of_methodNamed B.named
  have hlocks := B.notSynchronized
  have htb : c.exceptionTable.toList = tableOf [(0, 9, 12, 13), (0, 9, 15, 15)] := vx_table (x := yL_type) B (hts _ List.mem_cons_self)
  subst hsz
  have hD := hD0.self (sz := s.heap.size)
  generalize hAe : va_A [(h0, .inr (12, [.ref o0, .int 0, .ref g0, .ref o2, .ref o3, .ref o4, .ref o5, .int 0, .ref o6])), (u0, .inl (cL, 1, .inr (.inl fo)))] s.heap.size = A at hD hE ⊢
  have hA : ∀ q : Nat, s.heap.size ≤ q → A q := fun q h => by rw [← hAe]; exact Or.inr h
  have hS : va_S A s.heap s.heap [] := va_S.rf
  have hl := lv_entry ([.ref h0, .int p0, .ref u0]) (n := 4) (Nat.le_of_ble_eq_true rfl)
  rw [lg_entry_eq]
  generalize (lg_sl ([.ref h0, .int p0, .ref u0]) ++ List.replicate (4 - (lg_sl ([.ref h0, .int p0, .ref u0])).length) Slot.unset).toArray = ls at hl ⊢
  have hl : lv_has ls 4 [(0, .ref h0), (1, .int p0), (2, .ref u0)] := hl
  refine lv_aload_n hx hb dL_type_0 rfl (lv_at hl 2 rfl) ?_
  refine lv_iconst (v := 0) hx hb dL_type_1 (by decide) ?_
  refine lv_aload_n hx hb dL_type_2 rfl (lv_at hl 0 rfl) ?_
  refine lv_iload_n hx hb dL_type_3 rfl (lv_at hl 1 rfl) ?_
  have hS0 := hS
  have hFc := va_free (wc := [(h0, .inr (12, [.ref o0, .int 0, .ref g0, .ref o2, .ref o3, .ref o4, .ref o5, .int 0, .ref o6]))]) hD hS hA [0] rfl
  refine vx_calli (vx_runV (As := [.int p0]) (rest := [.int 0, .ref u0]) ⟨hx, hb, hml, hown, hts⟩ (c_X5_type_bad l hl0 κ D (s.heap).size (h0) (o0) (g0) (o2) (o3) (o4) (o5) (o6) (p0) (hbad)) (cwV 1 hts gd_c_L_type_bad_4 rfl rfl rfl (by decide +kernel) ⟨(Nat.le_of_ble_eq_true rfl), (Nat.le_of_ble_eq_true rfl)⟩) (preV hE hK hP hD hS hA [0] rfl (by decide) [] rfl (va_recv hK hP (ci := 12) (q0 := 0) rfl rfl)) rfl rfl hl.1 rfl (lv_room (Nat.le_of_ble_eq_true rfl)) dL_type_4 ⟨(Nat.le_of_ble_eq_true rfl), (Nat.le_of_ble_eq_true rfl)⟩) hS (fun q _ h => hFc q h) hFc (fun q _ h => hFc q h) (fun E9 ce q9 u9 t H1 locs ht hvm _ hB hz1 hk1 hS hce hcv hcl => ?_) (fun _ _ _ _ _ _ _ hw => hw.elim)
  obtain ⟨rfl, hB⟩ := hB
  obtain ⟨hP, hD, hK⟩ := jn (wc := [(h0, .inr (12, [.ref o0, .int 0, .ref g0, .ref o2, .ref o3, .ref o4, .ref o5, .int 0, .ref o6]))]) (wr := [(u0, .inl (cL, 1, .inr (.inl fo)))]) (w1 := []) (t1 := []) hP hD hK hS0 hA [0] [1] rfl rfl (by decide) (by decide) ht hvm hk1 hB
  generalize H1 = H at hP hS hce ⊢
  have hP : va_P D vwCl ([(u0, .inl (cL, 1, .inr (.inl fo)))]) H := hP
  have hD : va_D A ([(u0, .inl (cL, 1, .inr (.inl fo)))]) := hD
  have hK : va_K D vwCl [(cL, .long)] s := hK
  refine vx_widen (k := 1) (n := 6) (Nat.le_of_ble_eq_true rfl) (Nat.le_of_ble_eq_true rfl) ?_
  refine vx_catch (E := "java/lang/IllegalArgumentException") (name := "java/lang/IllegalArgumentException") hown [] ⟨0, 9, 12, 13⟩ [⟨0, 9, 15, 15⟩] htb (fun z hz => absurd hz List.not_mem_nil) (by decide) (by decide) (hts (.classLink RL 13 "java/lang/IllegalArgumentException") (by decide +kernel)) (va_Nw.use rfl hE.ca0) hce hcv hcl ?_
  refine W.eq (g2 := F0 m 12 ls [.ref q9]) rfl ?_
  refine lv_astore_n (lv' := [(3, .ref q9), (0, .ref h0), (1, .int p0), (2, .ref u0)]) hx hb dL_type_12 rfl hl (by decide) rfl (fun ls hl => ?_)
  refine lv_iconst (v := 1) hx hb dL_type_13 (by decide) ?_
  refine W.widen (k := 1) (n := 6) (Nat.le_of_ble_eq_true rfl) (Nat.le_of_ble_eq_true rfl) ?_
  exact W.iret (v := 1) hx hb hr (fun t ht hW => ⟨⟨1, (), rfl, rfl, PB.at hP hK hD hW.alike ht [] rfl (by decide) [] rfl⟩, hS.F ht⟩) hS.2.2 dL_type_14

def wm_c_L_inRow_badA : List Cond := .codeWith yL_inRow cL_inRow 8 (some .int) [(0, 14, 17, 13), (0, 14, 21, 21)] :: ([.code yX5_inRow cX5_inRow 6 (some .int), .code yX5_needRows cX5_needRows 2 none, .code yX5_isWithin cX5_isWithin 3 (some .boolean), .methodLink RX5 57 yX5_isWithin, .static yX5_isWithin, .initialized RX5, .classLink RX5 61 "java/lang/IllegalArgumentException", .initialized "java/lang/IllegalArgumentException", .methodLink RX5 215 yX5_needRows, .static yX5_needRows, .methodLink RL 95 yX5_inRow, .instanceMethod yX5_inRow, .selects RX5 yX5_inRow yX5_inRow, .classLink RL 13 "java/lang/IllegalArgumentException"] ++ (vx_atS RX5 65 "java/lang/IllegalArgumentException" supX).filter goodWord)
set_option maxRecDepth 20000 in
theorem gd_c_L_inRow_badA_9 : GoodIn wm_c_L_inRow_badA (wsV RL 95 RX5 yX5_inRow wm_c_X5_inRow_badA) := goodIn_of _ (by decide +kernel)
set_option maxHeartbeats 4000000 in
set_option maxRecDepth 100000 in
theorem c_L_inRow_badA (l : Launch) (hl0 : l.stackTraces = false) (κ : Nat → Nat) (D : va_G) (sz : Nat) (h0 : Nat) (o0 : Nat) (g0 : Nat) (o2 : Nat) (o3 : Nat) (o4 : Nat) (o5 : Nat) (o6 : Nat) (p0 : Int32) (p1 : Int32) (p2 : Int64) (p3 : Int32) (u0 : Nat) (cL : ClassId) (fo : Nat → Int64) (hbad : ¬ (((1 : Int32).toInt ≤ p0.toInt ∧ p0.toInt ≤ (10 : Int32).toInt) ∧ ((0 : Int32).toInt ≤ p1.toInt ∧ p1.toInt ≤ (50 : Int32).toInt))) : Met l yL_inRow wm_c_L_inRow_badA ({ frames := 13, cells := 1, slots := 6, locals := 500 }) (va_Pc [.ref h0, .int p0, .int p1, .long p2, .int p3, .ref u0] (PC κ D [(cL, .long)] [(h0, .inr (12, [.ref o0, .int 0, .ref g0, .ref o2, .ref o3, .ref o4, .ref o5, .int 0, .ref o6])), (u0, .inl (cL, 1, .inr (.inl fo)))] sz)) (va_Qi (fun (r : Int32) (_ : Unit) => r = 1) (fun _ t => PB D [] [] (va_A [(h0, .inr (12, [.ref o0, .int 0, .ref g0, .ref o2, .ref o3, .ref o4, .ref o5, .int 0, .ref o6])), (u0, .inl (cL, 1, .inr (.inl fo)))] sz) t) (va_A [(h0, .inr (12, [.ref o0, .int 0, .ref g0, .ref o2, .ref o3, .ref o4, .ref o5, .int 0, .ref o6])), (u0, .inl (cL, 1, .inr (.inl fo)))] sz)) 1 6 (va_A [(h0, .inr (12, [.ref o0, .int 0, .ref g0, .ref o2, .ref o3, .ref o4, .ref o5, .int 0, .ref o6])), (u0, .inl (cL, 1, .inr (.inl fo)))] sz) := by
  refine va_MetW (cc := cL_inRow) (maxL := 8) (ret := (some .int)) (by decide +kernel) rfl ?_
  intro p e s m args below meth c s₁ B hml hv
  obtain ⟨rfl, hsz, hP, hK, hD0, hE⟩ := hv
  have hx := B.exec
  have hb := B.bytes
  have hr := B.returns
  have hts := atoms_spec (ws := wm_c_L_inRow_badA) B.pre
  have hown : s.vm.findClass RL = some m.cls := findClass_of_methodNamed B.named
  have hlocks := B.notSynchronized
  have htb : c.exceptionTable.toList = tableOf [(0, 14, 17, 13), (0, 14, 21, 21)] := vx_table (x := yL_inRow) B (hts _ List.mem_cons_self)
  subst hsz
  have hD := hD0.self (sz := s.heap.size)
  generalize hAe : va_A [(h0, .inr (12, [.ref o0, .int 0, .ref g0, .ref o2, .ref o3, .ref o4, .ref o5, .int 0, .ref o6])), (u0, .inl (cL, 1, .inr (.inl fo)))] s.heap.size = A at hD hE ⊢
  have hA : ∀ q : Nat, s.heap.size ≤ q → A q := fun q h => by rw [← hAe]; exact Or.inr h
  have hS : va_S A s.heap s.heap [] := va_S.rf
  have hl := lv_entry ([.ref h0, .int p0, .int p1, .long p2, .int p3, .ref u0]) (n := 8) (Nat.le_of_ble_eq_true rfl)
  rw [lg_entry_eq]
  generalize (lg_sl ([.ref h0, .int p0, .int p1, .long p2, .int p3, .ref u0]) ++ List.replicate (8 - (lg_sl ([.ref h0, .int p0, .int p1, .long p2, .int p3, .ref u0])).length) Slot.unset).toArray = ls at hl ⊢
  have hl : lv_has ls 8 [(0, .ref h0), (1, .int p0), (2, .int p1), (3, .long p2), (5, .int p3), (6, .ref u0)] := hl
  refine lv_aload hx hb dL_inRow_0 (lv_at hl 5 rfl) ?_
  refine lv_iconst (v := 0) hx hb dL_inRow_2 (by decide) ?_
  refine lv_aload_n hx hb dL_inRow_3 rfl (lv_at hl 0 rfl) ?_
  refine lv_iload_n hx hb dL_inRow_4 rfl (lv_at hl 1 rfl) ?_
  refine lv_iload_n hx hb dL_inRow_5 rfl (lv_at hl 2 rfl) ?_
  refine lv_lload_n hx hb dL_inRow_6 rfl (lv_at hl 3 rfl) ?_
  refine lv_iload hx hb dL_inRow_7 (lv_at hl 4 rfl) ?_
  have hS0 := hS
  have hFc := va_free (wc := [(h0, .inr (12, [.ref o0, .int 0, .ref g0, .ref o2, .ref o3, .ref o4, .ref o5, .int 0, .ref o6]))]) hD hS hA [0] rfl
  refine vx_calli (vx_runV (As := [.int p0, .int p1, .long p2, .int p3]) (rest := [.int 0, .ref u0]) ⟨hx, hb, hml, hown, hts⟩ (c_X5_inRow_badA l hl0 κ D (s.heap).size (h0) (o0) (g0) (o2) (o3) (o4) (o5) (o6) (p0) (p1) (p2) (p3) (hbad)) (cwV 4 hts gd_c_L_inRow_badA_9 rfl rfl rfl (by decide +kernel) ⟨(Nat.le_of_ble_eq_true rfl), (Nat.le_of_ble_eq_true rfl)⟩) (preV hE hK hP hD hS hA [0] rfl (by decide) [] rfl (va_recv hK hP (ci := 12) (q0 := 0) rfl rfl)) rfl rfl hl.1 rfl (lv_room (Nat.le_of_ble_eq_true rfl)) dL_inRow_9 ⟨(Nat.le_of_ble_eq_true rfl), (Nat.le_of_ble_eq_true rfl)⟩) hS (fun q _ h => hFc q h) hFc (fun q _ h => hFc q h) (fun E9 ce q9 u9 t H1 locs ht hvm _ hB hz1 hk1 hS hce hcv hcl => ?_) (fun _ _ _ _ _ _ _ hw => hw.elim)
  obtain ⟨rfl, hB⟩ := hB
  obtain ⟨hP, hD, hK⟩ := jn (wc := [(h0, .inr (12, [.ref o0, .int 0, .ref g0, .ref o2, .ref o3, .ref o4, .ref o5, .int 0, .ref o6]))]) (wr := [(u0, .inl (cL, 1, .inr (.inl fo)))]) (w1 := []) (t1 := []) hP hD hK hS0 hA [0] [1] rfl rfl (by decide) (by decide) ht hvm hk1 hB
  generalize H1 = H at hP hS hce ⊢
  have hP : va_P D vwCl ([(u0, .inl (cL, 1, .inr (.inl fo)))]) H := hP
  have hD : va_D A ([(u0, .inl (cL, 1, .inr (.inl fo)))]) := hD
  have hK : va_K D vwCl [(cL, .long)] s := hK
  refine vx_widen (k := 1) (n := 6) (Nat.le_of_ble_eq_true rfl) (Nat.le_of_ble_eq_true rfl) ?_
  refine vx_catch (E := "java/lang/IllegalArgumentException") (name := "java/lang/IllegalArgumentException") hown [] ⟨0, 14, 17, 13⟩ [⟨0, 14, 21, 21⟩] htb (fun z hz => absurd hz List.not_mem_nil) (by decide) (by decide) (hts (.classLink RL 13 "java/lang/IllegalArgumentException") (by decide +kernel)) (va_Nw.use rfl hE.ca0) hce hcv hcl ?_
  refine W.eq (g2 := F0 m 17 ls [.ref q9]) rfl ?_
  refine lv_astore (lv' := [(7, .ref q9), (0, .ref h0), (1, .int p0), (2, .int p1), (3, .long p2), (5, .int p3), (6, .ref u0)]) hx hb dL_inRow_17 hl (by decide) rfl (fun ls hl => ?_)
  refine lv_iconst (v := 1) hx hb dL_inRow_19 (by decide) ?_
  refine W.widen (k := 1) (n := 6) (Nat.le_of_ble_eq_true rfl) (Nat.le_of_ble_eq_true rfl) ?_
  exact W.iret (v := 1) hx hb hr (fun t ht hW => ⟨⟨1, (), rfl, rfl, PB.at hP hK hD hW.alike ht [] rfl (by decide) [] rfl⟩, hS.F ht⟩) hS.2.2 dL_inRow_20

def wm_c_L_inRow_badB : List Cond := .codeWith yL_inRow cL_inRow 8 (some .int) [(0, 14, 17, 13), (0, 14, 21, 21)] :: ([.code yX5_inRow cX5_inRow 6 (some .int), .code yX5_needRows cX5_needRows 2 none, .code yX5_isWithin cX5_isWithin 3 (some .boolean), .methodLink RX5 57 yX5_isWithin, .static yX5_isWithin, .initialized RX5, .methodLink RX5 215 yX5_needRows, .static yX5_needRows, .classLink RX5 61 "java/lang/IllegalArgumentException", .initialized "java/lang/IllegalArgumentException", .fieldLink RX5 42 "Sowingcourt" "rows" "LSowingcourt$Rows;", .fieldLink RX5 218 "Sowingcourt$Rows" "ways" "[[J", .methodLink RL 95 yX5_inRow, .instanceMethod yX5_inRow, .selects RX5 yX5_inRow yX5_inRow, .classLink RL 13 "java/lang/IllegalArgumentException"] ++ (vx_atS RX5 65 "java/lang/IllegalArgumentException" supX).filter goodWord ++ wsX50 ++ wsX30)
set_option maxRecDepth 20000 in
theorem gd_c_L_inRow_badB_9 : GoodIn wm_c_L_inRow_badB (wsV RL 95 RX5 yX5_inRow wm_c_X5_inRow_badB) := goodIn_of _ (by decide +kernel)
set_option maxHeartbeats 4000000 in
set_option maxRecDepth 100000 in
theorem c_L_inRow_badB (l : Launch) (hl0 : l.stackTraces = false) (κ : Nat → Nat) (D : va_G) (sz : Nat) (h0 : Nat) (o0 : Nat) (g0 : Nat) (o2 : Nat) (o3 : Nat) (o4 : Nat) (o5 : Nat) (o6 : Nat) (q0 : Nat) (cO : ClassId) (cJ : ClassId) (rr : Nat → Nat) (FF : Nat → Nat → Int64) (hs : Nat) (sd : Nat) (p0 : Int32) (p1 : Int32) (p2 : Int64) (p3 : Int32) (u0 : Nat) (cL : ClassId) (fo : Nat → Int64) (e0 : p0 = nI hs) (e1 : p1 = nI sd) (h1s : 0 < hs) (hhs : hs < 11) (hsd : sd < 51) (hbad : ¬ (0 ≤ p2.toInt ∧ p2.toInt < (WN hs sd : Int))) (hF : ∀ k, k < 11 → ∀ z, z < 91 → FF k z = WW k z) : Met l yL_inRow wm_c_L_inRow_badB ({ frames := 13, cells := 1, slots := 6, locals := 500 }) (va_Pc [.ref h0, .int p0, .int p1, .long p2, .int p3, .ref u0] (PC κ D [(cO, .array .long), (cJ, .long), (cL, .long)] [(h0, .inr (12, [.ref o0, .int 0, .ref g0, .ref o2, .ref o3, .ref o4, .ref o5, .int 0, .ref o6])), (o4, .inr (10, [.ref q0])), (q0, .inl (cO, 11, .inr (.inr (.inr (.inr (fun i => if i < 11 then some (rr i) else none)))))), ((rr 0), .inl (cJ, 91, .inr (.inl (FF 0)))), ((rr 1), .inl (cJ, 91, .inr (.inl (FF 1)))), ((rr 2), .inl (cJ, 91, .inr (.inl (FF 2)))), ((rr 3), .inl (cJ, 91, .inr (.inl (FF 3)))), ((rr 4), .inl (cJ, 91, .inr (.inl (FF 4)))), ((rr 5), .inl (cJ, 91, .inr (.inl (FF 5)))), ((rr 6), .inl (cJ, 91, .inr (.inl (FF 6)))), ((rr 7), .inl (cJ, 91, .inr (.inl (FF 7)))), ((rr 8), .inl (cJ, 91, .inr (.inl (FF 8)))), ((rr 9), .inl (cJ, 91, .inr (.inl (FF 9)))), ((rr 10), .inl (cJ, 91, .inr (.inl (FF 10)))), (u0, .inl (cL, 1, .inr (.inl fo)))] sz)) (va_Qi (fun (r : Int32) (_ : Unit) => r = 1) (fun _ t => PB D [] [] (va_A [(h0, .inr (12, [.ref o0, .int 0, .ref g0, .ref o2, .ref o3, .ref o4, .ref o5, .int 0, .ref o6])), (o4, .inr (10, [.ref q0])), (q0, .inl (cO, 11, .inr (.inr (.inr (.inr (fun i => if i < 11 then some (rr i) else none)))))), ((rr 0), .inl (cJ, 91, .inr (.inl (FF 0)))), ((rr 1), .inl (cJ, 91, .inr (.inl (FF 1)))), ((rr 2), .inl (cJ, 91, .inr (.inl (FF 2)))), ((rr 3), .inl (cJ, 91, .inr (.inl (FF 3)))), ((rr 4), .inl (cJ, 91, .inr (.inl (FF 4)))), ((rr 5), .inl (cJ, 91, .inr (.inl (FF 5)))), ((rr 6), .inl (cJ, 91, .inr (.inl (FF 6)))), ((rr 7), .inl (cJ, 91, .inr (.inl (FF 7)))), ((rr 8), .inl (cJ, 91, .inr (.inl (FF 8)))), ((rr 9), .inl (cJ, 91, .inr (.inl (FF 9)))), ((rr 10), .inl (cJ, 91, .inr (.inl (FF 10)))), (u0, .inl (cL, 1, .inr (.inl fo)))] sz) t) (va_A [(h0, .inr (12, [.ref o0, .int 0, .ref g0, .ref o2, .ref o3, .ref o4, .ref o5, .int 0, .ref o6])), (o4, .inr (10, [.ref q0])), (q0, .inl (cO, 11, .inr (.inr (.inr (.inr (fun i => if i < 11 then some (rr i) else none)))))), ((rr 0), .inl (cJ, 91, .inr (.inl (FF 0)))), ((rr 1), .inl (cJ, 91, .inr (.inl (FF 1)))), ((rr 2), .inl (cJ, 91, .inr (.inl (FF 2)))), ((rr 3), .inl (cJ, 91, .inr (.inl (FF 3)))), ((rr 4), .inl (cJ, 91, .inr (.inl (FF 4)))), ((rr 5), .inl (cJ, 91, .inr (.inl (FF 5)))), ((rr 6), .inl (cJ, 91, .inr (.inl (FF 6)))), ((rr 7), .inl (cJ, 91, .inr (.inl (FF 7)))), ((rr 8), .inl (cJ, 91, .inr (.inl (FF 8)))), ((rr 9), .inl (cJ, 91, .inr (.inl (FF 9)))), ((rr 10), .inl (cJ, 91, .inr (.inl (FF 10)))), (u0, .inl (cL, 1, .inr (.inl fo)))] sz)) 1 6 (va_A [(h0, .inr (12, [.ref o0, .int 0, .ref g0, .ref o2, .ref o3, .ref o4, .ref o5, .int 0, .ref o6])), (o4, .inr (10, [.ref q0])), (q0, .inl (cO, 11, .inr (.inr (.inr (.inr (fun i => if i < 11 then some (rr i) else none)))))), ((rr 0), .inl (cJ, 91, .inr (.inl (FF 0)))), ((rr 1), .inl (cJ, 91, .inr (.inl (FF 1)))), ((rr 2), .inl (cJ, 91, .inr (.inl (FF 2)))), ((rr 3), .inl (cJ, 91, .inr (.inl (FF 3)))), ((rr 4), .inl (cJ, 91, .inr (.inl (FF 4)))), ((rr 5), .inl (cJ, 91, .inr (.inl (FF 5)))), ((rr 6), .inl (cJ, 91, .inr (.inl (FF 6)))), ((rr 7), .inl (cJ, 91, .inr (.inl (FF 7)))), ((rr 8), .inl (cJ, 91, .inr (.inl (FF 8)))), ((rr 9), .inl (cJ, 91, .inr (.inl (FF 9)))), ((rr 10), .inl (cJ, 91, .inr (.inl (FF 10)))), (u0, .inl (cL, 1, .inr (.inl fo)))] sz) := by
  refine va_MetW (cc := cL_inRow) (maxL := 8) (ret := (some .int)) (by decide +kernel) rfl ?_
  intro p e s m args below meth c s₁ B hml hv
  obtain ⟨rfl, hsz, hP, hK, hD0, hE⟩ := hv
  have hx := B.exec
  have hb := B.bytes
  have hr := B.returns
  have hts := atoms_spec (ws := wm_c_L_inRow_badB) B.pre
  have hown : s.vm.findClass RL = some m.cls := findClass_of_methodNamed B.named
  have hlocks := B.notSynchronized
  have htb : c.exceptionTable.toList = tableOf [(0, 14, 17, 13), (0, 14, 21, 21)] := vx_table (x := yL_inRow) B (hts _ List.mem_cons_self)
  have iRX5 : ∀ w ∈ u_ws RX5 TX5 9, w ∈ wm_c_L_inRow_badB := by decide +kernel
  have iRX3 : ∀ w ∈ u_ws RX3 TX3 1, w ∈ wm_c_L_inRow_badB := by decide +kernel
  subst hsz
  have hD := hD0.self (sz := s.heap.size)
  generalize hAe : va_A [(h0, .inr (12, [.ref o0, .int 0, .ref g0, .ref o2, .ref o3, .ref o4, .ref o5, .int 0, .ref o6])), (o4, .inr (10, [.ref q0])), (q0, .inl (cO, 11, .inr (.inr (.inr (.inr (fun i => if i < 11 then some (rr i) else none)))))), ((rr 0), .inl (cJ, 91, .inr (.inl (FF 0)))), ((rr 1), .inl (cJ, 91, .inr (.inl (FF 1)))), ((rr 2), .inl (cJ, 91, .inr (.inl (FF 2)))), ((rr 3), .inl (cJ, 91, .inr (.inl (FF 3)))), ((rr 4), .inl (cJ, 91, .inr (.inl (FF 4)))), ((rr 5), .inl (cJ, 91, .inr (.inl (FF 5)))), ((rr 6), .inl (cJ, 91, .inr (.inl (FF 6)))), ((rr 7), .inl (cJ, 91, .inr (.inl (FF 7)))), ((rr 8), .inl (cJ, 91, .inr (.inl (FF 8)))), ((rr 9), .inl (cJ, 91, .inr (.inl (FF 9)))), ((rr 10), .inl (cJ, 91, .inr (.inl (FF 10)))), (u0, .inl (cL, 1, .inr (.inl fo)))] s.heap.size = A at hD hE ⊢
  have hA : ∀ q : Nat, s.heap.size ≤ q → A q := fun q h => by rw [← hAe]; exact Or.inr h
  have hS : va_S A s.heap s.heap [] := va_S.rf
  have hl := lv_entry ([.ref h0, .int p0, .int p1, .long p2, .int p3, .ref u0]) (n := 8) (Nat.le_of_ble_eq_true rfl)
  rw [lg_entry_eq]
  generalize (lg_sl ([.ref h0, .int p0, .int p1, .long p2, .int p3, .ref u0]) ++ List.replicate (8 - (lg_sl ([.ref h0, .int p0, .int p1, .long p2, .int p3, .ref u0])).length) Slot.unset).toArray = ls at hl ⊢
  have hl : lv_has ls 8 [(0, .ref h0), (1, .int p0), (2, .int p1), (3, .long p2), (5, .int p3), (6, .ref u0)] := hl
  refine lv_aload hx hb dL_inRow_0 (lv_at hl 5 rfl) ?_
  refine lv_iconst (v := 0) hx hb dL_inRow_2 (by decide) ?_
  refine lv_aload_n hx hb dL_inRow_3 rfl (lv_at hl 0 rfl) ?_
  refine lv_iload_n hx hb dL_inRow_4 rfl (lv_at hl 1 rfl) ?_
  refine lv_iload_n hx hb dL_inRow_5 rfl (lv_at hl 2 rfl) ?_
  refine lv_lload_n hx hb dL_inRow_6 rfl (lv_at hl 3 rfl) ?_
  refine lv_iload hx hb dL_inRow_7 (lv_at hl 4 rfl) ?_
  have hS0 := hS
  have hFc := va_free (wc := [(h0, .inr (12, [.ref o0, .int 0, .ref g0, .ref o2, .ref o3, .ref o4, .ref o5, .int 0, .ref o6])), (o4, .inr (10, [.ref q0])), (q0, .inl (cO, 11, .inr (.inr (.inr (.inr (fun i => if i < 11 then some (rr i) else none)))))), ((rr 0), .inl (cJ, 91, .inr (.inl (FF 0)))), ((rr 1), .inl (cJ, 91, .inr (.inl (FF 1)))), ((rr 2), .inl (cJ, 91, .inr (.inl (FF 2)))), ((rr 3), .inl (cJ, 91, .inr (.inl (FF 3)))), ((rr 4), .inl (cJ, 91, .inr (.inl (FF 4)))), ((rr 5), .inl (cJ, 91, .inr (.inl (FF 5)))), ((rr 6), .inl (cJ, 91, .inr (.inl (FF 6)))), ((rr 7), .inl (cJ, 91, .inr (.inl (FF 7)))), ((rr 8), .inl (cJ, 91, .inr (.inl (FF 8)))), ((rr 9), .inl (cJ, 91, .inr (.inl (FF 9)))), ((rr 10), .inl (cJ, 91, .inr (.inl (FF 10))))]) hD hS hA [0, 1, 2, 3, 4, 5, 6, 7, 8, 9, 10, 11, 12, 13] rfl
  refine vx_calli (vx_runV (As := [.int p0, .int p1, .long p2, .int p3]) (rest := [.int 0, .ref u0]) ⟨hx, hb, hml, hown, hts⟩ (c_X5_inRow_badB l hl0 κ D (s.heap).size (h0) (o0) (g0) (o2) (o3) (o4) (o5) (o6) (q0) (cO) (cJ) (rr) (FF) (p0) (p1) (p2) (p3) (hs) (sd) (e0) (e1) (h1s) (hhs) (hsd) (hbad) (hF)) (cwV 4 hts gd_c_L_inRow_badB_9 rfl rfl rfl (by decide +kernel) ⟨(Nat.le_of_ble_eq_true rfl), (Nat.le_of_ble_eq_true rfl)⟩) (preV hE hK hP hD hS hA [0, 1, 2, 3, 4, 5, 6, 7, 8, 9, 10, 11, 12, 13] rfl (by decide) [0, 1] rfl (va_recv hK hP (ci := 12) (q0 := 0) rfl rfl)) rfl rfl hl.1 rfl (lv_room (Nat.le_of_ble_eq_true rfl)) dL_inRow_9 ⟨(Nat.le_of_ble_eq_true rfl), (Nat.le_of_ble_eq_true rfl)⟩) hS (fun q _ h => hFc q h) hFc (fun q _ h => hFc q h) (fun E9 ce q9 u9 t H1 locs ht hvm _ hB hz1 hk1 hS hce hcv hcl => ?_) (fun _ _ _ _ _ _ _ hw => hw.elim)
  obtain ⟨rfl, hB⟩ := hB
  obtain ⟨hP, hD, hK⟩ := jn (wc := [(h0, .inr (12, [.ref o0, .int 0, .ref g0, .ref o2, .ref o3, .ref o4, .ref o5, .int 0, .ref o6])), (o4, .inr (10, [.ref q0])), (q0, .inl (cO, 11, .inr (.inr (.inr (.inr (fun i => if i < 11 then some (rr i) else none)))))), ((rr 0), .inl (cJ, 91, .inr (.inl (FF 0)))), ((rr 1), .inl (cJ, 91, .inr (.inl (FF 1)))), ((rr 2), .inl (cJ, 91, .inr (.inl (FF 2)))), ((rr 3), .inl (cJ, 91, .inr (.inl (FF 3)))), ((rr 4), .inl (cJ, 91, .inr (.inl (FF 4)))), ((rr 5), .inl (cJ, 91, .inr (.inl (FF 5)))), ((rr 6), .inl (cJ, 91, .inr (.inl (FF 6)))), ((rr 7), .inl (cJ, 91, .inr (.inl (FF 7)))), ((rr 8), .inl (cJ, 91, .inr (.inl (FF 8)))), ((rr 9), .inl (cJ, 91, .inr (.inl (FF 9)))), ((rr 10), .inl (cJ, 91, .inr (.inl (FF 10))))]) (wr := [(u0, .inl (cL, 1, .inr (.inl fo)))]) (w1 := []) (t1 := []) hP hD hK hS0 hA [0, 1, 2, 3, 4, 5, 6, 7, 8, 9, 10, 11, 12, 13] [14] rfl rfl (by decide) (by decide) ht hvm hk1 hB
  generalize H1 = H at hP hS hce ⊢
  have hP : va_P D vwCl ([(u0, .inl (cL, 1, .inr (.inl fo)))]) H := hP
  have hD : va_D A ([(u0, .inl (cL, 1, .inr (.inl fo)))]) := hD
  have hK : va_K D vwCl [(cO, .array .long), (cJ, .long), (cL, .long)] s := hK
  refine vx_widen (k := 1) (n := 6) (Nat.le_of_ble_eq_true rfl) (Nat.le_of_ble_eq_true rfl) ?_
  refine vx_catch (E := "java/lang/IllegalArgumentException") (name := "java/lang/IllegalArgumentException") hown [] ⟨0, 14, 17, 13⟩ [⟨0, 14, 21, 21⟩] htb (fun z hz => absurd hz List.not_mem_nil) (by decide) (by decide) (hts (.classLink RL 13 "java/lang/IllegalArgumentException") (by decide +kernel)) (va_Nw.use rfl hE.ca0) hce hcv hcl ?_
  refine W.eq (g2 := F0 m 17 ls [.ref q9]) rfl ?_
  refine lv_astore (lv' := [(7, .ref q9), (0, .ref h0), (1, .int p0), (2, .int p1), (3, .long p2), (5, .int p3), (6, .ref u0)]) hx hb dL_inRow_17 hl (by decide) rfl (fun ls hl => ?_)
  refine lv_iconst (v := 1) hx hb dL_inRow_19 (by decide) ?_
  refine W.widen (k := 1) (n := 6) (Nat.le_of_ble_eq_true rfl) (Nat.le_of_ble_eq_true rfl) ?_
  exact W.iret (v := 1) hx hb hr (fun t ht hW => ⟨⟨1, (), rfl, rfl, PB.at hP hK hD hW.alike ht [] rfl (by decide) [] rfl⟩, hS.F ht⟩) hS.2.2 dL_inRow_20

def wm_c_L_inRow_badC : List Cond := .codeWith yL_inRow cL_inRow 8 (some .int) [(0, 14, 17, 13), (0, 14, 21, 21)] :: ([.code yX5_inRow cX5_inRow 6 (some .int), .code yX5_needRows cX5_needRows 2 none, .code yX5_isWithin cX5_isWithin 3 (some .boolean), .methodLink RX5 57 yX5_isWithin, .static yX5_isWithin, .initialized RX5, .methodLink RX5 215 yX5_needRows, .static yX5_needRows, .fieldLink RX5 42 "Sowingcourt" "rows" "LSowingcourt$Rows;", .fieldLink RX5 218 "Sowingcourt$Rows" "ways" "[[J", .classLink RX5 193 "java/lang/IndexOutOfBoundsException", .initialized "java/lang/IndexOutOfBoundsException", .methodLink RL 95 yX5_inRow, .instanceMethod yX5_inRow, .selects RX5 yX5_inRow yX5_inRow, .classLink RL 13 "java/lang/IllegalArgumentException", .classLink RL 21 "java/lang/IndexOutOfBoundsException"] ++ wsX50 ++ wsX30 ++ (vx_atS RX5 197 "java/lang/IndexOutOfBoundsException" supX).filter goodWord)
set_option maxRecDepth 20000 in
theorem gd_c_L_inRow_badC_9 : GoodIn wm_c_L_inRow_badC (wsV RL 95 RX5 yX5_inRow wm_c_X5_inRow_badC) := goodIn_of _ (by decide +kernel)
set_option maxHeartbeats 4000000 in
set_option maxRecDepth 100000 in
theorem c_L_inRow_badC (l : Launch) (hl0 : l.stackTraces = false) (κ : Nat → Nat) (D : va_G) (sz : Nat) (h0 : Nat) (o0 : Nat) (g0 : Nat) (o2 : Nat) (o3 : Nat) (o4 : Nat) (o5 : Nat) (o6 : Nat) (q0 : Nat) (cO : ClassId) (cJ : ClassId) (rr : Nat → Nat) (FF : Nat → Nat → Int64) (hs : Nat) (sd : Nat) (nn : Nat) (p0 : Int32) (p1 : Int32) (p2 : Int64) (p3 : Int32) (u0 : Nat) (cL : ClassId) (fo : Nat → Int64) (e0 : p0 = nI hs) (e1 : p1 = nI sd) (h1s : 0 < hs) (hhs : hs < 11) (hsd : sd < 51) (e2 : p2 = lN nn) (hnn : nn < WN hs sd) (hbad : ¬ (0 ≤ p3.toInt ∧ p3.toInt < (hs : Int))) (hF : ∀ k, k < 11 → ∀ z, z < 91 → FF k z = WW k z) : Met l yL_inRow wm_c_L_inRow_badC ({ frames := 13, cells := 1, slots := 6, locals := 500 }) (va_Pc [.ref h0, .int p0, .int p1, .long p2, .int p3, .ref u0] (PC κ D [(cO, .array .long), (cJ, .long), (cL, .long)] [(h0, .inr (12, [.ref o0, .int 0, .ref g0, .ref o2, .ref o3, .ref o4, .ref o5, .int 0, .ref o6])), (o4, .inr (10, [.ref q0])), (q0, .inl (cO, 11, .inr (.inr (.inr (.inr (fun i => if i < 11 then some (rr i) else none)))))), ((rr 0), .inl (cJ, 91, .inr (.inl (FF 0)))), ((rr 1), .inl (cJ, 91, .inr (.inl (FF 1)))), ((rr 2), .inl (cJ, 91, .inr (.inl (FF 2)))), ((rr 3), .inl (cJ, 91, .inr (.inl (FF 3)))), ((rr 4), .inl (cJ, 91, .inr (.inl (FF 4)))), ((rr 5), .inl (cJ, 91, .inr (.inl (FF 5)))), ((rr 6), .inl (cJ, 91, .inr (.inl (FF 6)))), ((rr 7), .inl (cJ, 91, .inr (.inl (FF 7)))), ((rr 8), .inl (cJ, 91, .inr (.inl (FF 8)))), ((rr 9), .inl (cJ, 91, .inr (.inl (FF 9)))), ((rr 10), .inl (cJ, 91, .inr (.inl (FF 10)))), (u0, .inl (cL, 1, .inr (.inl fo)))] sz)) (va_Qi (fun (r : Int32) (_ : Unit) => r = 2) (fun _ t => PB D [] [] (va_A [(h0, .inr (12, [.ref o0, .int 0, .ref g0, .ref o2, .ref o3, .ref o4, .ref o5, .int 0, .ref o6])), (o4, .inr (10, [.ref q0])), (q0, .inl (cO, 11, .inr (.inr (.inr (.inr (fun i => if i < 11 then some (rr i) else none)))))), ((rr 0), .inl (cJ, 91, .inr (.inl (FF 0)))), ((rr 1), .inl (cJ, 91, .inr (.inl (FF 1)))), ((rr 2), .inl (cJ, 91, .inr (.inl (FF 2)))), ((rr 3), .inl (cJ, 91, .inr (.inl (FF 3)))), ((rr 4), .inl (cJ, 91, .inr (.inl (FF 4)))), ((rr 5), .inl (cJ, 91, .inr (.inl (FF 5)))), ((rr 6), .inl (cJ, 91, .inr (.inl (FF 6)))), ((rr 7), .inl (cJ, 91, .inr (.inl (FF 7)))), ((rr 8), .inl (cJ, 91, .inr (.inl (FF 8)))), ((rr 9), .inl (cJ, 91, .inr (.inl (FF 9)))), ((rr 10), .inl (cJ, 91, .inr (.inl (FF 10)))), (u0, .inl (cL, 1, .inr (.inl fo)))] sz) t) (va_A [(h0, .inr (12, [.ref o0, .int 0, .ref g0, .ref o2, .ref o3, .ref o4, .ref o5, .int 0, .ref o6])), (o4, .inr (10, [.ref q0])), (q0, .inl (cO, 11, .inr (.inr (.inr (.inr (fun i => if i < 11 then some (rr i) else none)))))), ((rr 0), .inl (cJ, 91, .inr (.inl (FF 0)))), ((rr 1), .inl (cJ, 91, .inr (.inl (FF 1)))), ((rr 2), .inl (cJ, 91, .inr (.inl (FF 2)))), ((rr 3), .inl (cJ, 91, .inr (.inl (FF 3)))), ((rr 4), .inl (cJ, 91, .inr (.inl (FF 4)))), ((rr 5), .inl (cJ, 91, .inr (.inl (FF 5)))), ((rr 6), .inl (cJ, 91, .inr (.inl (FF 6)))), ((rr 7), .inl (cJ, 91, .inr (.inl (FF 7)))), ((rr 8), .inl (cJ, 91, .inr (.inl (FF 8)))), ((rr 9), .inl (cJ, 91, .inr (.inl (FF 9)))), ((rr 10), .inl (cJ, 91, .inr (.inl (FF 10)))), (u0, .inl (cL, 1, .inr (.inl fo)))] sz)) 1 6 (va_A [(h0, .inr (12, [.ref o0, .int 0, .ref g0, .ref o2, .ref o3, .ref o4, .ref o5, .int 0, .ref o6])), (o4, .inr (10, [.ref q0])), (q0, .inl (cO, 11, .inr (.inr (.inr (.inr (fun i => if i < 11 then some (rr i) else none)))))), ((rr 0), .inl (cJ, 91, .inr (.inl (FF 0)))), ((rr 1), .inl (cJ, 91, .inr (.inl (FF 1)))), ((rr 2), .inl (cJ, 91, .inr (.inl (FF 2)))), ((rr 3), .inl (cJ, 91, .inr (.inl (FF 3)))), ((rr 4), .inl (cJ, 91, .inr (.inl (FF 4)))), ((rr 5), .inl (cJ, 91, .inr (.inl (FF 5)))), ((rr 6), .inl (cJ, 91, .inr (.inl (FF 6)))), ((rr 7), .inl (cJ, 91, .inr (.inl (FF 7)))), ((rr 8), .inl (cJ, 91, .inr (.inl (FF 8)))), ((rr 9), .inl (cJ, 91, .inr (.inl (FF 9)))), ((rr 10), .inl (cJ, 91, .inr (.inl (FF 10)))), (u0, .inl (cL, 1, .inr (.inl fo)))] sz) := by
  refine va_MetW (cc := cL_inRow) (maxL := 8) (ret := (some .int)) (by decide +kernel) rfl ?_
  intro p e s m args below meth c s₁ B hml hv
  obtain ⟨rfl, hsz, hP, hK, hD0, hE⟩ := hv
  have hx := B.exec
  have hb := B.bytes
  have hr := B.returns
  have hts := atoms_spec (ws := wm_c_L_inRow_badC) B.pre
  have hown : s.vm.findClass RL = some m.cls := findClass_of_methodNamed B.named
  have hlocks := B.notSynchronized
  have htb : c.exceptionTable.toList = tableOf [(0, 14, 17, 13), (0, 14, 21, 21)] := vx_table (x := yL_inRow) B (hts _ List.mem_cons_self)
  have iRX5 : ∀ w ∈ u_ws RX5 TX5 9, w ∈ wm_c_L_inRow_badC := by decide +kernel
  have iRX3 : ∀ w ∈ u_ws RX3 TX3 1, w ∈ wm_c_L_inRow_badC := by decide +kernel
  subst hsz
  have hD := hD0.self (sz := s.heap.size)
  generalize hAe : va_A [(h0, .inr (12, [.ref o0, .int 0, .ref g0, .ref o2, .ref o3, .ref o4, .ref o5, .int 0, .ref o6])), (o4, .inr (10, [.ref q0])), (q0, .inl (cO, 11, .inr (.inr (.inr (.inr (fun i => if i < 11 then some (rr i) else none)))))), ((rr 0), .inl (cJ, 91, .inr (.inl (FF 0)))), ((rr 1), .inl (cJ, 91, .inr (.inl (FF 1)))), ((rr 2), .inl (cJ, 91, .inr (.inl (FF 2)))), ((rr 3), .inl (cJ, 91, .inr (.inl (FF 3)))), ((rr 4), .inl (cJ, 91, .inr (.inl (FF 4)))), ((rr 5), .inl (cJ, 91, .inr (.inl (FF 5)))), ((rr 6), .inl (cJ, 91, .inr (.inl (FF 6)))), ((rr 7), .inl (cJ, 91, .inr (.inl (FF 7)))), ((rr 8), .inl (cJ, 91, .inr (.inl (FF 8)))), ((rr 9), .inl (cJ, 91, .inr (.inl (FF 9)))), ((rr 10), .inl (cJ, 91, .inr (.inl (FF 10)))), (u0, .inl (cL, 1, .inr (.inl fo)))] s.heap.size = A at hD hE ⊢
  have hA : ∀ q : Nat, s.heap.size ≤ q → A q := fun q h => by rw [← hAe]; exact Or.inr h
  have hS : va_S A s.heap s.heap [] := va_S.rf
  have hl := lv_entry ([.ref h0, .int p0, .int p1, .long p2, .int p3, .ref u0]) (n := 8) (Nat.le_of_ble_eq_true rfl)
  rw [lg_entry_eq]
  generalize (lg_sl ([.ref h0, .int p0, .int p1, .long p2, .int p3, .ref u0]) ++ List.replicate (8 - (lg_sl ([.ref h0, .int p0, .int p1, .long p2, .int p3, .ref u0])).length) Slot.unset).toArray = ls at hl ⊢
  have hl : lv_has ls 8 [(0, .ref h0), (1, .int p0), (2, .int p1), (3, .long p2), (5, .int p3), (6, .ref u0)] := hl
  refine lv_aload hx hb dL_inRow_0 (lv_at hl 5 rfl) ?_
  refine lv_iconst (v := 0) hx hb dL_inRow_2 (by decide) ?_
  refine lv_aload_n hx hb dL_inRow_3 rfl (lv_at hl 0 rfl) ?_
  refine lv_iload_n hx hb dL_inRow_4 rfl (lv_at hl 1 rfl) ?_
  refine lv_iload_n hx hb dL_inRow_5 rfl (lv_at hl 2 rfl) ?_
  refine lv_lload_n hx hb dL_inRow_6 rfl (lv_at hl 3 rfl) ?_
  refine lv_iload hx hb dL_inRow_7 (lv_at hl 4 rfl) ?_
  have hS0 := hS
  have hFc := va_free (wc := [(h0, .inr (12, [.ref o0, .int 0, .ref g0, .ref o2, .ref o3, .ref o4, .ref o5, .int 0, .ref o6])), (o4, .inr (10, [.ref q0])), (q0, .inl (cO, 11, .inr (.inr (.inr (.inr (fun i => if i < 11 then some (rr i) else none)))))), ((rr 0), .inl (cJ, 91, .inr (.inl (FF 0)))), ((rr 1), .inl (cJ, 91, .inr (.inl (FF 1)))), ((rr 2), .inl (cJ, 91, .inr (.inl (FF 2)))), ((rr 3), .inl (cJ, 91, .inr (.inl (FF 3)))), ((rr 4), .inl (cJ, 91, .inr (.inl (FF 4)))), ((rr 5), .inl (cJ, 91, .inr (.inl (FF 5)))), ((rr 6), .inl (cJ, 91, .inr (.inl (FF 6)))), ((rr 7), .inl (cJ, 91, .inr (.inl (FF 7)))), ((rr 8), .inl (cJ, 91, .inr (.inl (FF 8)))), ((rr 9), .inl (cJ, 91, .inr (.inl (FF 9)))), ((rr 10), .inl (cJ, 91, .inr (.inl (FF 10))))]) hD hS hA [0, 1, 2, 3, 4, 5, 6, 7, 8, 9, 10, 11, 12, 13] rfl
  refine vx_calli (vx_runV (As := [.int p0, .int p1, .long p2, .int p3]) (rest := [.int 0, .ref u0]) ⟨hx, hb, hml, hown, hts⟩ (c_X5_inRow_badC l hl0 κ D (s.heap).size (h0) (o0) (g0) (o2) (o3) (o4) (o5) (o6) (q0) (cO) (cJ) (rr) (FF) (p0) (p1) (p2) (p3) (hs) (sd) (nn) (e0) (e1) (h1s) (hhs) (hsd) (e2) (hnn) (hbad) (hF)) (cwV 4 hts gd_c_L_inRow_badC_9 rfl rfl rfl (by decide +kernel) ⟨(Nat.le_of_ble_eq_true rfl), (Nat.le_of_ble_eq_true rfl)⟩) (preV hE hK hP hD hS hA [0, 1, 2, 3, 4, 5, 6, 7, 8, 9, 10, 11, 12, 13] rfl (by decide) [0, 1] rfl (va_recv hK hP (ci := 12) (q0 := 0) rfl rfl)) rfl rfl hl.1 rfl (lv_room (Nat.le_of_ble_eq_true rfl)) dL_inRow_9 ⟨(Nat.le_of_ble_eq_true rfl), (Nat.le_of_ble_eq_true rfl)⟩) hS (fun q _ h => hFc q h) hFc (fun q _ h => hFc q h) (fun E9 ce q9 u9 t H1 locs ht hvm _ hB hz1 hk1 hS hce hcv hcl => ?_) (fun _ _ _ _ _ _ _ hw => hw.elim)
  obtain ⟨rfl, hB⟩ := hB
  obtain ⟨hP, hD, hK⟩ := jn (wc := [(h0, .inr (12, [.ref o0, .int 0, .ref g0, .ref o2, .ref o3, .ref o4, .ref o5, .int 0, .ref o6])), (o4, .inr (10, [.ref q0])), (q0, .inl (cO, 11, .inr (.inr (.inr (.inr (fun i => if i < 11 then some (rr i) else none)))))), ((rr 0), .inl (cJ, 91, .inr (.inl (FF 0)))), ((rr 1), .inl (cJ, 91, .inr (.inl (FF 1)))), ((rr 2), .inl (cJ, 91, .inr (.inl (FF 2)))), ((rr 3), .inl (cJ, 91, .inr (.inl (FF 3)))), ((rr 4), .inl (cJ, 91, .inr (.inl (FF 4)))), ((rr 5), .inl (cJ, 91, .inr (.inl (FF 5)))), ((rr 6), .inl (cJ, 91, .inr (.inl (FF 6)))), ((rr 7), .inl (cJ, 91, .inr (.inl (FF 7)))), ((rr 8), .inl (cJ, 91, .inr (.inl (FF 8)))), ((rr 9), .inl (cJ, 91, .inr (.inl (FF 9)))), ((rr 10), .inl (cJ, 91, .inr (.inl (FF 10))))]) (wr := [(u0, .inl (cL, 1, .inr (.inl fo)))]) (w1 := []) (t1 := []) hP hD hK hS0 hA [0, 1, 2, 3, 4, 5, 6, 7, 8, 9, 10, 11, 12, 13] [14] rfl rfl (by decide) (by decide) ht hvm hk1 hB
  generalize H1 = H at hP hS hce ⊢
  have hP : va_P D vwCl ([(u0, .inl (cL, 1, .inr (.inl fo)))]) H := hP
  have hD : va_D A ([(u0, .inl (cL, 1, .inr (.inl fo)))]) := hD
  have hK : va_K D vwCl [(cO, .array .long), (cJ, .long), (cL, .long)] s := hK
  refine vx_widen (k := 1) (n := 6) (Nat.le_of_ble_eq_true rfl) (Nat.le_of_ble_eq_true rfl) ?_
  refine vx_catch (E := "java/lang/IndexOutOfBoundsException") (name := "java/lang/IndexOutOfBoundsException") hown [⟨0, 14, 17, 13⟩] ⟨0, 14, 21, 21⟩ [] htb (fun z hz => by rcases List.mem_singleton.mp hz with rfl; exact Or.inr ⟨by decide, "java/lang/IllegalArgumentException", (hts (.classLink RL 13 "java/lang/IllegalArgumentException") (by decide +kernel)), hE.nc0⟩) (by decide) (by decide) (hts (.classLink RL 21 "java/lang/IndexOutOfBoundsException") (by decide +kernel)) (va_Nw.use rfl hE.ca2) hce hcv hcl ?_
  refine W.eq (g2 := F0 m 21 ls [.ref q9]) rfl ?_
  refine lv_astore (lv' := [(7, .ref q9), (0, .ref h0), (1, .int p0), (2, .int p1), (3, .long p2), (5, .int p3), (6, .ref u0)]) hx hb dL_inRow_21 hl (by decide) rfl (fun ls hl => ?_)
  refine lv_iconst (v := 2) hx hb dL_inRow_23 (by decide) ?_
  refine W.widen (k := 1) (n := 6) (Nat.le_of_ble_eq_true rfl) (Nat.le_of_ble_eq_true rfl) ?_
  exact W.iret (v := 2) hx hb hr (fun t ht hW => ⟨⟨2, (), rfl, rfl, PB.at hP hK hD hW.alike ht [] rfl (by decide) [] rfl⟩, hS.F ht⟩) hS.2.2 dL_inRow_24

def wm_c_L_kind_ok : List Cond := .codeWith yL_kind cL_kind 7 (some .int) [(0, 14, 17, 13), (0, 14, 21, 15)] :: ([.code yX5_kind cX5_kind 6 (some .int), .code yX5_isWithin cX5_isWithin 3 (some .boolean), .methodLink RX5 57 yX5_isWithin, .static yX5_isWithin, .initialized RX5, .code yX2_isLap cX2_isLap 1 (some .boolean), .methodLink RX5 68 yX2_isLap, .static yX2_isLap, .initialized RX2, .code yX2_isCapture cX2_isCapture 1 (some .boolean), .methodLink RX5 72 yX2_isCapture, .static yX2_isCapture, .code yX5_needRoomForKind cX5_needRoomForKind 1 none, .fieldLink RX5 80 "Sowingcourt" "kindCount" "I", .methodLink RX5 77 yX5_needRoomForKind, .instanceMethod yX5_needRoomForKind, .selects RX5 yX5_needRoomForKind yX5_needRoomForKind, .fieldLink RX5 11 "Sowingcourt" "kinds" "[LSowingcourt$Kind;", .fieldLink RX5 84 "Sowingcourt$Kind" "holesEach" "I", .fieldLink RX5 87 "Sowingcourt$Kind" "seedsEach" "I", .fieldLink RX5 90 "Sowingcourt$Kind" "lap" "C", .fieldLink RX5 94 "Sowingcourt$Kind" "capture" "C", .methodLink RL 7 yX5_kind, .instanceMethod yX5_kind, .selects RX5 yX5_kind yX5_kind] ++ wsX50 ++ wsX20)
set_option maxRecDepth 20000 in
theorem gd_c_L_kind_ok_9 : GoodIn wm_c_L_kind_ok (wsV RL 7 RX5 yX5_kind wm_c_X5_kind_ok) := goodIn_of _ (by decide +kernel)
set_option maxHeartbeats 4000000 in
set_option maxRecDepth 100000 in
theorem c_L_kind_ok (l : Launch) (κ : Nat → Nat) (D : va_G) (sz : Nat) (h0 : Nat) (o0 : Nat) (g0 : Nat) (o2 : Nat) (o3 : Nat) (o4 : Nat) (o5 : Nat) (o6 : Nat) (k0 : Nat) (kr : Nat) (cK : ClassId) (kf : Nat → Option Nat) (p0 : Int32) (p1 : Int32) (p2 : Int32) (p3 : Int32) (u0 : Nat) (cL : ClassId) (fo : Nat → Int64) (hkf : kf 0 = some k0) (hA0 : (2 : Int32).toInt ≤ p0.toInt ∧ p0.toInt ≤ (5 : Int32).toInt) (hB0 : (1 : Int32).toInt ≤ p1.toInt ∧ p1.toInt ≤ (5 : Int32).toInt) (hL0 : p2 = 115 ∨ p2 = 114 ∨ p2 = 112) (hC0 : p3 = 110 ∨ p3 = 111 ∨ p3 = 99 ∨ p3 = 101) (n2 : narrow .char (.int p2) = .int p2) (f2 : fits .char (.int p2) = true) (n3 : narrow .char (.int p3) = .int p3) (f3 : fits .char (.int p3) = true) : Met l yL_kind wm_c_L_kind_ok ({ frames := 13, cells := 0, slots := 0, locals := 500 }) (va_Pc [.ref h0, .int p0, .int p1, .int p2, .int p3, .ref u0] (PC κ D [(cK, .object "Sowingcourt$Kind"), (cL, .long)] [(h0, .inr (12, [.ref o0, .int 0, .ref g0, .ref o2, .ref o3, .ref o4, .ref o5, .int 0, .ref o6])), (o0, .inl (cK, 6, .inr (.inr (.inr (.inr kf))))), (k0, .inr (9, [.int 2, .int 1, .int 115, .int 110, .ref kr])), (u0, .inl (cL, 1, .inr (.inl fo)))] sz)) (va_Qi (fun (r : Int32) (_ : Unit) => r = 0) (fun _ t => PB D [(cL, .long)] [(u0, .inl (cL, 1, .inr (.inl (vp_updL fo 0 (0)))))] (va_A [(h0, .inr (12, [.ref o0, .int 0, .ref g0, .ref o2, .ref o3, .ref o4, .ref o5, .int 0, .ref o6])), (o0, .inl (cK, 6, .inr (.inr (.inr (.inr kf))))), (k0, .inr (9, [.int 2, .int 1, .int 115, .int 110, .ref kr])), (u0, .inl (cL, 1, .inr (.inl fo)))] sz) t) (va_A [(h0, .inr (12, [.ref o0, .int 0, .ref g0, .ref o2, .ref o3, .ref o4, .ref o5, .int 0, .ref o6])), (o0, .inl (cK, 6, .inr (.inr (.inr (.inr kf))))), (k0, .inr (9, [.int 2, .int 1, .int 115, .int 110, .ref kr])), (u0, .inl (cL, 1, .inr (.inl fo)))] sz)) 0 0 (va_A [(h0, .inr (12, [.ref o0, .int 0, .ref g0, .ref o2, .ref o3, .ref o4, .ref o5, .int 0, .ref o6])), (o0, .inl (cK, 6, .inr (.inr (.inr (.inr kf))))), (k0, .inr (9, [.int 2, .int 1, .int 115, .int 110, .ref kr])), (u0, .inl (cL, 1, .inr (.inl fo)))] sz) := by
  refine va_MetW (cc := cL_kind) (maxL := 7) (ret := (some .int)) (by decide +kernel) rfl ?_
  intro p e s m args below meth c s₁ B hml hv
  obtain ⟨rfl, hsz, hP, hK, hD0, hE⟩ := hv
  have hx := B.exec
  have hb := B.bytes
  have hr := B.returns
  have hts := atoms_spec (ws := wm_c_L_kind_ok) B.pre
  have hown : s.vm.findClass RL = some m.cls := findClass_of_methodNamed B.named
  have hlocks := B.notSynchronized
  have htb : c.exceptionTable.toList = tableOf [(0, 14, 17, 13), (0, 14, 21, 15)] := vx_table (x := yL_kind) B (hts _ List.mem_cons_self)
  have iRX5 : ∀ w ∈ u_ws RX5 TX5 9, w ∈ wm_c_L_kind_ok := by decide +kernel
  have iRX2 : ∀ w ∈ u_ws RX2 TX2 5, w ∈ wm_c_L_kind_ok := by decide +kernel
  subst hsz
  have hD := hD0.self (sz := s.heap.size)
  generalize hAe : va_A [(h0, .inr (12, [.ref o0, .int 0, .ref g0, .ref o2, .ref o3, .ref o4, .ref o5, .int 0, .ref o6])), (o0, .inl (cK, 6, .inr (.inr (.inr (.inr kf))))), (k0, .inr (9, [.int 2, .int 1, .int 115, .int 110, .ref kr])), (u0, .inl (cL, 1, .inr (.inl fo)))] s.heap.size = A at hD hE ⊢
  have hA : ∀ q : Nat, s.heap.size ≤ q → A q := fun q h => by rw [← hAe]; exact Or.inr h
  have hS : va_S A s.heap s.heap [] := va_S.rf
  have hl := lv_entry ([.ref h0, .int p0, .int p1, .int p2, .int p3, .ref u0]) (n := 7) (Nat.le_of_ble_eq_true rfl)
  rw [lg_entry_eq]
  generalize (lg_sl ([.ref h0, .int p0, .int p1, .int p2, .int p3, .ref u0]) ++ List.replicate (7 - (lg_sl ([.ref h0, .int p0, .int p1, .int p2, .int p3, .ref u0])).length) Slot.unset).toArray = ls at hl ⊢
  have hl : lv_has ls 7 [(0, .ref h0), (1, .int p0), (2, .int p1), (3, .int p2), (4, .int p3), (5, .ref u0)] := hl
  refine lv_aload hx hb dL_kind_0 (lv_at hl 5 rfl) ?_
  refine lv_iconst (v := 0) hx hb dL_kind_2 (by decide) ?_
  refine lv_aload_n hx hb dL_kind_3 rfl (lv_at hl 0 rfl) ?_
  refine lv_iload_n hx hb dL_kind_4 rfl (lv_at hl 1 rfl) ?_
  refine lv_iload_n hx hb dL_kind_5 rfl (lv_at hl 2 rfl) ?_
  refine lv_iload_n hx hb dL_kind_6 rfl (lv_at hl 3 rfl) ?_
  refine lv_iload hx hb dL_kind_7 (lv_at hl 4 rfl) ?_
  have hS0 := hS
  have hFc := va_free (wc := [(h0, .inr (12, [.ref o0, .int 0, .ref g0, .ref o2, .ref o3, .ref o4, .ref o5, .int 0, .ref o6])), (o0, .inl (cK, 6, .inr (.inr (.inr (.inr kf))))), (k0, .inr (9, [.int 2, .int 1, .int 115, .int 110, .ref kr]))]) hD hS hA [0, 1, 2] rfl
  refine va_calli (va_runV (As := [.int p0, .int p1, .int p2, .int p3]) (rest := [.int 0, .ref u0]) ⟨hx, hb, hml, hown, hts⟩ (c_X5_kind_ok l κ D (s.heap).size (h0) (o0) (g0) (o2) (o3) (o4) (o5) (o6) (p0) (p1) (p2) (p3) (k0) (kr) (cK) (kf) (hkf) (hA0) (hB0) (hL0) (hC0) (n2) (f2) (n3) (f3)) (cwV 4 hts gd_c_L_kind_ok_9 rfl rfl rfl (by decide +kernel) ⟨(Nat.le_of_ble_eq_true rfl), (Nat.le_of_ble_eq_true rfl)⟩) (preV hE hK hP hD hS hA [0, 1, 2] rfl (by decide) [0] rfl (va_recv hK hP (ci := 12) (q0 := 0) rfl rfl)) rfl rfl hl.1 rfl (lv_room (Nat.le_of_ble_eq_true rfl)) dL_kind_9 ⟨(Nat.le_of_ble_eq_true rfl), (Nat.le_of_ble_eq_true rfl)⟩) hS (fun q _ h => hFc q h) hFc (fun r_1 u t H1 locs ht hvm hw hB hz1 hk1 hS => ?_)
  try dsimp only at hw
  obtain ⟨hP, hD, hK⟩ := jn (wc := [(h0, .inr (12, [.ref o0, .int 0, .ref g0, .ref o2, .ref o3, .ref o4, .ref o5, .int 0, .ref o6])), (o0, .inl (cK, 6, .inr (.inr (.inr (.inr kf))))), (k0, .inr (9, [.int 2, .int 1, .int 115, .int 110, .ref kr]))]) (wr := [(u0, .inl (cL, 1, .inr (.inl fo)))]) (w1 := []) (t1 := []) hP hD hK hS0 hA [0, 1, 2] [3] rfl rfl (by decide) (by decide) ht hvm hk1 hB
  generalize H1 = H at hP hS ⊢
  have hP : va_P D vwCl ([(u0, .inl (cL, 1, .inr (.inl fo)))]) H := hP
  have hD : va_D A ([(u0, .inl (cL, 1, .inr (.inl fo)))]) := hD
  have hK : va_K D vwCl [(cK, .object "Sowingcourt$Kind"), (cL, .long)] s := hK
  refine W.widen (k := 0) (n := 0) (Nat.le_of_ble_eq_true rfl) (Nat.le_of_ble_eq_true rfl) ?_
  subst hw
  refine lv_i2l (v := 0) hx hb dL_kind_12 (by decide) ?_
  refine va_last hx hb hK hP hD hS 0 1 rfl rfl (i := 0) (by unfold vp_in; decide) dL_kind_13 (fun H locs hP hD hS => ?_)
  have hP : va_P D vwCl ([(u0, .inl (cL, 1, .inr (.inl (vp_updL fo 0 (0)))))]) H := hP
  have hD : va_D A ([(u0, .inl (cL, 1, .inr (.inl (vp_updL fo 0 (0)))))]) := hD
  refine lv_goto (tgt := 25) hx hb dL_kind_14 (by decide) ?_
  refine lv_iconst (v := 0) hx hb dL_kind_25 (by decide) ?_
  refine W.widen (k := 0) (n := 0) (Nat.le_of_ble_eq_true rfl) (Nat.le_of_ble_eq_true rfl) ?_
  exact W.iret (v := 0) hx hb hr (fun t ht hW => ⟨⟨0, (), rfl, rfl, PB.at hP hK hD hW.alike ht [0] rfl (by decide) [1] rfl⟩, hS.F ht⟩) hS.2.2 dL_kind_26

def wm_c_L_type_ok : List Cond := .codeWith yL_type cL_type 4 (some .int) [(0, 9, 12, 13), (0, 9, 15, 15)] :: ([.code yX5_type cX5_type 2 (some .int), .code yX5_isWithin cX5_isWithin 3 (some .boolean), .methodLink RX5 57 yX5_isWithin, .static yX5_isWithin, .initialized RX5, .fieldLink RX5 268 "Sowingcourt" "typedCount" "I", .fieldLink RX5 46 "Sowingcourt" "typed" "[I", .methodLink RL 116 yX5_type, .instanceMethod yX5_type, .selects RX5 yX5_type yX5_type] ++ wsX50)
set_option maxRecDepth 20000 in
theorem gd_c_L_type_ok_4 : GoodIn wm_c_L_type_ok (wsV RL 116 RX5 yX5_type wm_c_X5_type_ok) := goodIn_of _ (by decide +kernel)
set_option maxHeartbeats 4000000 in
set_option maxRecDepth 100000 in
theorem c_L_type_ok (l : Launch) (κ : Nat → Nat) (D : va_G) (sz : Nat) (h0 : Nat) (o0 : Nat) (g0 : Nat) (o2 : Nat) (o3 : Nat) (o4 : Nat) (o5 : Nat) (o6 : Nat) (cI : ClassId) (tf : Nat → Int32) (p0 : Int32) (u0 : Nat) (cL : ClassId) (fo : Nat → Int64) (hA0 : (0 : Int32).toInt ≤ p0.toInt ∧ p0.toInt ≤ (9 : Int32).toInt) : Met l yL_type wm_c_L_type_ok ({ frames := 13, cells := 0, slots := 0, locals := 500 }) (va_Pc [.ref h0, .int p0, .ref u0] (PC κ D [(cI, .int), (cL, .long)] [(h0, .inr (12, [.ref o0, .int 0, .ref g0, .ref o2, .ref o3, .ref o4, .ref o5, .int 0, .ref o6])), (o5, .inl (cI, 60, .inl tf)), (u0, .inl (cL, 1, .inr (.inl fo)))] sz)) (va_Qi (fun (r : Int32) (_ : Unit) => r = 0) (fun _ t => PB D [(cL, .long)] [(u0, .inl (cL, 1, .inr (.inl (vp_updL fo 0 (1)))))] (va_A [(h0, .inr (12, [.ref o0, .int 0, .ref g0, .ref o2, .ref o3, .ref o4, .ref o5, .int 0, .ref o6])), (o5, .inl (cI, 60, .inl tf)), (u0, .inl (cL, 1, .inr (.inl fo)))] sz) t) (va_A [(h0, .inr (12, [.ref o0, .int 0, .ref g0, .ref o2, .ref o3, .ref o4, .ref o5, .int 0, .ref o6])), (o5, .inl (cI, 60, .inl tf)), (u0, .inl (cL, 1, .inr (.inl fo)))] sz)) 0 0 (va_A [(h0, .inr (12, [.ref o0, .int 0, .ref g0, .ref o2, .ref o3, .ref o4, .ref o5, .int 0, .ref o6])), (o5, .inl (cI, 60, .inl tf)), (u0, .inl (cL, 1, .inr (.inl fo)))] sz) := by
  refine va_MetW (cc := cL_type) (maxL := 4) (ret := (some .int)) (by decide +kernel) rfl ?_
  intro p e s m args below meth c s₁ B hml hv
  obtain ⟨rfl, hsz, hP, hK, hD0, hE⟩ := hv
  have hx := B.exec
  have hb := B.bytes
  have hr := B.returns
  have hts := atoms_spec (ws := wm_c_L_type_ok) B.pre
  have hown : s.vm.findClass RL = some m.cls := findClass_of_methodNamed B.named
  have hlocks := B.notSynchronized
  have htb : c.exceptionTable.toList = tableOf [(0, 9, 12, 13), (0, 9, 15, 15)] := vx_table (x := yL_type) B (hts _ List.mem_cons_self)
  have iRX5 : ∀ w ∈ u_ws RX5 TX5 9, w ∈ wm_c_L_type_ok := by decide +kernel
  subst hsz
  have hD := hD0.self (sz := s.heap.size)
  generalize hAe : va_A [(h0, .inr (12, [.ref o0, .int 0, .ref g0, .ref o2, .ref o3, .ref o4, .ref o5, .int 0, .ref o6])), (o5, .inl (cI, 60, .inl tf)), (u0, .inl (cL, 1, .inr (.inl fo)))] s.heap.size = A at hD hE ⊢
  have hA : ∀ q : Nat, s.heap.size ≤ q → A q := fun q h => by rw [← hAe]; exact Or.inr h
  have hS : va_S A s.heap s.heap [] := va_S.rf
  have hl := lv_entry ([.ref h0, .int p0, .ref u0]) (n := 4) (Nat.le_of_ble_eq_true rfl)
  rw [lg_entry_eq]
  generalize (lg_sl ([.ref h0, .int p0, .ref u0]) ++ List.replicate (4 - (lg_sl ([.ref h0, .int p0, .ref u0])).length) Slot.unset).toArray = ls at hl ⊢
  have hl : lv_has ls 4 [(0, .ref h0), (1, .int p0), (2, .ref u0)] := hl
  refine lv_aload_n hx hb dL_type_0 rfl (lv_at hl 2 rfl) ?_
  refine lv_iconst (v := 0) hx hb dL_type_1 (by decide) ?_
  refine lv_aload_n hx hb dL_type_2 rfl (lv_at hl 0 rfl) ?_
  refine lv_iload_n hx hb dL_type_3 rfl (lv_at hl 1 rfl) ?_
  have hS0 := hS
  have hFc := va_free (wc := [(h0, .inr (12, [.ref o0, .int 0, .ref g0, .ref o2, .ref o3, .ref o4, .ref o5, .int 0, .ref o6])), (o5, .inl (cI, 60, .inl tf))]) hD hS hA [0, 1] rfl
  refine va_calli (va_runV (As := [.int p0]) (rest := [.int 0, .ref u0]) ⟨hx, hb, hml, hown, hts⟩ (c_X5_type_ok l κ D (s.heap).size (h0) (o0) (g0) (o2) (o3) (o4) (o5) (o6) (p0) (cI) (tf) (hA0)) (cwV 1 hts gd_c_L_type_ok_4 rfl rfl rfl (by decide +kernel) ⟨(Nat.le_of_ble_eq_true rfl), (Nat.le_of_ble_eq_true rfl)⟩) (preV hE hK hP hD hS hA [0, 1] rfl (by decide) [0] rfl (va_recv hK hP (ci := 12) (q0 := 0) rfl rfl)) rfl rfl hl.1 rfl (lv_room (Nat.le_of_ble_eq_true rfl)) dL_type_4 ⟨(Nat.le_of_ble_eq_true rfl), (Nat.le_of_ble_eq_true rfl)⟩) hS (fun q _ h => hFc q h) hFc (fun r_1 u t H1 locs ht hvm hw hB hz1 hk1 hS => ?_)
  try dsimp only at hw
  obtain ⟨hP, hD, hK⟩ := jn (wc := [(h0, .inr (12, [.ref o0, .int 0, .ref g0, .ref o2, .ref o3, .ref o4, .ref o5, .int 0, .ref o6])), (o5, .inl (cI, 60, .inl tf))]) (wr := [(u0, .inl (cL, 1, .inr (.inl fo)))]) (w1 := []) (t1 := []) hP hD hK hS0 hA [0, 1] [2] rfl rfl (by decide) (by decide) ht hvm hk1 hB
  generalize H1 = H at hP hS ⊢
  have hP : va_P D vwCl ([(u0, .inl (cL, 1, .inr (.inl fo)))]) H := hP
  have hD : va_D A ([(u0, .inl (cL, 1, .inr (.inl fo)))]) := hD
  have hK : va_K D vwCl [(cI, .int), (cL, .long)] s := hK
  refine W.widen (k := 0) (n := 0) (Nat.le_of_ble_eq_true rfl) (Nat.le_of_ble_eq_true rfl) ?_
  subst hw
  refine lv_i2l (v := 1) hx hb dL_type_7 (by decide) ?_
  refine va_last hx hb hK hP hD hS 0 1 rfl rfl (i := 0) (by unfold vp_in; decide) dL_type_8 (fun H locs hP hD hS => ?_)
  have hP : va_P D vwCl ([(u0, .inl (cL, 1, .inr (.inl (vp_updL fo 0 (1)))))]) H := hP
  have hD : va_D A ([(u0, .inl (cL, 1, .inr (.inl (vp_updL fo 0 (1)))))]) := hD
  refine lv_goto (tgt := 18) hx hb dL_type_9 (by decide) ?_
  refine lv_iconst (v := 0) hx hb dL_type_18 (by decide) ?_
  refine W.widen (k := 0) (n := 0) (Nat.le_of_ble_eq_true rfl) (Nat.le_of_ble_eq_true rfl) ?_
  exact W.iret (v := 0) hx hb hr (fun t ht hW => ⟨⟨0, (), rfl, rfl, PB.at hP hK hD hW.alike ht [0] rfl (by decide) [1] rfl⟩, hS.F ht⟩) hS.2.2 dL_type_19

def wm_c_L_many_ok : List Cond := .codeWith yL_many cL_many 5 (some .int) [(0, 9, 12, 13)] :: ([.code yX5_many cX5_many 3 (some .long), .code yX5_needRows cX5_needRows 2 none, .code yX5_isWithin cX5_isWithin 3 (some .boolean), .methodLink RX5 57 yX5_isWithin, .static yX5_isWithin, .initialized RX5, .methodLink RX5 215 yX5_needRows, .static yX5_needRows, .fieldLink RX5 42 "Sowingcourt" "rows" "LSowingcourt$Rows;", .fieldLink RX5 218 "Sowingcourt$Rows" "ways" "[[J", .methodLink RL 87 yX5_many, .instanceMethod yX5_many, .selects RX5 yX5_many yX5_many] ++ wsX50 ++ wsX30)
set_option maxRecDepth 20000 in
theorem gd_c_L_many_ok_5 : GoodIn wm_c_L_many_ok (wsV RL 87 RX5 yX5_many wm_c_X5_many_ok) := goodIn_of _ (by decide +kernel)
set_option maxHeartbeats 4000000 in
set_option maxRecDepth 100000 in
theorem c_L_many_ok (l : Launch) (κ : Nat → Nat) (D : va_G) (sz : Nat) (h0 : Nat) (o0 : Nat) (g0 : Nat) (o2 : Nat) (o3 : Nat) (o4 : Nat) (o5 : Nat) (o6 : Nat) (q0 : Nat) (cO : ClassId) (cJ : ClassId) (rr : Nat → Nat) (FF : Nat → Nat → Int64) (hs : Nat) (sd : Nat) (p0 : Int32) (p1 : Int32) (u0 : Nat) (cL : ClassId) (fo : Nat → Int64) (e0 : p0 = nI hs) (e1 : p1 = nI sd) (h1s : 0 < hs) (hhs : hs < 11) (hsd : sd < 51) (hF : ∀ k, k < 11 → ∀ z, z < 91 → FF k z = WW k z) : Met l yL_many wm_c_L_many_ok ({ frames := 13, cells := 0, slots := 0, locals := 500 }) (va_Pc [.ref h0, .int p0, .int p1, .ref u0] (PC κ D [(cO, .array .long), (cJ, .long), (cL, .long)] [(h0, .inr (12, [.ref o0, .int 0, .ref g0, .ref o2, .ref o3, .ref o4, .ref o5, .int 0, .ref o6])), (o4, .inr (10, [.ref q0])), (q0, .inl (cO, 11, .inr (.inr (.inr (.inr (fun i => if i < 11 then some (rr i) else none)))))), ((rr 0), .inl (cJ, 91, .inr (.inl (FF 0)))), ((rr 1), .inl (cJ, 91, .inr (.inl (FF 1)))), ((rr 2), .inl (cJ, 91, .inr (.inl (FF 2)))), ((rr 3), .inl (cJ, 91, .inr (.inl (FF 3)))), ((rr 4), .inl (cJ, 91, .inr (.inl (FF 4)))), ((rr 5), .inl (cJ, 91, .inr (.inl (FF 5)))), ((rr 6), .inl (cJ, 91, .inr (.inl (FF 6)))), ((rr 7), .inl (cJ, 91, .inr (.inl (FF 7)))), ((rr 8), .inl (cJ, 91, .inr (.inl (FF 8)))), ((rr 9), .inl (cJ, 91, .inr (.inl (FF 9)))), ((rr 10), .inl (cJ, 91, .inr (.inl (FF 10)))), (u0, .inl (cL, 1, .inr (.inl fo)))] sz)) (va_Qi (fun (r : Int32) (_ : Unit) => r = 0) (fun _ t => PB D [(cL, .long)] [(u0, .inl (cL, 1, .inr (.inl (vp_updL fo 0 ((lN (WN hs sd)))))))] (va_A [(h0, .inr (12, [.ref o0, .int 0, .ref g0, .ref o2, .ref o3, .ref o4, .ref o5, .int 0, .ref o6])), (o4, .inr (10, [.ref q0])), (q0, .inl (cO, 11, .inr (.inr (.inr (.inr (fun i => if i < 11 then some (rr i) else none)))))), ((rr 0), .inl (cJ, 91, .inr (.inl (FF 0)))), ((rr 1), .inl (cJ, 91, .inr (.inl (FF 1)))), ((rr 2), .inl (cJ, 91, .inr (.inl (FF 2)))), ((rr 3), .inl (cJ, 91, .inr (.inl (FF 3)))), ((rr 4), .inl (cJ, 91, .inr (.inl (FF 4)))), ((rr 5), .inl (cJ, 91, .inr (.inl (FF 5)))), ((rr 6), .inl (cJ, 91, .inr (.inl (FF 6)))), ((rr 7), .inl (cJ, 91, .inr (.inl (FF 7)))), ((rr 8), .inl (cJ, 91, .inr (.inl (FF 8)))), ((rr 9), .inl (cJ, 91, .inr (.inl (FF 9)))), ((rr 10), .inl (cJ, 91, .inr (.inl (FF 10)))), (u0, .inl (cL, 1, .inr (.inl fo)))] sz) t) (va_A [(h0, .inr (12, [.ref o0, .int 0, .ref g0, .ref o2, .ref o3, .ref o4, .ref o5, .int 0, .ref o6])), (o4, .inr (10, [.ref q0])), (q0, .inl (cO, 11, .inr (.inr (.inr (.inr (fun i => if i < 11 then some (rr i) else none)))))), ((rr 0), .inl (cJ, 91, .inr (.inl (FF 0)))), ((rr 1), .inl (cJ, 91, .inr (.inl (FF 1)))), ((rr 2), .inl (cJ, 91, .inr (.inl (FF 2)))), ((rr 3), .inl (cJ, 91, .inr (.inl (FF 3)))), ((rr 4), .inl (cJ, 91, .inr (.inl (FF 4)))), ((rr 5), .inl (cJ, 91, .inr (.inl (FF 5)))), ((rr 6), .inl (cJ, 91, .inr (.inl (FF 6)))), ((rr 7), .inl (cJ, 91, .inr (.inl (FF 7)))), ((rr 8), .inl (cJ, 91, .inr (.inl (FF 8)))), ((rr 9), .inl (cJ, 91, .inr (.inl (FF 9)))), ((rr 10), .inl (cJ, 91, .inr (.inl (FF 10)))), (u0, .inl (cL, 1, .inr (.inl fo)))] sz)) 0 0 (va_A [(h0, .inr (12, [.ref o0, .int 0, .ref g0, .ref o2, .ref o3, .ref o4, .ref o5, .int 0, .ref o6])), (o4, .inr (10, [.ref q0])), (q0, .inl (cO, 11, .inr (.inr (.inr (.inr (fun i => if i < 11 then some (rr i) else none)))))), ((rr 0), .inl (cJ, 91, .inr (.inl (FF 0)))), ((rr 1), .inl (cJ, 91, .inr (.inl (FF 1)))), ((rr 2), .inl (cJ, 91, .inr (.inl (FF 2)))), ((rr 3), .inl (cJ, 91, .inr (.inl (FF 3)))), ((rr 4), .inl (cJ, 91, .inr (.inl (FF 4)))), ((rr 5), .inl (cJ, 91, .inr (.inl (FF 5)))), ((rr 6), .inl (cJ, 91, .inr (.inl (FF 6)))), ((rr 7), .inl (cJ, 91, .inr (.inl (FF 7)))), ((rr 8), .inl (cJ, 91, .inr (.inl (FF 8)))), ((rr 9), .inl (cJ, 91, .inr (.inl (FF 9)))), ((rr 10), .inl (cJ, 91, .inr (.inl (FF 10)))), (u0, .inl (cL, 1, .inr (.inl fo)))] sz) := by
  refine va_MetW (cc := cL_many) (maxL := 5) (ret := (some .int)) (by decide +kernel) rfl ?_
  intro p e s m args below meth c s₁ B hml hv
  obtain ⟨rfl, hsz, hP, hK, hD0, hE⟩ := hv
  have hx := B.exec
  have hb := B.bytes
  have hr := B.returns
  have hts := atoms_spec (ws := wm_c_L_many_ok) B.pre
  have hown : s.vm.findClass RL = some m.cls := findClass_of_methodNamed B.named
  have hlocks := B.notSynchronized
  have htb : c.exceptionTable.toList = tableOf [(0, 9, 12, 13)] := vx_table (x := yL_many) B (hts _ List.mem_cons_self)
  have iRX5 : ∀ w ∈ u_ws RX5 TX5 9, w ∈ wm_c_L_many_ok := by decide +kernel
  have iRX3 : ∀ w ∈ u_ws RX3 TX3 1, w ∈ wm_c_L_many_ok := by decide +kernel
  subst hsz
  have hD := hD0.self (sz := s.heap.size)
  generalize hAe : va_A [(h0, .inr (12, [.ref o0, .int 0, .ref g0, .ref o2, .ref o3, .ref o4, .ref o5, .int 0, .ref o6])), (o4, .inr (10, [.ref q0])), (q0, .inl (cO, 11, .inr (.inr (.inr (.inr (fun i => if i < 11 then some (rr i) else none)))))), ((rr 0), .inl (cJ, 91, .inr (.inl (FF 0)))), ((rr 1), .inl (cJ, 91, .inr (.inl (FF 1)))), ((rr 2), .inl (cJ, 91, .inr (.inl (FF 2)))), ((rr 3), .inl (cJ, 91, .inr (.inl (FF 3)))), ((rr 4), .inl (cJ, 91, .inr (.inl (FF 4)))), ((rr 5), .inl (cJ, 91, .inr (.inl (FF 5)))), ((rr 6), .inl (cJ, 91, .inr (.inl (FF 6)))), ((rr 7), .inl (cJ, 91, .inr (.inl (FF 7)))), ((rr 8), .inl (cJ, 91, .inr (.inl (FF 8)))), ((rr 9), .inl (cJ, 91, .inr (.inl (FF 9)))), ((rr 10), .inl (cJ, 91, .inr (.inl (FF 10)))), (u0, .inl (cL, 1, .inr (.inl fo)))] s.heap.size = A at hD hE ⊢
  have hA : ∀ q : Nat, s.heap.size ≤ q → A q := fun q h => by rw [← hAe]; exact Or.inr h
  have hS : va_S A s.heap s.heap [] := va_S.rf
  have hl := lv_entry ([.ref h0, .int p0, .int p1, .ref u0]) (n := 5) (Nat.le_of_ble_eq_true rfl)
  rw [lg_entry_eq]
  generalize (lg_sl ([.ref h0, .int p0, .int p1, .ref u0]) ++ List.replicate (5 - (lg_sl ([.ref h0, .int p0, .int p1, .ref u0])).length) Slot.unset).toArray = ls at hl ⊢
  have hl : lv_has ls 5 [(0, .ref h0), (1, .int p0), (2, .int p1), (3, .ref u0)] := hl
  refine lv_aload_n hx hb dL_many_0 rfl (lv_at hl 3 rfl) ?_
  refine lv_iconst (v := 0) hx hb dL_many_1 (by decide) ?_
  refine lv_aload_n hx hb dL_many_2 rfl (lv_at hl 0 rfl) ?_
  refine lv_iload_n hx hb dL_many_3 rfl (lv_at hl 1 rfl) ?_
  refine lv_iload_n hx hb dL_many_4 rfl (lv_at hl 2 rfl) ?_
  have hS0 := hS
  have hFc := va_free (wc := [(h0, .inr (12, [.ref o0, .int 0, .ref g0, .ref o2, .ref o3, .ref o4, .ref o5, .int 0, .ref o6])), (o4, .inr (10, [.ref q0])), (q0, .inl (cO, 11, .inr (.inr (.inr (.inr (fun i => if i < 11 then some (rr i) else none)))))), ((rr 0), .inl (cJ, 91, .inr (.inl (FF 0)))), ((rr 1), .inl (cJ, 91, .inr (.inl (FF 1)))), ((rr 2), .inl (cJ, 91, .inr (.inl (FF 2)))), ((rr 3), .inl (cJ, 91, .inr (.inl (FF 3)))), ((rr 4), .inl (cJ, 91, .inr (.inl (FF 4)))), ((rr 5), .inl (cJ, 91, .inr (.inl (FF 5)))), ((rr 6), .inl (cJ, 91, .inr (.inl (FF 6)))), ((rr 7), .inl (cJ, 91, .inr (.inl (FF 7)))), ((rr 8), .inl (cJ, 91, .inr (.inl (FF 8)))), ((rr 9), .inl (cJ, 91, .inr (.inl (FF 9)))), ((rr 10), .inl (cJ, 91, .inr (.inl (FF 10))))]) hD hS hA [0, 1, 2, 3, 4, 5, 6, 7, 8, 9, 10, 11, 12, 13] rfl
  refine va_calll (va_runV (As := [.int p0, .int p1]) (rest := [.int 0, .ref u0]) ⟨hx, hb, hml, hown, hts⟩ (c_X5_many_ok l κ D (s.heap).size (h0) (o0) (g0) (o2) (o3) (o4) (o5) (o6) (q0) (cO) (cJ) (rr) (FF) (p0) (p1) (hs) (sd) (e0) (e1) (h1s) (hhs) (hsd) (hF)) (cwV 2 hts gd_c_L_many_ok_5 rfl rfl rfl (by decide +kernel) ⟨(Nat.le_of_ble_eq_true rfl), (Nat.le_of_ble_eq_true rfl)⟩) (preV hE hK hP hD hS hA [0, 1, 2, 3, 4, 5, 6, 7, 8, 9, 10, 11, 12, 13] rfl (by decide) [0, 1] rfl (va_recv hK hP (ci := 12) (q0 := 0) rfl rfl)) rfl rfl hl.1 rfl (lv_room (Nat.le_of_ble_eq_true rfl)) dL_many_5 ⟨(Nat.le_of_ble_eq_true rfl), (Nat.le_of_ble_eq_true rfl)⟩) hS (fun q _ h => hFc q h) hFc (fun r_1 u t H1 locs ht hvm hw hB hz1 hk1 hS => ?_)
  try dsimp only at hw
  obtain ⟨hP, hD, hK⟩ := jn (wc := [(h0, .inr (12, [.ref o0, .int 0, .ref g0, .ref o2, .ref o3, .ref o4, .ref o5, .int 0, .ref o6])), (o4, .inr (10, [.ref q0])), (q0, .inl (cO, 11, .inr (.inr (.inr (.inr (fun i => if i < 11 then some (rr i) else none)))))), ((rr 0), .inl (cJ, 91, .inr (.inl (FF 0)))), ((rr 1), .inl (cJ, 91, .inr (.inl (FF 1)))), ((rr 2), .inl (cJ, 91, .inr (.inl (FF 2)))), ((rr 3), .inl (cJ, 91, .inr (.inl (FF 3)))), ((rr 4), .inl (cJ, 91, .inr (.inl (FF 4)))), ((rr 5), .inl (cJ, 91, .inr (.inl (FF 5)))), ((rr 6), .inl (cJ, 91, .inr (.inl (FF 6)))), ((rr 7), .inl (cJ, 91, .inr (.inl (FF 7)))), ((rr 8), .inl (cJ, 91, .inr (.inl (FF 8)))), ((rr 9), .inl (cJ, 91, .inr (.inl (FF 9)))), ((rr 10), .inl (cJ, 91, .inr (.inl (FF 10))))]) (wr := [(u0, .inl (cL, 1, .inr (.inl fo)))]) (w1 := []) (t1 := []) hP hD hK hS0 hA [0, 1, 2, 3, 4, 5, 6, 7, 8, 9, 10, 11, 12, 13] [14] rfl rfl (by decide) (by decide) ht hvm hk1 hB
  generalize H1 = H at hP hS ⊢
  have hP : va_P D vwCl ([(u0, .inl (cL, 1, .inr (.inl fo)))]) H := hP
  have hD : va_D A ([(u0, .inl (cL, 1, .inr (.inl fo)))]) := hD
  have hK : va_K D vwCl [(cO, .array .long), (cJ, .long), (cL, .long)] s := hK
  refine W.widen (k := 0) (n := 0) (Nat.le_of_ble_eq_true rfl) (Nat.le_of_ble_eq_true rfl) ?_
  subst hw
  refine va_last hx hb hK hP hD hS 0 2 rfl rfl (i := 0) (by unfold vp_in; decide) dL_many_8 (fun H locs hP hD hS => ?_)
  have hP : va_P D vwCl ([(u0, .inl (cL, 1, .inr (.inl (vp_updL fo 0 ((lN (WN hs sd)))))))]) H := hP
  have hD : va_D A ([(u0, .inl (cL, 1, .inr (.inl (vp_updL fo 0 ((lN (WN hs sd)))))))]) := hD
  refine lv_goto (tgt := 16) hx hb dL_many_9 (by decide) ?_
  refine lv_iconst (v := 0) hx hb dL_many_16 (by decide) ?_
  refine W.widen (k := 0) (n := 0) (Nat.le_of_ble_eq_true rfl) (Nat.le_of_ble_eq_true rfl) ?_
  exact W.iret (v := 0) hx hb hr (fun t ht hW => ⟨⟨0, (), rfl, rfl, PB.at hP hK hD hW.alike ht [0] rfl (by decide) [2] rfl⟩, hS.F ht⟩) hS.2.2 dL_many_17

def wm_c_L_inRow_ok : List Cond := .codeWith yL_inRow cL_inRow 8 (some .int) [(0, 14, 17, 13), (0, 14, 21, 21)] :: ([.code yX5_inRow cX5_inRow 6 (some .int), .code yX5_needRows cX5_needRows 2 none, .code yX5_isWithin cX5_isWithin 3 (some .boolean), .methodLink RX5 57 yX5_isWithin, .static yX5_isWithin, .initialized RX5, .methodLink RX5 215 yX5_needRows, .static yX5_needRows, .fieldLink RX5 42 "Sowingcourt" "rows" "LSowingcourt$Rows;", .fieldLink RX5 218 "Sowingcourt$Rows" "ways" "[[J", .code yX3_seedsAt cX3_seedsAt 11 (some .int), .fieldLink RX3 11 "Sowingcourt$Rows" "ways" "[[J", .methodLink RX5 230 yX3_seedsAt, .instanceMethod yX3_seedsAt, .selects RX3 yX3_seedsAt yX3_seedsAt, .initialized RX3, .methodLink RL 95 yX5_inRow, .instanceMethod yX5_inRow, .selects RX5 yX5_inRow yX5_inRow] ++ wsX50 ++ wsX30)
set_option maxRecDepth 20000 in
theorem gd_c_L_inRow_ok_9 : GoodIn wm_c_L_inRow_ok (wsV RL 95 RX5 yX5_inRow wm_c_X5_inRow_ok) := goodIn_of _ (by decide +kernel)
set_option maxHeartbeats 4000000 in
set_option maxRecDepth 100000 in
theorem c_L_inRow_ok (l : Launch) (κ : Nat → Nat) (D : va_G) (sz : Nat) (h0 : Nat) (o0 : Nat) (g0 : Nat) (o2 : Nat) (o3 : Nat) (o4 : Nat) (o5 : Nat) (o6 : Nat) (q0 : Nat) (cO : ClassId) (cJ : ClassId) (rr : Nat → Nat) (FF : Nat → Nat → Int64) (hs : Nat) (sd : Nat) (nn : Nat) (kk : Nat) (p0 : Int32) (p1 : Int32) (p2 : Int64) (p3 : Int32) (u0 : Nat) (cL : ClassId) (fo : Nat → Int64) (e0 : p0 = nI hs) (e1 : p1 = nI sd) (h1s : 0 < hs) (hhs : hs < 11) (hsd : sd < 51) (e2 : p2 = lN nn) (hnn : nn < WN hs sd) (e3 : p3 = nI kk) (hkk : kk < hs) (hF : ∀ k, k < 11 → ∀ z, z < 91 → FF k z = WW k z) : Met l yL_inRow wm_c_L_inRow_ok ({ frames := 13, cells := 0, slots := 0, locals := 500 }) (va_Pc [.ref h0, .int p0, .int p1, .long p2, .int p3, .ref u0] (PC κ D [(cO, .array .long), (cJ, .long), (cL, .long)] [(h0, .inr (12, [.ref o0, .int 0, .ref g0, .ref o2, .ref o3, .ref o4, .ref o5, .int 0, .ref o6])), (o4, .inr (10, [.ref q0])), (q0, .inl (cO, 11, .inr (.inr (.inr (.inr (fun i => if i < 11 then some (rr i) else none)))))), ((rr 0), .inl (cJ, 91, .inr (.inl (FF 0)))), ((rr 1), .inl (cJ, 91, .inr (.inl (FF 1)))), ((rr 2), .inl (cJ, 91, .inr (.inl (FF 2)))), ((rr 3), .inl (cJ, 91, .inr (.inl (FF 3)))), ((rr 4), .inl (cJ, 91, .inr (.inl (FF 4)))), ((rr 5), .inl (cJ, 91, .inr (.inl (FF 5)))), ((rr 6), .inl (cJ, 91, .inr (.inl (FF 6)))), ((rr 7), .inl (cJ, 91, .inr (.inl (FF 7)))), ((rr 8), .inl (cJ, 91, .inr (.inl (FF 8)))), ((rr 9), .inl (cJ, 91, .inr (.inl (FF 9)))), ((rr 10), .inl (cJ, 91, .inr (.inl (FF 10)))), (u0, .inl (cL, 1, .inr (.inl fo)))] sz)) (va_Qi (fun (r : Int32) (_ : Unit) => r = 0) (fun _ t => PB D [(cL, .long)] [(u0, .inl (cL, 1, .inr (.inl (vp_updL fo 0 (((nI (IR hs kk sd nn)).toInt64))))))] (va_A [(h0, .inr (12, [.ref o0, .int 0, .ref g0, .ref o2, .ref o3, .ref o4, .ref o5, .int 0, .ref o6])), (o4, .inr (10, [.ref q0])), (q0, .inl (cO, 11, .inr (.inr (.inr (.inr (fun i => if i < 11 then some (rr i) else none)))))), ((rr 0), .inl (cJ, 91, .inr (.inl (FF 0)))), ((rr 1), .inl (cJ, 91, .inr (.inl (FF 1)))), ((rr 2), .inl (cJ, 91, .inr (.inl (FF 2)))), ((rr 3), .inl (cJ, 91, .inr (.inl (FF 3)))), ((rr 4), .inl (cJ, 91, .inr (.inl (FF 4)))), ((rr 5), .inl (cJ, 91, .inr (.inl (FF 5)))), ((rr 6), .inl (cJ, 91, .inr (.inl (FF 6)))), ((rr 7), .inl (cJ, 91, .inr (.inl (FF 7)))), ((rr 8), .inl (cJ, 91, .inr (.inl (FF 8)))), ((rr 9), .inl (cJ, 91, .inr (.inl (FF 9)))), ((rr 10), .inl (cJ, 91, .inr (.inl (FF 10)))), (u0, .inl (cL, 1, .inr (.inl fo)))] sz) t) (va_A [(h0, .inr (12, [.ref o0, .int 0, .ref g0, .ref o2, .ref o3, .ref o4, .ref o5, .int 0, .ref o6])), (o4, .inr (10, [.ref q0])), (q0, .inl (cO, 11, .inr (.inr (.inr (.inr (fun i => if i < 11 then some (rr i) else none)))))), ((rr 0), .inl (cJ, 91, .inr (.inl (FF 0)))), ((rr 1), .inl (cJ, 91, .inr (.inl (FF 1)))), ((rr 2), .inl (cJ, 91, .inr (.inl (FF 2)))), ((rr 3), .inl (cJ, 91, .inr (.inl (FF 3)))), ((rr 4), .inl (cJ, 91, .inr (.inl (FF 4)))), ((rr 5), .inl (cJ, 91, .inr (.inl (FF 5)))), ((rr 6), .inl (cJ, 91, .inr (.inl (FF 6)))), ((rr 7), .inl (cJ, 91, .inr (.inl (FF 7)))), ((rr 8), .inl (cJ, 91, .inr (.inl (FF 8)))), ((rr 9), .inl (cJ, 91, .inr (.inl (FF 9)))), ((rr 10), .inl (cJ, 91, .inr (.inl (FF 10)))), (u0, .inl (cL, 1, .inr (.inl fo)))] sz)) 0 0 (va_A [(h0, .inr (12, [.ref o0, .int 0, .ref g0, .ref o2, .ref o3, .ref o4, .ref o5, .int 0, .ref o6])), (o4, .inr (10, [.ref q0])), (q0, .inl (cO, 11, .inr (.inr (.inr (.inr (fun i => if i < 11 then some (rr i) else none)))))), ((rr 0), .inl (cJ, 91, .inr (.inl (FF 0)))), ((rr 1), .inl (cJ, 91, .inr (.inl (FF 1)))), ((rr 2), .inl (cJ, 91, .inr (.inl (FF 2)))), ((rr 3), .inl (cJ, 91, .inr (.inl (FF 3)))), ((rr 4), .inl (cJ, 91, .inr (.inl (FF 4)))), ((rr 5), .inl (cJ, 91, .inr (.inl (FF 5)))), ((rr 6), .inl (cJ, 91, .inr (.inl (FF 6)))), ((rr 7), .inl (cJ, 91, .inr (.inl (FF 7)))), ((rr 8), .inl (cJ, 91, .inr (.inl (FF 8)))), ((rr 9), .inl (cJ, 91, .inr (.inl (FF 9)))), ((rr 10), .inl (cJ, 91, .inr (.inl (FF 10)))), (u0, .inl (cL, 1, .inr (.inl fo)))] sz) := by
  refine va_MetW (cc := cL_inRow) (maxL := 8) (ret := (some .int)) (by decide +kernel) rfl ?_
  intro p e s m args below meth c s₁ B hml hv
  obtain ⟨rfl, hsz, hP, hK, hD0, hE⟩ := hv
  have hx := B.exec
  have hb := B.bytes
  have hr := B.returns
  have hts := atoms_spec (ws := wm_c_L_inRow_ok) B.pre
  have hown : s.vm.findClass RL = some m.cls := findClass_of_methodNamed B.named
  have hlocks := B.notSynchronized
  have htb : c.exceptionTable.toList = tableOf [(0, 14, 17, 13), (0, 14, 21, 21)] := vx_table (x := yL_inRow) B (hts _ List.mem_cons_self)
  have iRX5 : ∀ w ∈ u_ws RX5 TX5 9, w ∈ wm_c_L_inRow_ok := by decide +kernel
  have iRX3 : ∀ w ∈ u_ws RX3 TX3 1, w ∈ wm_c_L_inRow_ok := by decide +kernel
  subst hsz
  have hD := hD0.self (sz := s.heap.size)
  generalize hAe : va_A [(h0, .inr (12, [.ref o0, .int 0, .ref g0, .ref o2, .ref o3, .ref o4, .ref o5, .int 0, .ref o6])), (o4, .inr (10, [.ref q0])), (q0, .inl (cO, 11, .inr (.inr (.inr (.inr (fun i => if i < 11 then some (rr i) else none)))))), ((rr 0), .inl (cJ, 91, .inr (.inl (FF 0)))), ((rr 1), .inl (cJ, 91, .inr (.inl (FF 1)))), ((rr 2), .inl (cJ, 91, .inr (.inl (FF 2)))), ((rr 3), .inl (cJ, 91, .inr (.inl (FF 3)))), ((rr 4), .inl (cJ, 91, .inr (.inl (FF 4)))), ((rr 5), .inl (cJ, 91, .inr (.inl (FF 5)))), ((rr 6), .inl (cJ, 91, .inr (.inl (FF 6)))), ((rr 7), .inl (cJ, 91, .inr (.inl (FF 7)))), ((rr 8), .inl (cJ, 91, .inr (.inl (FF 8)))), ((rr 9), .inl (cJ, 91, .inr (.inl (FF 9)))), ((rr 10), .inl (cJ, 91, .inr (.inl (FF 10)))), (u0, .inl (cL, 1, .inr (.inl fo)))] s.heap.size = A at hD hE ⊢
  have hA : ∀ q : Nat, s.heap.size ≤ q → A q := fun q h => by rw [← hAe]; exact Or.inr h
  have hS : va_S A s.heap s.heap [] := va_S.rf
  have hl := lv_entry ([.ref h0, .int p0, .int p1, .long p2, .int p3, .ref u0]) (n := 8) (Nat.le_of_ble_eq_true rfl)
  rw [lg_entry_eq]
  generalize (lg_sl ([.ref h0, .int p0, .int p1, .long p2, .int p3, .ref u0]) ++ List.replicate (8 - (lg_sl ([.ref h0, .int p0, .int p1, .long p2, .int p3, .ref u0])).length) Slot.unset).toArray = ls at hl ⊢
  have hl : lv_has ls 8 [(0, .ref h0), (1, .int p0), (2, .int p1), (3, .long p2), (5, .int p3), (6, .ref u0)] := hl
  refine lv_aload hx hb dL_inRow_0 (lv_at hl 5 rfl) ?_
  refine lv_iconst (v := 0) hx hb dL_inRow_2 (by decide) ?_
  refine lv_aload_n hx hb dL_inRow_3 rfl (lv_at hl 0 rfl) ?_
  refine lv_iload_n hx hb dL_inRow_4 rfl (lv_at hl 1 rfl) ?_
  refine lv_iload_n hx hb dL_inRow_5 rfl (lv_at hl 2 rfl) ?_
  refine lv_lload_n hx hb dL_inRow_6 rfl (lv_at hl 3 rfl) ?_
  refine lv_iload hx hb dL_inRow_7 (lv_at hl 4 rfl) ?_
  have hS0 := hS
  have hFc := va_free (wc := [(h0, .inr (12, [.ref o0, .int 0, .ref g0, .ref o2, .ref o3, .ref o4, .ref o5, .int 0, .ref o6])), (o4, .inr (10, [.ref q0])), (q0, .inl (cO, 11, .inr (.inr (.inr (.inr (fun i => if i < 11 then some (rr i) else none)))))), ((rr 0), .inl (cJ, 91, .inr (.inl (FF 0)))), ((rr 1), .inl (cJ, 91, .inr (.inl (FF 1)))), ((rr 2), .inl (cJ, 91, .inr (.inl (FF 2)))), ((rr 3), .inl (cJ, 91, .inr (.inl (FF 3)))), ((rr 4), .inl (cJ, 91, .inr (.inl (FF 4)))), ((rr 5), .inl (cJ, 91, .inr (.inl (FF 5)))), ((rr 6), .inl (cJ, 91, .inr (.inl (FF 6)))), ((rr 7), .inl (cJ, 91, .inr (.inl (FF 7)))), ((rr 8), .inl (cJ, 91, .inr (.inl (FF 8)))), ((rr 9), .inl (cJ, 91, .inr (.inl (FF 9)))), ((rr 10), .inl (cJ, 91, .inr (.inl (FF 10))))]) hD hS hA [0, 1, 2, 3, 4, 5, 6, 7, 8, 9, 10, 11, 12, 13] rfl
  refine va_calli (va_runV (As := [.int p0, .int p1, .long p2, .int p3]) (rest := [.int 0, .ref u0]) ⟨hx, hb, hml, hown, hts⟩ (c_X5_inRow_ok l κ D (s.heap).size (h0) (o0) (g0) (o2) (o3) (o4) (o5) (o6) (q0) (cO) (cJ) (rr) (FF) (p0) (p1) (p2) (p3) (hs) (sd) (nn) (kk) (e0) (e1) (h1s) (hhs) (hsd) (e2) (hnn) (e3) (hkk) (hF)) (cwV 4 hts gd_c_L_inRow_ok_9 rfl rfl rfl (by decide +kernel) ⟨(Nat.le_of_ble_eq_true rfl), (Nat.le_of_ble_eq_true rfl)⟩) (preV hE hK hP hD hS hA [0, 1, 2, 3, 4, 5, 6, 7, 8, 9, 10, 11, 12, 13] rfl (by decide) [0, 1] rfl (va_recv hK hP (ci := 12) (q0 := 0) rfl rfl)) rfl rfl hl.1 rfl (lv_room (Nat.le_of_ble_eq_true rfl)) dL_inRow_9 ⟨(Nat.le_of_ble_eq_true rfl), (Nat.le_of_ble_eq_true rfl)⟩) hS (fun q _ h => hFc q h) hFc (fun r_1 u t H1 locs ht hvm hw hB hz1 hk1 hS => ?_)
  try dsimp only at hw
  obtain ⟨hP, hD, hK⟩ := jn (wc := [(h0, .inr (12, [.ref o0, .int 0, .ref g0, .ref o2, .ref o3, .ref o4, .ref o5, .int 0, .ref o6])), (o4, .inr (10, [.ref q0])), (q0, .inl (cO, 11, .inr (.inr (.inr (.inr (fun i => if i < 11 then some (rr i) else none)))))), ((rr 0), .inl (cJ, 91, .inr (.inl (FF 0)))), ((rr 1), .inl (cJ, 91, .inr (.inl (FF 1)))), ((rr 2), .inl (cJ, 91, .inr (.inl (FF 2)))), ((rr 3), .inl (cJ, 91, .inr (.inl (FF 3)))), ((rr 4), .inl (cJ, 91, .inr (.inl (FF 4)))), ((rr 5), .inl (cJ, 91, .inr (.inl (FF 5)))), ((rr 6), .inl (cJ, 91, .inr (.inl (FF 6)))), ((rr 7), .inl (cJ, 91, .inr (.inl (FF 7)))), ((rr 8), .inl (cJ, 91, .inr (.inl (FF 8)))), ((rr 9), .inl (cJ, 91, .inr (.inl (FF 9)))), ((rr 10), .inl (cJ, 91, .inr (.inl (FF 10))))]) (wr := [(u0, .inl (cL, 1, .inr (.inl fo)))]) (w1 := []) (t1 := []) hP hD hK hS0 hA [0, 1, 2, 3, 4, 5, 6, 7, 8, 9, 10, 11, 12, 13] [14] rfl rfl (by decide) (by decide) ht hvm hk1 hB
  generalize H1 = H at hP hS ⊢
  have hP : va_P D vwCl ([(u0, .inl (cL, 1, .inr (.inl fo)))]) H := hP
  have hD : va_D A ([(u0, .inl (cL, 1, .inr (.inl fo)))]) := hD
  have hK : va_K D vwCl [(cO, .array .long), (cJ, .long), (cL, .long)] s := hK
  refine W.widen (k := 0) (n := 0) (Nat.le_of_ble_eq_true rfl) (Nat.le_of_ble_eq_true rfl) ?_
  subst hw
  refine lv_i2l (v := ((nI (IR hs kk sd nn))).toInt64) hx hb dL_inRow_12 rfl ?_
  refine va_last hx hb hK hP hD hS 0 2 rfl rfl (i := 0) (by unfold vp_in; decide) dL_inRow_13 (fun H locs hP hD hS => ?_)
  have hP : va_P D vwCl ([(u0, .inl (cL, 1, .inr (.inl (vp_updL fo 0 ((((nI (IR hs kk sd nn))).toInt64))))))]) H := hP
  have hD : va_D A ([(u0, .inl (cL, 1, .inr (.inl (vp_updL fo 0 ((((nI (IR hs kk sd nn))).toInt64))))))]) := hD
  refine lv_goto (tgt := 25) hx hb dL_inRow_14 (by decide) ?_
  refine lv_iconst (v := 0) hx hb dL_inRow_25 (by decide) ?_
  refine W.widen (k := 0) (n := 0) (Nat.le_of_ble_eq_true rfl) (Nat.le_of_ble_eq_true rfl) ?_
  exact W.iret (v := 0) hx hb hr (fun t ht hW => ⟨⟨0, (), rfl, rfl, PB.at hP hK hD hW.alike ht [0] rfl (by decide) [2] rfl⟩, hS.F ht⟩) hS.2.2 dL_inRow_26
