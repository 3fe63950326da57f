set_option maxHeartbeats 8000000 in
set_option maxRecDepth 100000 in
theorem law_kind {p : Program} {l : Launch} {e : Env} {s : State} {m : MethodId} {below : List Frame} {meth : Method} {c : Code} {b : Nat} {xs : Nat → Int32} {κ : Nat → Nat} (C0 : law_At2 p l s m meth c b xs κ) {D : va_G} {h0 : Nat} {o0 : Nat} {g0 : Nat} {o2 : Nat} {o3 : Nat} {o4 : Nat} {o5 : Nat} {o6 : Nat} {g1 : Nat} {g2 : Nat} {g3 : Nat} {g4 : Nat} {g5 : Nat} {g6 : Nat} {m0 : Nat} {kl : Nat} {tl : Nat} {u0 : Nat} {w0 : Nat} {cL : ClassId} {k0 : Nat} {kr : Nat} {cK : ClassId} {kf : Nat → Option Nat} (hkf : kf 0 = some k0) (H : Heap) (locs : List Loc) (ls : Array Slot) (hK : va_K D vwCl [(cL, .long), (cK, .object "Sowingcourt$Kind")] s) (hP : va_P D vwCl [(h0, .inr (12, [.ref o0, .int 0, .ref g0, .ref o2, .ref o3, .ref o4, .ref o5, .int 0, .ref o6])), (g0, .inr (8, [.ref g1, .ref g2, .ref g3, .ref g4, .ref g5, .ref g6, .int 0, .int 0, .int 0, .int 0])), (m0, .inr (16, [.int 0, .ref kl, .null, .ref tl])), (kl, .inr (6, [.int 0, .ref (κ 0), .int 0])), (u0, .inl (cL, 1, .inr (.inl (fun _ => 0)))), (o0, .inl (cK, 6, .inr (.inr (.inr (.inr kf))))), (k0, .inr (9, [.int 2, .int 1, .int 115, .int 110, .ref kr]))] H) (hD : va_D (LA s) [(h0, .inr (12, [.ref o0, .int 0, .ref g0, .ref o2, .ref o3, .ref o4, .ref o5, .int 0, .ref o6])), (g0, .inr (8, [.ref g1, .ref g2, .ref g3, .ref g4, .ref g5, .ref g6, .int 0, .int 0, .int 0, .int 0])), (m0, .inr (16, [.int 0, .ref kl, .null, .ref tl])), (kl, .inr (6, [.int 0, .ref (κ 0), .int 0])), (u0, .inl (cL, 1, .inr (.inl (fun _ => 0)))), (o0, .inl (cK, 6, .inr (.inr (.inr (.inr kf))))), (k0, .inr (9, [.int 2, .int 1, .int 115, .int 110, .ref kr]))]) (hS : va_S (LA s) s.heap H locs) (hl : lv_has ls 9 [(0, .ref b), (1, .ref h0), (2, .ref m0), (3, .ref u0), (4, .ref w0), (5, .int 0)]) : W p l e room_1 s m #[Value.ref b] below meth c H locs 300 40000 (lw_Z below #[Value.ref b] s) (F0 m 212 ls []) := by
  have C1 := C0
  obtain ⟨hl0, hx, hb, hr, hml, hown, hts, hX, hbl, hlocks, hE⟩ := C0
  have hA : ∀ q : Nat, s.heap.size ≤ q → LA s q := fun _ h => h
  have hbA : ¬ LA s b := Nat.not_le.mpr hbl
  by_cases hg : ((2 : Int32).toInt ≤ (xs 1).toInt ∧ (xs 1).toInt ≤ (5 : Int32).toInt) ∧ ((1 : Int32).toInt ≤ (xs 2).toInt ∧ (xs 2).toInt ≤ (5 : Int32).toInt) ∧ ((chr9 (xs 3)) = 115 ∨ (chr9 (xs 3)) = 114 ∨ (chr9 (xs 3)) = 112) ∧ ((chr9 (xs 4)) = 110 ∨ (chr9 (xs 4)) = 111 ∨ (chr9 (xs 4)) = 99 ∨ (chr9 (xs 4)) = 101)
  · refine lv_aload_n hx hb dL_law_212 rfl (lv_at hl 1 rfl) ?_
    refine lv_aload_n hx hb dL_law_213 rfl (lv_at hl 0 rfl) ?_
    refine lv_iload hx hb dL_law_214 (lv_at hl 5 rfl) ?_
    refine lv_iconst (v := 1) hx hb dL_law_216 (by decide) ?_
    refine lv_iadd hx hb dL_law_217 ?_
    refine lv_topi (fun v_1 ev_1 => ?_)
    have ev_1 : v_1 = 1 := ev_1.trans (by decide)
    subst ev_1
    refine va_sld hx hb hX hbl hbA hS (i := 1) (by unfold vp_in; decide) dL_law_218 ?_
    refine W.eq (g2 := F0 m 219 ls [.int (xs 1), .ref h0]) rfl ?_
    refine lv_aload_n hx hb dL_law_219 rfl (lv_at hl 0 rfl) ?_
    refine lv_iload hx hb dL_law_220 (lv_at hl 5 rfl) ?_
    refine lv_iconst (v := 2) hx hb dL_law_222 (by decide) ?_
    refine lv_iadd hx hb dL_law_223 ?_
    refine lv_topi (fun v_2 ev_2 => ?_)
    have ev_2 : v_2 = 2 := ev_2.trans (by decide)
    subst ev_2
    refine va_sld hx hb hX hbl hbA hS (i := 2) (by unfold vp_in; decide) dL_law_224 ?_
    refine W.eq (g2 := F0 m 225 ls [.int (xs 2), .int (xs 1), .ref h0]) rfl ?_
    refine lv_aload_n hx hb dL_law_225 rfl (lv_at hl 0 rfl) ?_
    refine lv_iload hx hb dL_law_226 (lv_at hl 5 rfl) ?_
    refine lv_iconst (v := 3) hx hb dL_law_228 (by decide) ?_
    refine lv_iadd hx hb dL_law_229 ?_
    refine lv_topi (fun v_3 ev_3 => ?_)
    have ev_3 : v_3 = 3 := ev_3.trans (by decide)
    subst ev_3
    refine va_sld hx hb hX hbl hbA hS (i := 3) (by unfold vp_in; decide) dL_law_230 ?_
    refine W.eq (g2 := F0 m 231 ls [.int (xs 3), .int (xs 2), .int (xs 1), .ref h0]) rfl ?_
    refine lv_i2c (v := (chr9 (xs 3))) hx hb dL_law_231 rfl ?_
    refine lv_aload_n hx hb dL_law_232 rfl (lv_at hl 0 rfl) ?_
    refine lv_iload hx hb dL_law_233 (lv_at hl 5 rfl) ?_
    refine lv_iconst (v := 4) hx hb dL_law_235 (by decide) ?_
    refine lv_iadd hx hb dL_law_236 ?_
    refine lv_topi (fun v_4 ev_4 => ?_)
    have ev_4 : v_4 = 4 := ev_4.trans (by decide)
    subst ev_4
    refine va_sld hx hb hX hbl hbA hS (i := 4) (by unfold vp_in; decide) dL_law_237 ?_
    refine W.eq (g2 := F0 m 238 ls [.int (xs 4), .int (chr9 (xs 3)), .int (xs 2), .int (xs 1), .ref h0]) rfl ?_
    refine lv_i2c (v := (chr9 (xs 4))) hx hb dL_law_238 rfl ?_
    refine lv_aload_n hx hb dL_law_239 rfl (lv_at hl 3 rfl) ?_
    have hS0 := hS
    have hFc := va_free (wc := [(h0, .inr (12, [.ref o0, .int 0, .ref g0, .ref o2, .ref o3, .ref o4, .ref o5, .int 0, .ref o6])), (o0, .inl (cK, 6, .inr (.inr (.inr (.inr kf))))), (k0, .inr (9, [.int 2, .int 1, .int 115, .int 110, .ref kr])), (u0, .inl (cL, 1, .inr (.inl (fun _ => 0))))]) hD hS hA [0, 5, 6, 4] rfl
    refine va_calli (vx_runSW (As := [.ref h0, .int (xs 1), .int (xs 2), .int (chr9 (xs 3)), .int (chr9 (xs 4)), .ref u0]) (rest := []) ⟨hx, hb, hml, hown, hts⟩ (c_L_kind_ok l κ D (H).size (h0) (o0) (g0) (o2) (o3) (o4) (o5) (o6) (k0) (kr) (cK) (kf) ((xs 1)) ((xs 2)) ((chr9 (xs 3))) ((chr9 (xs 4))) (u0) (cL) ((fun _ => 0)) (hkf) (hg.1) (hg.2.1) (hg.2.2.1) (hg.2.2.2) (pk_nc (xs 3)) (pk_fc (xs 3)) (pk_nc (xs 4)) (pk_fc (xs 4))) (vx_cwSW 6 hts gd_law_c_L_kind_ok rfl rfl rfl (by decide +kernel) ⟨(Nat.le_of_ble_eq_true rfl), (Nat.le_of_ble_eq_true rfl)⟩) (preS hE hK hP hD hS hA [0, 5, 6, 4] rfl (by decide) [1, 0] rfl) rfl rfl hl.1 rfl (lv_room (Nat.le_of_ble_eq_true rfl)) dL_law_240 ⟨(Nat.le_of_ble_eq_true rfl), (Nat.le_of_ble_eq_true rfl)⟩) hS (fun q _ h => hFc q h) hFc (fun r_5 u t H1 locs ht hvm hw hB hz1 hk1 hS => ?_)
    try dsimp only at hw
    obtain ⟨hP, hD, hK⟩ := jn (wc := [(h0, .inr (12, [.ref o0, .int 0, .ref g0, .ref o2, .ref o3, .ref o4, .ref o5, .int 0, .ref o6])), (o0, .inl (cK, 6, .inr (.inr (.inr (.inr kf))))), (k0, .inr (9, [.int 2, .int 1, .int 115, .int 110, .ref kr])), (u0, .inl (cL, 1, .inr (.inl (fun _ => 0))))]) (wr := [(g0, .inr (8, [.ref g1, .ref g2, .ref g3, .ref g4, .ref g5, .ref g6, .int 0, .int 0, .int 0, .int 0])), (m0, .inr (16, [.int 0, .ref kl, .null, .ref tl])), (kl, .inr (6, [.int 0, .ref (κ 0), .int 0]))]) (w1 := [(u0, .inl (cL, 1, .inr (.inl (vp_updL (fun _ => 0) 0 (0)))))]) (t1 := [(cL, .long)]) hP hD hK hS0 hA [0, 5, 6, 4] [1, 2, 3] rfl rfl (by decide) (by decide) ht hvm hk1 hB
    generalize H1 = H at hP hS ⊢
    have hP : va_P D vwCl ([(g0, .inr (8, [.ref g1, .ref g2, .ref g3, .ref g4, .ref g5, .ref g6, .int 0, .int 0, .int 0, .int 0])), (m0, .inr (16, [.int 0, .ref kl, .null, .ref tl])), (kl, .inr (6, [.int 0, .ref (κ 0), .int 0])), (u0, .inl (cL, 1, .inr (.inl (vp_updL (fun _ => 0) 0 (0)))))]) H := hP
    have hD : va_D (LA s) ([(g0, .inr (8, [.ref g1, .ref g2, .ref g3, .ref g4, .ref g5, .ref g6, .int 0, .int 0, .int 0, .int 0])), (m0, .inr (16, [.int 0, .ref kl, .null, .ref tl])), (kl, .inr (6, [.int 0, .ref (κ 0), .int 0])), (u0, .inl (cL, 1, .inr (.inl (vp_updL (fun _ => 0) 0 (0)))))]) := hD
    have hK : va_K D vwCl [(cL, .long), (cK, .object "Sowingcourt$Kind"), (cL, .long)] s := hK
    refine W.widen (k := 300) (n := 40000) (Nat.le_of_ble_eq_true rfl) (Nat.le_of_ble_eq_true rfl) ?_
    subst hw
    refine lv_istore (lv' := [(6, .int 0), (0, .ref b), (1, .ref h0), (2, .ref m0), (3, .ref u0), (4, .ref w0), (5, .int 0)]) hx hb dL_law_243 hl (by decide) rfl (fun ls hl => ?_)
    refine lv_aload_n hx hb dL_law_245 rfl (lv_at hl 3 rfl) ?_
    refine lv_aload_n hx hb dL_law_246 rfl (lv_at hl 1 rfl) ?_
    refine lv_iload hx hb dL_law_247 (lv_at hl 6 rfl) ?_
    refine lv_iconst (v := 1) hx hb dL_law_249 (by decide) ?_
    refine lv_iadd hx hb dL_law_250 ?_
    refine lv_topi (fun v_6 ev_6 => ?_)
    have ev_6 : v_6 = 1 := ev_6.trans (by decide)
    subst ev_6
    refine va_sld hx hb hX hbl hbA hS (i := 1) (by unfold vp_in; decide) dL_law_251 ?_
    refine W.eq (g2 := F0 m 252 ls [.int (xs 1), .ref m0]) rfl ?_
    refine lv_aload_n hx hb dL_law_252 rfl (lv_at hl 1 rfl) ?_
    refine lv_iload hx hb dL_law_253 (lv_at hl 6 rfl) ?_
    refine lv_iconst (v := 2) hx hb dL_law_255 (by decide) ?_
    refine lv_iadd hx hb dL_law_256 ?_
    refine lv_topi (fun v_7 ev_7 => ?_)
    have ev_7 : v_7 = 2 := ev_7.trans (by decide)
    subst ev_7
    refine va_sld hx hb hX hbl hbA hS (i := 2) (by unfold vp_in; decide) dL_law_257 ?_
    refine W.eq (g2 := F0 m 258 ls [.int (xs 2), .int (xs 1), .ref m0]) rfl ?_
    refine lv_aload_n hx hb dL_law_258 rfl (lv_at hl 1 rfl) ?_
    refine lv_iload hx hb dL_law_259 (lv_at hl 6 rfl) ?_
    refine lv_iconst (v := 3) hx hb dL_law_261 (by decide) ?_
    refine lv_iadd hx hb dL_law_262 ?_
    refine lv_topi (fun v_8 ev_8 => ?_)
    have ev_8 : v_8 = 3 := ev_8.trans (by decide)
    subst ev_8
    refine va_sld hx hb hX hbl hbA hS (i := 3) (by unfold vp_in; decide) dL_law_263 ?_
    refine W.eq (g2 := F0 m 264 ls [.int (xs 3), .int (xs 2), .int (xs 1), .ref m0]) rfl ?_
    refine lv_i2c (v := (chr9 (xs 3))) hx hb dL_law_264 rfl ?_
    refine lv_aload_n hx hb dL_law_265 rfl (lv_at hl 1 rfl) ?_
    refine lv_iload hx hb dL_law_266 (lv_at hl 6 rfl) ?_
    refine lv_iconst (v := 4) hx hb dL_law_268 (by decide) ?_
    refine lv_iadd hx hb dL_law_269 ?_
    refine lv_topi (fun v_9 ev_9 => ?_)
    have ev_9 : v_9 = 4 := ev_9.trans (by decide)
    subst ev_9
    refine va_sld hx hb hX hbl hbA hS (i := 4) (by unfold vp_in; decide) dL_law_270 ?_
    refine W.eq (g2 := F0 m 271 ls [.int (xs 4), .int (chr9 (xs 3)), .int (xs 2), .int (xs 1), .ref m0]) rfl ?_
    refine lv_i2c (v := (chr9 (xs 4))) hx hb dL_law_271 rfl ?_
    have hS0 := hS
    have hFc := va_free (wc := [(m0, .inr (16, [.int 0, .ref kl, .null, .ref tl])), (kl, .inr (6, [.int 0, .ref (κ 0), .int 0]))]) hD hS hA [1, 2] rfl
    refine va_calli (va_runV (As := [.int (xs 1), .int (xs 2), .int (chr9 (xs 3)), .int (chr9 (xs 4))]) (rest := []) ⟨hx, hb, hml, hown, hts⟩ (c_X9_kind_ok l κ D (H).size (m0) (kl) (tl) ((xs 1)) ((xs 2)) ((chr9 (xs 3))) ((chr9 (xs 4))) ((w64 (xs 1) (by decide) (by decide)).mpr hg.1) ((w64 (xs 2) (by decide) (by decide)).mpr hg.2.1) (hg.2.2.1) (hg.2.2.2) (pk_nc (xs 3)) (pk_fc (xs 3)) (pk_nc (xs 4)) (pk_fc (xs 4))) (cwV 4 hts gd_law_c_X9_kind_ok rfl rfl rfl (by decide +kernel) ⟨(Nat.le_of_ble_eq_true rfl), (Nat.le_of_ble_eq_true rfl)⟩) (preV hE hK hP hD hS hA [1, 2] rfl (by decide) [] rfl (va_recv hK hP (ci := 16) (q0 := 1) rfl rfl)) rfl rfl hl.1 rfl (lv_room (Nat.le_of_ble_eq_true rfl)) dL_law_272 ⟨(Nat.le_of_ble_eq_true rfl), (Nat.le_of_ble_eq_true rfl)⟩) hS (fun q _ h => hFc q h) hFc (fun r_10 u t H1 locs ht hvm hw hB hz1 hk1 hS => ?_)
    try dsimp only at hw
    obtain ⟨hP, hD, hK⟩ := jn (wc := [(m0, .inr (16, [.int 0, .ref kl, .null, .ref tl])), (kl, .inr (6, [.int 0, .ref (κ 0), .int 0]))]) (wr := [(g0, .inr (8, [.ref g1, .ref g2, .ref g3, .ref g4, .ref g5, .ref g6, .int 0, .int 0, .int 0, .int 0])), (u0, .inl (cL, 1, .inr (.inl (vp_updL (fun _ => 0) 0 (0)))))]) (w1 := [(m0, .inr (16, [.int 0, .ref kl, .null, .ref tl]))]) (t1 := []) hP hD hK hS0 hA [1, 2] [0, 3] rfl rfl (by decide) (by decide) ht hvm hk1 hB
    generalize H1 = H at hP hS ⊢
    have hP : va_P D vwCl ([(g0, .inr (8, [.ref g1, .ref g2, .ref g3, .ref g4, .ref g5, .ref g6, .int 0, .int 0, .int 0, .int 0])), (u0, .inl (cL, 1, .inr (.inl (vp_updL (fun _ => 0) 0 (0))))), (m0, .inr (16, [.int 0, .ref kl, .null, .ref tl]))]) H := hP
    have hD : va_D (LA s) ([(g0, .inr (8, [.ref g1, .ref g2, .ref g3, .ref g4, .ref g5, .ref g6, .int 0, .int 0, .int 0, .int 0])), (u0, .inl (cL, 1, .inr (.inl (vp_updL (fun _ => 0) 0 (0))))), (m0, .inr (16, [.int 0, .ref kl, .null, .ref tl]))]) := hD
    have hK : va_K D vwCl [(cL, .long), (cK, .object "Sowingcourt$Kind"), (cL, .long)] s := hK
    refine W.widen (k := 302) (n := 40015) (Nat.le_of_ble_eq_true rfl) (Nat.le_of_ble_eq_true rfl) ?_
    subst hw
    refine lv_istore (lv' := [(7, .int 0), (6, .int 0), (0, .ref b), (1, .ref h0), (2, .ref m0), (3, .ref u0), (4, .ref w0), (5, .int 0)]) hx hb dL_law_275 hl (by decide) rfl (fun ls hl => ?_)
    refine lv_aload_n hx hb dL_law_277 rfl (lv_at hl 4 rfl) ?_
    have hS0 := hS
    have hFc := va_free (wc := [(m0, .inr (16, [.int 0, .ref kl, .null, .ref tl]))]) hD hS hA [2] rfl
    refine va_calli (va_runV (As := []) (rest := []) ⟨hx, hb, hml, hown, hts⟩ (c_X9_thrown l κ D (H).size (m0) (kl) (tl) (0) ) (cwV 0 hts gd_law_c_X9_thrown rfl rfl rfl (by decide +kernel) ⟨(Nat.le_of_ble_eq_true rfl), (Nat.le_of_ble_eq_true rfl)⟩) (preV hE hK hP hD hS hA [2] rfl (by decide) [] rfl (va_recv hK hP (ci := 16) (q0 := 2) rfl rfl)) rfl rfl hl.1 rfl (lv_room (Nat.le_of_ble_eq_true rfl)) dL_law_278 ⟨(Nat.le_of_ble_eq_true rfl), (Nat.le_of_ble_eq_true rfl)⟩) hS (fun q _ h => hFc q h) hFc (fun r_11 u t H1 locs ht hvm hw hB hz1 hk1 hS => ?_)
    try dsimp only at hw
    obtain ⟨hP, hD, hK⟩ := jn (wc := [(m0, .inr (16, [.int 0, .ref kl, .null, .ref tl]))]) (wr := [(g0, .inr (8, [.ref g1, .ref g2, .ref g3, .ref g4, .ref g5, .ref g6, .int 0, .int 0, .int 0, .int 0])), (u0, .inl (cL, 1, .inr (.inl (vp_updL (fun _ => 0) 0 (0)))))]) (w1 := [(m0, .inr (16, [.int 0, .ref kl, .null, .ref tl]))]) (t1 := []) hP hD hK hS0 hA [2] [0, 1] rfl rfl (by decide) (by decide) ht hvm hk1 hB
    generalize H1 = H at hP hS ⊢
    have hP : va_P D vwCl ([(g0, .inr (8, [.ref g1, .ref g2, .ref g3, .ref g4, .ref g5, .ref g6, .int 0, .int 0, .int 0, .int 0])), (u0, .inl (cL, 1, .inr (.inl (vp_updL (fun _ => 0) 0 (0))))), (m0, .inr (16, [.int 0, .ref kl, .null, .ref tl]))]) H := hP
    have hD : va_D (LA s) ([(g0, .inr (8, [.ref g1, .ref g2, .ref g3, .ref g4, .ref g5, .ref g6, .int 0, .int 0, .int 0, .int 0])), (u0, .inl (cL, 1, .inr (.inl (vp_updL (fun _ => 0) 0 (0))))), (m0, .inr (16, [.int 0, .ref kl, .null, .ref tl]))]) := hD
    have hK : va_K D vwCl [(cL, .long), (cK, .object "Sowingcourt$Kind"), (cL, .long)] s := hK
    refine W.widen (k := 302) (n := 40015) (Nat.le_of_ble_eq_true rfl) (Nat.le_of_ble_eq_true rfl) ?_
    subst hw
    refine lv_iload hx hb dL_law_281 (lv_at hl 1 rfl) ?_
    refine lv_icmp_eq (tgt := 288) hx hb dL_law_283 (by decide) (fun _ => ?_) (fun c_283 => absurd c_283 (by decide))
    refine lv_iload hx hb dL_law_288 (lv_at hl 1 rfl) ?_
    refine lv_if_ne (tgt := 305) hx hb dL_law_290 (by decide) (fun c_290 => absurd c_290 (by decide)) (fun _ => ?_)
    refine lv_aload_n hx hb dL_law_293 rfl (lv_at hl 5 rfl) ?_
    refine lv_iconst (v := 0) hx hb dL_law_294 (by decide) ?_
    refine va_lald hx hb hK hP 1 0 rfl rfl (i := 0) (by unfold vp_in; decide) dL_law_295 ?_
    refine lv_topl (fun v_12 ev_12 => ?_)
    have ev_12 : v_12 = 0 := ev_12.trans (rfl)
    subst ev_12
    refine lv_iload hx hb dL_law_296 (lv_at hl 0 rfl) ?_
    refine lv_i2l (v := 0) hx hb dL_law_298 (by decide) ?_
    refine W.lcmp hx hb dL_law_299 ?_
    refine lv_if_eq (tgt := 305) hx hb dL_law_300 (by decide) (fun c_300 => ?_) (fun c_300 => absurd ((lg_cmp_eq _ _).mpr rfl) c_300)
    refine lv_goto (tgt := 2351) hx hb dL_law_305 (by decide) ?_
    refine W.widen (k := 400) (n := 41000) (Nat.le_of_ble_eq_true rfl) (Nat.le_of_ble_eq_true rfl) ?_
    exact law_end C1 H locs ls hS (lv_sub hl [7, 2] rfl)
  · refine lv_aload_n hx hb dL_law_212 rfl (lv_at hl 1 rfl) ?_
    refine lv_aload_n hx hb dL_law_213 rfl (lv_at hl 0 rfl) ?_
    refine lv_iload hx hb dL_law_214 (lv_at hl 5 rfl) ?_
    refine lv_iconst (v := 1) hx hb dL_law_216 (by decide) ?_
    refine lv_iadd hx hb dL_law_217 ?_
    refine lv_topi (fun v_13 ev_13 => ?_)
    have ev_13 : v_13 = 1 := ev_13.trans (by decide)
    subst ev_13
    refine va_sld hx hb hX hbl hbA hS (i := 1) (by unfold vp_in; decide) dL_law_218 ?_
    refine W.eq (g2 := F0 m 219 ls [.int (xs 1), .ref h0]) rfl ?_
    refine lv_aload_n hx hb dL_law_219 rfl (lv_at hl 0 rfl) ?_
    refine lv_iload hx hb dL_law_220 (lv_at hl 5 rfl) ?_
    refine lv_iconst (v := 2) hx hb dL_law_222 (by decide) ?_
    refine lv_iadd hx hb dL_law_223 ?_
    refine lv_topi (fun v_14 ev_14 => ?_)
    have ev_14 : v_14 = 2 := ev_14.trans (by decide)
    subst ev_14
    refine va_sld hx hb hX hbl hbA hS (i := 2) (by unfold vp_in; decide) dL_law_224 ?_
    refine W.eq (g2 := F0 m 225 ls [.int (xs 2), .int (xs 1), .ref h0]) rfl ?_
    refine lv_aload_n hx hb dL_law_225 rfl (lv_at hl 0 rfl) ?_
    refine lv_iload hx hb dL_law_226 (lv_at hl 5 rfl) ?_
    refine lv_iconst (v := 3) hx hb dL_law_228 (by decide) ?_
    refine lv_iadd hx hb dL_law_229 ?_
    refine lv_topi (fun v_15 ev_15 => ?_)
    have ev_15 : v_15 = 3 := ev_15.trans (by decide)
    subst ev_15
    refine va_sld hx hb hX hbl hbA hS (i := 3) (by unfold vp_in; decide) dL_law_230 ?_
    refine W.eq (g2 := F0 m 231 ls [.int (xs 3), .int (xs 2), .int (xs 1), .ref h0]) rfl ?_
    refine lv_i2c (v := (chr9 (xs 3))) hx hb dL_law_231 rfl ?_
    refine lv_aload_n hx hb dL_law_232 rfl (lv_at hl 0 rfl) ?_
    refine lv_iload hx hb dL_law_233 (lv_at hl 5 rfl) ?_
    refine lv_iconst (v := 4) hx hb dL_law_235 (by decide) ?_
    refine lv_iadd hx hb dL_law_236 ?_
    refine lv_topi (fun v_16 ev_16 => ?_)
    have ev_16 : v_16 = 4 := ev_16.trans (by decide)
    subst ev_16
    refine va_sld hx hb hX hbl hbA hS (i := 4) (by unfold vp_in; decide) dL_law_237 ?_
    refine W.eq (g2 := F0 m 238 ls [.int (xs 4), .int (chr9 (xs 3)), .int (xs 2), .int (xs 1), .ref h0]) rfl ?_
    refine lv_i2c (v := (chr9 (xs 4))) hx hb dL_law_238 rfl ?_
    refine lv_aload_n hx hb dL_law_239 rfl (lv_at hl 3 rfl) ?_
    have hS0 := hS
    have hFc := va_free (wc := [(h0, .inr (12, [.ref o0, .int 0, .ref g0, .ref o2, .ref o3, .ref o4, .ref o5, .int 0, .ref o6])), (u0, .inl (cL, 1, .inr (.inl (fun _ => 0))))]) hD hS hA [0, 4] rfl
    refine va_calli (vx_runSW (As := [.ref h0, .int (xs 1), .int (xs 2), .int (chr9 (xs 3)), .int (chr9 (xs 4)), .ref u0]) (rest := []) ⟨hx, hb, hml, hown, hts⟩ (c_L_kind_bad l hl0 κ D (H).size (h0) (o0) (g0) (o2) (o3) (o4) (o5) (o6) ((xs 1)) ((xs 2)) ((chr9 (xs 3))) ((chr9 (xs 4))) (u0) (cL) ((fun _ => 0)) (hg)) (vx_cwSW 6 hts gd_law_c_L_kind_bad rfl rfl rfl (by decide +kernel) ⟨(Nat.le_of_ble_eq_true rfl), (Nat.le_of_ble_eq_true rfl)⟩) (preS hE hK hP hD hS hA [0, 4] rfl (by decide) [0] rfl) rfl rfl hl.1 rfl (lv_room (Nat.le_of_ble_eq_true rfl)) dL_law_240 ⟨(Nat.le_of_ble_eq_true rfl), (Nat.le_of_ble_eq_true rfl)⟩) hS (fun q _ h => hFc q h) hFc (fun r_17 u t H1 locs ht hvm hw hB hz1 hk1 hS => ?_)
    try dsimp only at hw
    obtain ⟨hP, hD, hK⟩ := jn (wc := [(h0, .inr (12, [.ref o0, .int 0, .ref g0, .ref o2, .ref o3, .ref o4, .ref o5, .int 0, .ref o6])), (u0, .inl (cL, 1, .inr (.inl (fun _ => 0))))]) (wr := [(g0, .inr (8, [.ref g1, .ref g2, .ref g3, .ref g4, .ref g5, .ref g6, .int 0, .int 0, .int 0, .int 0])), (m0, .inr (16, [.int 0, .ref kl, .null, .ref tl])), (kl, .inr (6, [.int 0, .ref (κ 0), .int 0])), (o0, .inl (cK, 6, .inr (.inr (.inr (.inr kf))))), (k0, .inr (9, [.int 2, .int 1, .int 115, .int 110, .ref kr]))]) (w1 := []) (t1 := []) hP hD hK hS0 hA [0, 4] [1, 2, 3, 5, 6] rfl rfl (by decide) (by decide) ht hvm hk1 hB
    generalize H1 = H at hP hS ⊢
    have hP : va_P D vwCl ([(g0, .inr (8, [.ref g1, .ref g2, .ref g3, .ref g4, .ref g5, .ref g6, .int 0, .int 0, .int 0, .int 0])), (m0, .inr (16, [.int 0, .ref kl, .null, .ref tl])), (kl, .inr (6, [.int 0, .ref (κ 0), .int 0])), (o0, .inl (cK, 6, .inr (.inr (.inr (.inr kf))))), (k0, .inr (9, [.int 2, .int 1, .int 115, .int 110, .ref kr]))]) H := hP
    have hD : va_D (LA s) ([(g0, .inr (8, [.ref g1, .ref g2, .ref g3, .ref g4, .ref g5, .ref g6, .int 0, .int 0, .int 0, .int 0])), (m0, .inr (16, [.int 0, .ref kl, .null, .ref tl])), (kl, .inr (6, [.int 0, .ref (κ 0), .int 0])), (o0, .inl (cK, 6, .inr (.inr (.inr (.inr kf))))), (k0, .inr (9, [.int 2, .int 1, .int 115, .int 110, .ref kr]))]) := hD
    have hK : va_K D vwCl [(cL, .long), (cK, .object "Sowingcourt$Kind")] s := hK
    refine W.widen (k := 301) (n := 40006) (Nat.le_of_ble_eq_true rfl) (Nat.le_of_ble_eq_true rfl) ?_
    subst hw
    refine lv_istore (lv' := [(6, .int 1), (0, .ref b), (1, .ref h0), (2, .ref m0), (3, .ref u0), (4, .ref w0), (5, .int 0)]) hx hb dL_law_243 hl (by decide) rfl (fun ls hl => ?_)
    refine lv_aload_n hx hb dL_law_245 rfl (lv_at hl 3 rfl) ?_
    refine lv_aload_n hx hb dL_law_246 rfl (lv_at hl 1 rfl) ?_
    refine lv_iload hx hb dL_law_247 (lv_at hl 6 rfl) ?_
    refine lv_iconst (v := 1) hx hb dL_law_249 (by decide) ?_
    refine lv_iadd hx hb dL_law_250 ?_
    refine lv_topi (fun v_18 ev_18 => ?_)
    have ev_18 : v_18 = 1 := ev_18.trans (by decide)
    subst ev_18
    refine va_sld hx hb hX hbl hbA hS (i := 1) (by unfold vp_in; decide) dL_law_251 ?_
    refine W.eq (g2 := F0 m 252 ls [.int (xs 1), .ref m0]) rfl ?_
    refine lv_aload_n hx hb dL_law_252 rfl (lv_at hl 1 rfl) ?_
    refine lv_iload hx hb dL_law_253 (lv_at hl 6 rfl) ?_
    refine lv_iconst (v := 2) hx hb dL_law_255 (by decide) ?_
    refine lv_iadd hx hb dL_law_256 ?_
    refine lv_topi (fun v_19 ev_19 => ?_)
    have ev_19 : v_19 = 2 := ev_19.trans (by decide)
    subst ev_19
    refine va_sld hx hb hX hbl hbA hS (i := 2) (by unfold vp_in; decide) dL_law_257 ?_
    refine W.eq (g2 := F0 m 258 ls [.int (xs 2), .int (xs 1), .ref m0]) rfl ?_
    refine lv_aload_n hx hb dL_law_258 rfl (lv_at hl 1 rfl) ?_
    refine lv_iload hx hb dL_law_259 (lv_at hl 6 rfl) ?_
    refine lv_iconst (v := 3) hx hb dL_law_261 (by decide) ?_
    refine lv_iadd hx hb dL_law_262 ?_
    refine lv_topi (fun v_20 ev_20 => ?_)
    have ev_20 : v_20 = 3 := ev_20.trans (by decide)
    subst ev_20
    refine va_sld hx hb hX hbl hbA hS (i := 3) (by unfold vp_in; decide) dL_law_263 ?_
    refine W.eq (g2 := F0 m 264 ls [.int (xs 3), .int (xs 2), .int (xs 1), .ref m0]) rfl ?_
    refine lv_i2c (v := (chr9 (xs 3))) hx hb dL_law_264 rfl ?_
    refine lv_aload_n hx hb dL_law_265 rfl (lv_at hl 1 rfl) ?_
    refine lv_iload hx hb dL_law_266 (lv_at hl 6 rfl) ?_
    refine lv_iconst (v := 4) hx hb dL_law_268 (by decide) ?_
    refine lv_iadd hx hb dL_law_269 ?_
    refine lv_topi (fun v_21 ev_21 => ?_)
    have ev_21 : v_21 = 4 := ev_21.trans (by decide)
    subst ev_21
    refine va_sld hx hb hX hbl hbA hS (i := 4) (by unfold vp_in; decide) dL_law_270 ?_
    refine W.eq (g2 := F0 m 271 ls [.int (xs 4), .int (chr9 (xs 3)), .int (xs 2), .int (xs 1), .ref m0]) rfl ?_
    refine lv_i2c (v := (chr9 (xs 4))) hx hb dL_law_271 rfl ?_
    have hS0 := hS
    have hFc := va_free (wc := [(m0, .inr (16, [.int 0, .ref kl, .null, .ref tl])), (kl, .inr (6, [.int 0, .ref (κ 0), .int 0]))]) hD hS hA [1, 2] rfl
    refine va_calli (va_runV (As := [.int (xs 1), .int (xs 2), .int (chr9 (xs 3)), .int (chr9 (xs 4))]) (rest := []) ⟨hx, hb, hml, hown, hts⟩ (c_X9_kind_bad l κ D (H).size (m0) (kl) (tl) ((xs 1)) ((xs 2)) ((chr9 (xs 3))) ((chr9 (xs 4))) ((fun h9 => hg ⟨(w64 (xs 1) (by decide) (by decide)).mp h9.1, (w64 (xs 2) (by decide) (by decide)).mp h9.2.1, h9.2.2⟩))) (cwV 4 hts gd_law_c_X9_kind_bad rfl rfl rfl (by decide +kernel) ⟨(Nat.le_of_ble_eq_true rfl), (Nat.le_of_ble_eq_true rfl)⟩) (preV hE hK hP hD hS hA [1, 2] rfl (by decide) [] rfl (va_recv hK hP (ci := 16) (q0 := 1) rfl rfl)) rfl rfl hl.1 rfl (lv_room (Nat.le_of_ble_eq_true rfl)) dL_law_272 ⟨(Nat.le_of_ble_eq_true rfl), (Nat.le_of_ble_eq_true rfl)⟩) hS (fun q _ h => hFc q h) hFc (fun r_22 u t H1 locs ht hvm hw hB hz1 hk1 hS => ?_)
    try dsimp only at hw
    obtain ⟨hP, hD, hK⟩ := jn (wc := [(m0, .inr (16, [.int 0, .ref kl, .null, .ref tl])), (kl, .inr (6, [.int 0, .ref (κ 0), .int 0]))]) (wr := [(g0, .inr (8, [.ref g1, .ref g2, .ref g3, .ref g4, .ref g5, .ref g6, .int 0, .int 0, .int 0, .int 0])), (o0, .inl (cK, 6, .inr (.inr (.inr (.inr kf))))), (k0, .inr (9, [.int 2, .int 1, .int 115, .int 110, .ref kr]))]) (w1 := [(m0, .inr (16, [.int 1, .ref kl, .null, .ref tl]))]) (t1 := []) hP hD hK hS0 hA [1, 2] [0, 3, 4] rfl rfl (by decide) (by decide) ht hvm hk1 hB
    generalize H1 = H at hP hS ⊢
    have hP : va_P D vwCl ([(g0, .inr (8, [.ref g1, .ref g2, .ref g3, .ref g4, .ref g5, .ref g6, .int 0, .int 0, .int 0, .int 0])), (o0, .inl (cK, 6, .inr (.inr (.inr (.inr kf))))), (k0, .inr (9, [.int 2, .int 1, .int 115, .int 110, .ref kr])), (m0, .inr (16, [.int 1, .ref kl, .null, .ref tl]))]) H := hP
    have hD : va_D (LA s) ([(g0, .inr (8, [.ref g1, .ref g2, .ref g3, .ref g4, .ref g5, .ref g6, .int 0, .int 0, .int 0, .int 0])), (o0, .inl (cK, 6, .inr (.inr (.inr (.inr kf))))), (k0, .inr (9, [.int 2, .int 1, .int 115, .int 110, .ref kr])), (m0, .inr (16, [.int 1, .ref kl, .null, .ref tl]))]) := hD
    have hK : va_K D vwCl [(cL, .long), (cK, .object "Sowingcourt$Kind")] s := hK
    refine W.widen (k := 301) (n := 40006) (Nat.le_of_ble_eq_true rfl) (Nat.le_of_ble_eq_true rfl) ?_
    refine lv_istore (lv' := [(7, .int r_22), (6, .int 1), (0, .ref b), (1, .ref h0), (2, .ref m0), (3, .ref u0), (4, .ref w0), (5, .int 0)]) hx hb dL_law_275 hl (by decide) rfl (fun ls hl => ?_)
    refine lv_aload_n hx hb dL_law_277 rfl (lv_at hl 4 rfl) ?_
    have hS0 := hS
    have hFc := va_free (wc := [(m0, .inr (16, [.int 1, .ref kl, .null, .ref tl]))]) hD hS hA [3] rfl
    refine va_calli (va_runV (As := []) (rest := []) ⟨hx, hb, hml, hown, hts⟩ (c_X9_thrown l κ D (H).size (m0) (kl) (tl) (1) ) (cwV 0 hts gd_law_c_X9_thrown rfl rfl rfl (by decide +kernel) ⟨(Nat.le_of_ble_eq_true rfl), (Nat.le_of_ble_eq_true rfl)⟩) (preV hE hK hP hD hS hA [3] rfl (by decide) [] rfl (va_recv hK hP (ci := 16) (q0 := 3) rfl rfl)) rfl rfl hl.1 rfl (lv_room (Nat.le_of_ble_eq_true rfl)) dL_law_278 ⟨(Nat.le_of_ble_eq_true rfl), (Nat.le_of_ble_eq_true rfl)⟩) hS (fun q _ h => hFc q h) hFc (fun r_23 u t H1 locs ht hvm hw hB hz1 hk1 hS => ?_)
    try dsimp only at hw
    obtain ⟨hP, hD, hK⟩ := jn (wc := [(m0, .inr (16, [.int 1, .ref kl, .null, .ref tl]))]) (wr := [(g0, .inr (8, [.ref g1, .ref g2, .ref g3, .ref g4, .ref g5, .ref g6, .int 0, .int 0, .int 0, .int 0])), (o0, .inl (cK, 6, .inr (.inr (.inr (.inr kf))))), (k0, .inr (9, [.int 2, .int 1, .int 115, .int 110, .ref kr]))]) (w1 := [(m0, .inr (16, [.int 1, .ref kl, .null, .ref tl]))]) (t1 := []) hP hD hK hS0 hA [3] [0, 1, 2] rfl rfl (by decide) (by decide) ht hvm hk1 hB
    generalize H1 = H at hP hS ⊢
    have hP : va_P D vwCl ([(g0, .inr (8, [.ref g1, .ref g2, .ref g3, .ref g4, .ref g5, .ref g6, .int 0, .int 0, .int 0, .int 0])), (o0, .inl (cK, 6, .inr (.inr (.inr (.inr kf))))), (k0, .inr (9, [.int 2, .int 1, .int 115, .int 110, .ref kr])), (m0, .inr (16, [.int 1, .ref kl, .null, .ref tl]))]) H := hP
    have hD : va_D (LA s) ([(g0, .inr (8, [.ref g1, .ref g2, .ref g3, .ref g4, .ref g5, .ref g6, .int 0, .int 0, .int 0, .int 0])), (o0, .inl (cK, 6, .inr (.inr (.inr (.inr kf))))), (k0, .inr (9, [.int 2, .int 1, .int 115, .int 110, .ref kr])), (m0, .inr (16, [.int 1, .ref kl, .null, .ref tl]))]) := hD
    have hK : va_K D vwCl [(cL, .long), (cK, .object "Sowingcourt$Kind")] s := hK
    refine W.widen (k := 301) (n := 40006) (Nat.le_of_ble_eq_true rfl) (Nat.le_of_ble_eq_true rfl) ?_
    subst hw
    refine lv_iload hx hb dL_law_281 (lv_at hl 1 rfl) ?_
    refine lv_icmp_eq (tgt := 288) hx hb dL_law_283 (by decide) (fun _ => ?_) (fun c_283 => absurd c_283 (by decide))
    refine lv_iload hx hb dL_law_288 (lv_at hl 1 rfl) ?_
    refine lv_if_ne (tgt := 305) hx hb dL_law_290 (by decide) (fun _ => ?_) (fun c_290 => absurd c_290 (by decide))
    refine lv_goto (tgt := 2351) hx hb dL_law_305 (by decide) ?_
    refine W.widen (k := 400) (n := 41000) (Nat.le_of_ble_eq_true rfl) (Nat.le_of_ble_eq_true rfl) ?_
    exact law_end C1 H locs ls hS (lv_sub hl [7, 2] rfl)

set_option maxHeartbeats 8000000 in
set_option maxRecDepth 100000 in
theorem law_type {p : Program} {l : Launch} {e : Env} {s : State} {m : MethodId} {below : List Frame} {meth : Method} {c : Code} {b : Nat} {xs : Nat → Int32} {κ : Nat → Nat} (C0 : law_At2 p l s m meth c b xs κ) {D : va_G} {h0 : Nat} {o0 : Nat} {g0 : Nat} {o2 : Nat} {o3 : Nat} {o4 : Nat} {o5 : Nat} {o6 : Nat} {g1 : Nat} {g2 : Nat} {g3 : Nat} {g4 : Nat} {g5 : Nat} {g6 : Nat} {m0 : Nat} {kl : Nat} {tl : Nat} {u0 : Nat} {w0 : Nat} {cL : ClassId} {cI : ClassId}  (H : Heap) (locs : List Loc) (ls : Array Slot) (hK : va_K D vwCl [(cL, .long), (cI, .int)] s) (hP : va_P D vwCl [(h0, .inr (12, [.ref o0, .int 0, .ref g0, .ref o2, .ref o3, .ref o4, .ref o5, .int 0, .ref o6])), (g0, .inr (8, [.ref g1, .ref g2, .ref g3, .ref g4, .ref g5, .ref g6, .int 0, .int 0, .int 0, .int 0])), (m0, .inr (16, [.int 0, .ref kl, .null, .ref tl])), (kl, .inr (6, [.int 0, .ref (κ 0), .int 0])), (u0, .inl (cL, 1, .inr (.inl (fun _ => 0)))), (o5, .inl (cI, 60, .inl (fun _ => 0))), (tl, .inr (6, [.int 0, .ref (κ 0), .int 0]))] H) (hD : va_D (LA s) [(h0, .inr (12, [.ref o0, .int 0, .ref g0, .ref o2, .ref o3, .ref o4, .ref o5, .int 0, .ref o6])), (g0, .inr (8, [.ref g1, .ref g2, .ref g3, .ref g4, .ref g5, .ref g6, .int 0, .int 0, .int 0, .int 0])), (m0, .inr (16, [.int 0, .ref kl, .null, .ref tl])), (kl, .inr (6, [.int 0, .ref (κ 0), .int 0])), (u0, .inl (cL, 1, .inr (.inl (fun _ => 0)))), (o5, .inl (cI, 60, .inl (fun _ => 0))), (tl, .inr (6, [.int 0, .ref (κ 0), .int 0]))]) (hS : va_S (LA s) s.heap H locs) (hl : lv_has ls 9 [(0, .ref b), (1, .ref h0), (2, .ref m0), (3, .ref u0), (4, .ref w0), (5, .int 0)]) : W p l e room_1 s m #[Value.ref b] below meth c H locs 300 40000 (lw_Z below #[Value.ref b] s) (F0 m 1924 ls []) := by
  have C1 := C0
  obtain ⟨hl0, hx, hb, hr, hml, hown, hts, hX, hbl, hlocks, hE⟩ := C0
  have hA : ∀ q : Nat, s.heap.size ≤ q → LA s q := fun _ h => h
  have hbA : ¬ LA s b := Nat.not_le.mpr hbl
  by_cases hg : (0 : Int32).toInt ≤ (xs 1).toInt ∧ (xs 1).toInt ≤ (9 : Int32).toInt
  · have hg2 := hg
    rw [toI_0, toI_9] at hg2
    obtain ⟨kk, hk1, hk2, e9⟩ := natR (x := xs 1) (a := 0) (b := 9) ⟨by omega, by omega⟩
    refine lv_aload_n hx hb dL_law_1924 rfl (lv_at hl 1 rfl) ?_
    refine lv_aload_n hx hb dL_law_1925 rfl (lv_at hl 0 rfl) ?_
    refine lv_iload hx hb dL_law_1926 (lv_at hl 5 rfl) ?_
    refine lv_iconst (v := 1) hx hb dL_law_1928 (by decide) ?_
    refine lv_iadd hx hb dL_law_1929 ?_
    refine lv_topi (fun v_1 ev_1 => ?_)
    have ev_1 : v_1 = 1 := ev_1.trans (by decide)
    subst ev_1
    refine va_sld hx hb hX hbl hbA hS (i := 1) (by unfold vp_in; decide) dL_law_1930 ?_
    refine W.eq (g2 := F0 m 1931 ls [.int (xs 1), .ref h0]) rfl ?_
    refine lv_aload_n hx hb dL_law_1931 rfl (lv_at hl 3 rfl) ?_
    have hS0 := hS
    have hFc := va_free (wc := [(h0, .inr (12, [.ref o0, .int 0, .ref g0, .ref o2, .ref o3, .ref o4, .ref o5, .int 0, .ref o6])), (o5, .inl (cI, 60, .inl (fun _ => 0))), (u0, .inl (cL, 1, .inr (.inl (fun _ => 0))))]) hD hS hA [0, 5, 4] rfl
    refine va_calli (vx_runSW (As := [.ref h0, .int (xs 1), .ref u0]) (rest := []) ⟨hx, hb, hml, hown, hts⟩ (c_L_type_ok l κ D (H).size (h0) (o0) (g0) (o2) (o3) (o4) (o5) (o6) (cI) ((fun _ => 0)) ((xs 1)) (u0) (cL) ((fun _ => 0)) (hg)) (vx_cwSW 3 hts gd_law_c_L_type_ok rfl rfl rfl (by decide +kernel) ⟨(Nat.le_of_ble_eq_true rfl), (Nat.le_of_ble_eq_true rfl)⟩) (preS hE hK hP hD hS hA [0, 5, 4] rfl (by decide) [1, 0] rfl) rfl rfl hl.1 rfl (lv_room (Nat.le_of_ble_eq_true rfl)) dL_law_1932 ⟨(Nat.le_of_ble_eq_true rfl), (Nat.le_of_ble_eq_true rfl)⟩) hS (fun q _ h => hFc q h) hFc (fun r_2 u t H1 locs ht hvm hw hB hz1 hk1 hS => ?_)
    try dsimp only at hw
    obtain ⟨hP, hD, hK⟩ := jn (wc := [(h0, .inr (12, [.ref o0, .int 0, .ref g0, .ref o2, .ref o3, .ref o4, .ref o5, .int 0, .ref o6])), (o5, .inl (cI, 60, .inl (fun _ => 0))), (u0, .inl (cL, 1, .inr (.inl (fun _ => 0))))]) (wr := [(g0, .inr (8, [.ref g1, .ref g2, .ref g3, .ref g4, .ref g5, .ref g6, .int 0, .int 0, .int 0, .int 0])), (m0, .inr (16, [.int 0, .ref kl, .null, .ref tl])), (kl, .inr (6, [.int 0, .ref (κ 0), .int 0])), (tl, .inr (6, [.int 0, .ref (κ 0), .int 0]))]) (w1 := [(u0, .inl (cL, 1, .inr (.inl (vp_updL (fun _ => 0) 0 (1)))))]) (t1 := [(cL, .long)]) hP hD hK hS0 hA [0, 5, 4] [1, 2, 3, 6] rfl rfl (by decide) (by decide) ht hvm hk1 hB
    generalize H1 = H at hP hS ⊢
    have hP : va_P D vwCl ([(g0, .inr (8, [.ref g1, .ref g2, .ref g3, .ref g4, .ref g5, .ref g6, .int 0, .int 0, .int 0, .int 0])), (m0, .inr (16, [.int 0, .ref kl, .null, .ref tl])), (kl, .inr (6, [.int 0, .ref (κ 0), .int 0])), (tl, .inr (6, [.int 0, .ref (κ 0), .int 0])), (u0, .inl (cL, 1, .inr (.inl (vp_updL (fun _ => 0) 0 (1)))))]) H := hP
    have hD : va_D (LA s) ([(g0, .inr (8, [.ref g1, .ref g2, .ref g3, .ref g4, .ref g5, .ref g6, .int 0, .int 0, .int 0, .int 0])), (m0, .inr (16, [.int 0, .ref kl, .null, .ref tl])), (kl, .inr (6, [.int 0, .ref (κ 0), .int 0])), (tl, .inr (6, [.int 0, .ref (κ 0), .int 0])), (u0, .inl (cL, 1, .inr (.inl (vp_updL (fun _ => 0) 0 (1)))))]) := hD
    have hK : va_K D vwCl [(cL, .long), (cI, .int), (cL, .long)] s := hK
    refine W.widen (k := 300) (n := 40000) (Nat.le_of_ble_eq_true rfl) (Nat.le_of_ble_eq_true rfl) ?_
    subst hw
    refine lv_istore (lv' := [(6, .int 0), (0, .ref b), (1, .ref h0), (2, .ref m0), (3, .ref u0), (4, .ref w0), (5, .int 0)]) hx hb dL_law_1935 hl (by decide) rfl (fun ls hl => ?_)
    refine lv_aload_n hx hb dL_law_1937 rfl (lv_at hl 3 rfl) ?_
    refine lv_aload_n hx hb dL_law_1938 rfl (lv_at hl 1 rfl) ?_
    refine lv_iload hx hb dL_law_1939 (lv_at hl 6 rfl) ?_
    refine lv_iconst (v := 1) hx hb dL_law_1941 (by decide) ?_
    refine lv_iadd hx hb dL_law_1942 ?_
    refine lv_topi (fun v_3 ev_3 => ?_)
    have ev_3 : v_3 = 1 := ev_3.trans (by decide)
    subst ev_3
    refine va_sld hx hb hX hbl hbA hS (i := 1) (by unfold vp_in; decide) dL_law_1943 ?_
    refine W.eq (g2 := F0 m 1944 ls [.int (xs 1), .ref m0]) rfl ?_
    have hS0 := hS
    have hFc := va_free (wc := [(m0, .inr (16, [.int 0, .ref kl, .null, .ref tl])), (tl, .inr (6, [.int 0, .ref (κ 0), .int 0]))]) hD hS hA [1, 3] rfl
    refine va_calli (va_runV (As := [.int (xs 1)]) (rest := []) ⟨hx, hb, hml, hown, hts⟩ (c_X9_type_ok l κ D (H).size (m0) (kl) (tl) ((xs 1)) (kk) (e9) ((by omega))) (cwV 1 hts gd_law_c_X9_type_ok rfl rfl rfl (by decide +kernel) ⟨(Nat.le_of_ble_eq_true rfl), (Nat.le_of_ble_eq_true rfl)⟩) (preV hE hK hP hD hS hA [1, 3] rfl (by decide) [] rfl (va_recv hK hP (ci := 16) (q0 := 1) rfl rfl)) rfl rfl hl.1 rfl (lv_room (Nat.le_of_ble_eq_true rfl)) dL_law_1944 ⟨(Nat.le_of_ble_eq_true rfl), (Nat.le_of_ble_eq_true rfl)⟩) hS (fun q _ h => hFc q h) hFc (fun r_4 u t H1 locs ht hvm hw hB hz1 hk1 hS => ?_)
    try dsimp only at hw
    obtain ⟨hP, hD, hK⟩ := jn (wc := [(m0, .inr (16, [.int 0, .ref kl, .null, .ref tl])), (tl, .inr (6, [.int 0, .ref (κ 0), .int 0]))]) (wr := [(g0, .inr (8, [.ref g1, .ref g2, .ref g3, .ref g4, .ref g5, .ref g6, .int 0, .int 0, .int 0, .int 0])), (kl, .inr (6, [.int 0, .ref (κ 0), .int 0])), (u0, .inl (cL, 1, .inr (.inl (vp_updL (fun _ => 0) 0 (1)))))]) (w1 := [(m0, .inr (16, [.int 0, .ref kl, .null, .ref tl]))]) (t1 := []) hP hD hK hS0 hA [1, 3] [0, 2, 4] rfl rfl (by decide) (by decide) ht hvm hk1 hB
    generalize H1 = H at hP hS ⊢
    have hP : va_P D vwCl ([(g0, .inr (8, [.ref g1, .ref g2, .ref g3, .ref g4, .ref g5, .ref g6, .int 0, .int 0, .int 0, .int 0])), (kl, .inr (6, [.int 0, .ref (κ 0), .int 0])), (u0, .inl (cL, 1, .inr (.inl (vp_updL (fun _ => 0) 0 (1))))), (m0, .inr (16, [.int 0, .ref kl, .null, .ref tl]))]) H := hP
    have hD : va_D (LA s) ([(g0, .inr (8, [.ref g1, .ref g2, .ref g3, .ref g4, .ref g5, .ref g6, .int 0, .int 0, .int 0, .int 0])), (kl, .inr (6, [.int 0, .ref (κ 0), .int 0])), (u0, .inl (cL, 1, .inr (.inl (vp_updL (fun _ => 0) 0 (1))))), (m0, .inr (16, [.int 0, .ref kl, .null, .ref tl]))]) := hD
    have hK : va_K D vwCl [(cL, .long), (cI, .int), (cL, .long)] s := hK
    refine W.widen (k := 301) (n := 40010) (Nat.le_of_ble_eq_true rfl) (Nat.le_of_ble_eq_true rfl) ?_
    subst hw
    refine lv_istore (lv' := [(7, .int 1), (6, .int 0), (0, .ref b), (1, .ref h0), (2, .ref m0), (3, .ref u0), (4, .ref w0), (5, .int 0)]) hx hb dL_law_1947 hl (by decide) rfl (fun ls hl => ?_)
    refine lv_aload_n hx hb dL_law_1949 rfl (lv_at hl 4 rfl) ?_
    have hS0 := hS
    have hFc := va_free (wc := [(m0, .inr (16, [.int 0, .ref kl, .null, .ref tl]))]) hD hS hA [3] rfl
    refine va_calli (va_runV (As := []) (rest := []) ⟨hx, hb, hml, hown, hts⟩ (c_X9_thrown l κ D (H).size (m0) (kl) (tl) (0) ) (cwV 0 hts gd_law_c_X9_thrown rfl rfl rfl (by decide +kernel) ⟨(Nat.le_of_ble_eq_true rfl), (Nat.le_of_ble_eq_true rfl)⟩) (preV hE hK hP hD hS hA [3] rfl (by decide) [] rfl (va_recv hK hP (ci := 16) (q0 := 3) rfl rfl)) rfl rfl hl.1 rfl (lv_room (Nat.le_of_ble_eq_true rfl)) dL_law_1950 ⟨(Nat.le_of_ble_eq_true rfl), (Nat.le_of_ble_eq_true rfl)⟩) hS (fun q _ h => hFc q h) hFc (fun r_5 u t H1 locs ht hvm hw hB hz1 hk1 hS => ?_)
    try dsimp only at hw
    obtain ⟨hP, hD, hK⟩ := jn (wc := [(m0, .inr (16, [.int 0, .ref kl, .null, .ref tl]))]) (wr := [(g0, .inr (8, [.ref g1, .ref g2, .ref g3, .ref g4, .ref g5, .ref g6, .int 0, .int 0, .int 0, .int 0])), (kl, .inr (6, [.int 0, .ref (κ 0), .int 0])), (u0, .inl (cL, 1, .inr (.inl (vp_updL (fun _ => 0) 0 (1)))))]) (w1 := [(m0, .inr (16, [.int 0, .ref kl, .null, .ref tl]))]) (t1 := []) hP hD hK hS0 hA [3] [0, 1, 2] rfl rfl (by decide) (by decide) ht hvm hk1 hB
    generalize H1 = H at hP hS ⊢
    have hP : va_P D vwCl ([(g0, .inr (8, [.ref g1, .ref g2, .ref g3, .ref g4, .ref g5, .ref g6, .int 0, .int 0, .int 0, .int 0])), (kl, .inr (6, [.int 0, .ref (κ 0), .int 0])), (u0, .inl (cL, 1, .inr (.inl (vp_updL (fun _ => 0) 0 (1))))), (m0, .inr (16, [.int 0, .ref kl, .null, .ref tl]))]) H := hP
    have hD : va_D (LA s) ([(g0, .inr (8, [.ref g1, .ref g2, .ref g3, .ref g4, .ref g5, .ref g6, .int 0, .int 0, .int 0, .int 0])), (kl, .inr (6, [.int 0, .ref (κ 0), .int 0])), (u0, .inl (cL, 1, .inr (.inl (vp_updL (fun _ => 0) 0 (1))))), (m0, .inr (16, [.int 0, .ref kl, .null, .ref tl]))]) := hD
    have hK : va_K D vwCl [(cL, .long), (cI, .int), (cL, .long)] s := hK
    refine W.widen (k := 301) (n := 40010) (Nat.le_of_ble_eq_true rfl) (Nat.le_of_ble_eq_true rfl) ?_
    subst hw
    refine lv_iload hx hb dL_law_1953 (lv_at hl 1 rfl) ?_
    refine lv_icmp_eq (tgt := 1960) hx hb dL_law_1955 (by decide) (fun _ => ?_) (fun c_1955 => absurd c_1955 (by decide))
    refine lv_iload hx hb dL_law_1960 (lv_at hl 1 rfl) ?_
    refine lv_if_ne (tgt := 1977) hx hb dL_law_1962 (by decide) (fun c_1962 => absurd c_1962 (by decide)) (fun _ => ?_)
    refine lv_aload_n hx hb dL_law_1965 rfl (lv_at hl 5 rfl) ?_
    refine lv_iconst (v := 0) hx hb dL_law_1966 (by decide) ?_
    refine va_lald hx hb hK hP 2 0 rfl rfl (i := 0) (by unfold vp_in; decide) dL_law_1967 ?_
    refine lv_topl (fun v_6 ev_6 => ?_)
    have ev_6 : v_6 = 1 := ev_6.trans (rfl)
    subst ev_6
    refine lv_iload hx hb dL_law_1968 (lv_at hl 0 rfl) ?_
    refine lv_i2l (v := 1) hx hb dL_law_1970 (by decide) ?_
    refine W.lcmp hx hb dL_law_1971 ?_
    refine lv_if_eq (tgt := 1977) hx hb dL_law_1972 (by decide) (fun c_1972 => ?_) (fun c_1972 => absurd ((lg_cmp_eq _ _).mpr rfl) c_1972)
    refine lv_goto (tgt := 2351) hx hb dL_law_1977 (by decide) ?_
    refine W.widen (k := 400) (n := 41000) (Nat.le_of_ble_eq_true rfl) (Nat.le_of_ble_eq_true rfl) ?_
    exact law_end C1 H locs ls hS (lv_sub hl [7, 2] rfl)
  · refine lv_aload_n hx hb dL_law_1924 rfl (lv_at hl 1 rfl) ?_
    refine lv_aload_n hx hb dL_law_1925 rfl (lv_at hl 0 rfl) ?_
    refine lv_iload hx hb dL_law_1926 (lv_at hl 5 rfl) ?_
    refine lv_iconst (v := 1) hx hb dL_law_1928 (by decide) ?_
    refine lv_iadd hx hb dL_law_1929 ?_
    refine lv_topi (fun v_7 ev_7 => ?_)
    have ev_7 : v_7 = 1 := ev_7.trans (by decide)
    subst ev_7
    refine va_sld hx hb hX hbl hbA hS (i := 1) (by unfold vp_in; decide) dL_law_1930 ?_
    refine W.eq (g2 := F0 m 1931 ls [.int (xs 1), .ref h0]) rfl ?_
    refine lv_aload_n hx hb dL_law_1931 rfl (lv_at hl 3 rfl) ?_
    have hS0 := hS
    have hFc := va_free (wc := [(h0, .inr (12, [.ref o0, .int 0, .ref g0, .ref o2, .ref o3, .ref o4, .ref o5, .int 0, .ref o6])), (u0, .inl (cL, 1, .inr (.inl (fun _ => 0))))]) hD hS hA [0, 4] rfl
    refine va_calli (vx_runSW (As := [.ref h0, .int (xs 1), .ref u0]) (rest := []) ⟨hx, hb, hml, hown, hts⟩ (c_L_type_bad l hl0 κ D (H).size (h0) (o0) (g0) (o2) (o3) (o4) (o5) (o6) ((xs 1)) (u0) (cL) ((fun _ => 0)) (hg)) (vx_cwSW 3 hts gd_law_c_L_type_bad rfl rfl rfl (by decide +kernel) ⟨(Nat.le_of_ble_eq_true rfl), (Nat.le_of_ble_eq_true rfl)⟩) (preS hE hK hP hD hS hA [0, 4] rfl (by decide) [0] rfl) rfl rfl hl.1 rfl (lv_room (Nat.le_of_ble_eq_true rfl)) dL_law_1932 ⟨(Nat.le_of_ble_eq_true rfl), (Nat.le_of_ble_eq_true rfl)⟩) hS (fun q _ h => hFc q h) hFc (fun r_8 u t H1 locs ht hvm hw hB hz1 hk1 hS => ?_)
    try dsimp only at hw
    obtain ⟨hP, hD, hK⟩ := jn (wc := [(h0, .inr (12, [.ref o0, .int 0, .ref g0, .ref o2, .ref o3, .ref o4, .ref o5, .int 0, .ref o6])), (u0, .inl (cL, 1, .inr (.inl (fun _ => 0))))]) (wr := [(g0, .inr (8, [.ref g1, .ref g2, .ref g3, .ref g4, .ref g5, .ref g6, .int 0, .int 0, .int 0, .int 0])), (m0, .inr (16, [.int 0, .ref kl, .null, .ref tl])), (kl, .inr (6, [.int 0, .ref (κ 0), .int 0])), (o5, .inl (cI, 60, .inl (fun _ => 0))), (tl, .inr (6, [.int 0, .ref (κ 0), .int 0]))]) (w1 := []) (t1 := []) hP hD hK hS0 hA [0, 4] [1, 2, 3, 5, 6] rfl rfl (by decide) (by decide) ht hvm hk1 hB
    generalize H1 = H at hP hS ⊢
    have hP : va_P D vwCl ([(g0, .inr (8, [.ref g1, .ref g2, .ref g3, .ref g4, .ref g5, .ref g6, .int 0, .int 0, .int 0, .int 0])), (m0, .inr (16, [.int 0, .ref kl, .null, .ref tl])), (kl, .inr (6, [.int 0, .ref (κ 0), .int 0])), (o5, .inl (cI, 60, .inl (fun _ => 0))), (tl, .inr (6, [.int 0, .ref (κ 0), .int 0]))]) H := hP
    have hD : va_D (LA s) ([(g0, .inr (8, [.ref g1, .ref g2, .ref g3, .ref g4, .ref g5, .ref g6, .int 0, .int 0, .int 0, .int 0])), (m0, .inr (16, [.int 0, .ref kl, .null, .ref tl])), (kl, .inr (6, [.int 0, .ref (κ 0), .int 0])), (o5, .inl (cI, 60, .inl (fun _ => 0))), (tl, .inr (6, [.int 0, .ref (κ 0), .int 0]))]) := hD
    have hK : va_K D vwCl [(cL, .long), (cI, .int)] s := hK
    refine W.widen (k := 301) (n := 40006) (Nat.le_of_ble_eq_true rfl) (Nat.le_of_ble_eq_true rfl) ?_
    subst hw
    refine lv_istore (lv' := [(6, .int 1), (0, .ref b), (1, .ref h0), (2, .ref m0), (3, .ref u0), (4, .ref w0), (5, .int 0)]) hx hb dL_law_1935 hl (by decide) rfl (fun ls hl => ?_)
    refine lv_aload_n hx hb dL_law_1937 rfl (lv_at hl 3 rfl) ?_
    refine lv_aload_n hx hb dL_law_1938 rfl (lv_at hl 1 rfl) ?_
    refine lv_iload hx hb dL_law_1939 (lv_at hl 6 rfl) ?_
    refine lv_iconst (v := 1) hx hb dL_law_1941 (by decide) ?_
    refine lv_iadd hx hb dL_law_1942 ?_
    refine lv_topi (fun v_9 ev_9 => ?_)
    have ev_9 : v_9 = 1 := ev_9.trans (by decide)
    subst ev_9
    refine va_sld hx hb hX hbl hbA hS (i := 1) (by unfold vp_in; decide) dL_law_1943 ?_
    refine W.eq (g2 := F0 m 1944 ls [.int (xs 1), .ref m0]) rfl ?_
    have hS0 := hS
    have hFc := va_free (wc := [(m0, .inr (16, [.int 0, .ref kl, .null, .ref tl]))]) hD hS hA [1] rfl
    refine va_calli (va_runV (As := [.int (xs 1)]) (rest := []) ⟨hx, hb, hml, hown, hts⟩ (c_X9_type_bad l κ D (H).size (m0) (kl) (tl) ((xs 1)) ((fun h9 => hg ((w64 (xs 1) (by decide) (by decide)).mp h9)))) (cwV 1 hts gd_law_c_X9_type_bad rfl rfl rfl (by decide +kernel) ⟨(Nat.le_of_ble_eq_true rfl), (Nat.le_of_ble_eq_true rfl)⟩) (preV hE hK hP hD hS hA [1] rfl (by decide) [] rfl (va_recv hK hP (ci := 16) (q0 := 1) rfl rfl)) rfl rfl hl.1 rfl (lv_room (Nat.le_of_ble_eq_true rfl)) dL_law_1944 ⟨(Nat.le_of_ble_eq_true rfl), (Nat.le_of_ble_eq_true rfl)⟩) hS (fun q _ h => hFc q h) hFc (fun r_10 u t H1 locs ht hvm hw hB hz1 hk1 hS => ?_)
    try dsimp only at hw
    obtain ⟨hP, hD, hK⟩ := jn (wc := [(m0, .inr (16, [.int 0, .ref kl, .null, .ref tl]))]) (wr := [(g0, .inr (8, [.ref g1, .ref g2, .ref g3, .ref g4, .ref g5, .ref g6, .int 0, .int 0, .int 0, .int 0])), (kl, .inr (6, [.int 0, .ref (κ 0), .int 0])), (o5, .inl (cI, 60, .inl (fun _ => 0))), (tl, .inr (6, [.int 0, .ref (κ 0), .int 0]))]) (w1 := [(m0, .inr (16, [.int 1, .ref kl, .null, .ref tl]))]) (t1 := []) hP hD hK hS0 hA [1] [0, 2, 3, 4] rfl rfl (by decide) (by decide) ht hvm hk1 hB
    generalize H1 = H at hP hS ⊢
    have hP : va_P D vwCl ([(g0, .inr (8, [.ref g1, .ref g2, .ref g3, .ref g4, .ref g5, .ref g6, .int 0, .int 0, .int 0, .int 0])), (kl, .inr (6, [.int 0, .ref (κ 0), .int 0])), (o5, .inl (cI, 60, .inl (fun _ => 0))), (tl, .inr (6, [.int 0, .ref (κ 0), .int 0])), (m0, .inr (16, [.int 1, .ref kl, .null, .ref tl]))]) H := hP
    have hD : va_D (LA s) ([(g0, .inr (8, [.ref g1, .ref g2, .ref g3, .ref g4, .ref g5, .ref g6, .int 0, .int 0, .int 0, .int 0])), (kl, .inr (6, [.int 0, .ref (κ 0), .int 0])), (o5, .inl (cI, 60, .inl (fun _ => 0))), (tl, .inr (6, [.int 0, .ref (κ 0), .int 0])), (m0, .inr (16, [.int 1, .ref kl, .null, .ref tl]))]) := hD
    have hK : va_K D vwCl [(cL, .long), (cI, .int)] s := hK
    refine W.widen (k := 301) (n := 40006) (Nat.le_of_ble_eq_true rfl) (Nat.le_of_ble_eq_true rfl) ?_
    refine lv_istore (lv' := [(7, .int r_10), (6, .int 1), (0, .ref b), (1, .ref h0), (2, .ref m0), (3, .ref u0), (4, .ref w0), (5, .int 0)]) hx hb dL_law_1947 hl (by decide) rfl (fun ls hl => ?_)
    refine lv_aload_n hx hb dL_law_1949 rfl (lv_at hl 4 rfl) ?_
    have hS0 := hS
    have hFc := va_free (wc := [(m0, .inr (16, [.int 1, .ref kl, .null, .ref tl]))]) hD hS hA [4] rfl
    refine va_calli (va_runV (As := []) (rest := []) ⟨hx, hb, hml, hown, hts⟩ (c_X9_thrown l κ D (H).size (m0) (kl) (tl) (1) ) (cwV 0 hts gd_law_c_X9_thrown rfl rfl rfl (by decide +kernel) ⟨(Nat.le_of_ble_eq_true rfl), (Nat.le_of_ble_eq_true rfl)⟩) (preV hE hK hP hD hS hA [4] rfl (by decide) [] rfl (va_recv hK hP (ci := 16) (q0 := 4) rfl rfl)) rfl rfl hl.1 rfl (lv_room (Nat.le_of_ble_eq_true rfl)) dL_law_1950 ⟨(Nat.le_of_ble_eq_true rfl), (Nat.le_of_ble_eq_true rfl)⟩) hS (fun q _ h => hFc q h) hFc (fun r_11 u t H1 locs ht hvm hw hB hz1 hk1 hS => ?_)
    try dsimp only at hw
    obtain ⟨hP, hD, hK⟩ := jn (wc := [(m0, .inr (16, [.int 1, .ref kl, .null, .ref tl]))]) (wr := [(g0, .inr (8, [.ref g1, .ref g2, .ref g3, .ref g4, .ref g5, .ref g6, .int 0, .int 0, .int 0, .int 0])), (kl, .inr (6, [.int 0, .ref (κ 0), .int 0])), (o5, .inl (cI, 60, .inl (fun _ => 0))), (tl, .inr (6, [.int 0, .ref (κ 0), .int 0]))]) (w1 := [(m0, .inr (16, [.int 1, .ref kl, .null, .ref tl]))]) (t1 := []) hP hD hK hS0 hA [4] [0, 1, 2, 3] rfl rfl (by decide) (by decide) ht hvm hk1 hB
    generalize H1 = H at hP hS ⊢
    have hP : va_P D vwCl ([(g0, .inr (8, [.ref g1, .ref g2, .ref g3, .ref g4, .ref g5, .ref g6, .int 0, .int 0, .int 0, .int 0])), (kl, .inr (6, [.int 0, .ref (κ 0), .int 0])), (o5, .inl (cI, 60, .inl (fun _ => 0))), (tl, .inr (6, [.int 0, .ref (κ 0), .int 0])), (m0, .inr (16, [.int 1, .ref kl, .null, .ref tl]))]) H := hP
    have hD : va_D (LA s) ([(g0, .inr (8, [.ref g1, .ref g2, .ref g3, .ref g4, .ref g5, .ref g6, .int 0, .int 0, .int 0, .int 0])), (kl, .inr (6, [.int 0, .ref (κ 0), .int 0])), (o5, .inl (cI, 60, .inl (fun _ => 0))), (tl, .inr (6, [.int 0, .ref (κ 0), .int 0])), (m0, .inr (16, [.int 1, .ref kl, .null, .ref tl]))]) := hD
    have hK : va_K D vwCl [(cL, .long), (cI, .int)] s := hK
    refine W.widen (k := 301) (n := 40006) (Nat.le_of_ble_eq_true rfl) (Nat.le_of_ble_eq_true rfl) ?_
    subst hw
    refine lv_iload hx hb dL_law_1953 (lv_at hl 1 rfl) ?_
    refine lv_icmp_eq (tgt := 1960) hx hb dL_law_1955 (by decide) (fun _ => ?_) (fun c_1955 => absurd c_1955 (by decide))
    refine lv_iload hx hb dL_law_1960 (lv_at hl 1 rfl) ?_
    refine lv_if_ne (tgt := 1977) hx hb dL_law_1962 (by decide) (fun _ => ?_) (fun c_1962 => absurd c_1962 (by decide))
    refine lv_goto (tgt := 2351) hx hb dL_law_1977 (by decide) ?_
    refine W.widen (k := 400) (n := 41000) (Nat.le_of_ble_eq_true rfl) (Nat.le_of_ble_eq_true rfl) ?_
    exact law_end C1 H locs ls hS (lv_sub hl [7, 2] rfl)

set_option maxHeartbeats 8000000 in
set_option maxRecDepth 100000 in
theorem law_wipe {p : Program} {l : Launch} {e : Env} {s : State} {m : MethodId} {below : List Frame} {meth : Method} {c : Code} {b : Nat} {xs : Nat → Int32} {κ : Nat → Nat} (C0 : law_At2 p l s m meth c b xs κ) {D : va_G} {h0 : Nat} {o0 : Nat} {g0 : Nat} {o2 : Nat} {o3 : Nat} {o4 : Nat} {o5 : Nat} {o6 : Nat} {g1 : Nat} {g2 : Nat} {g3 : Nat} {g4 : Nat} {g5 : Nat} {g6 : Nat} {m0 : Nat} {kl : Nat} {tl : Nat} {u0 : Nat} {w0 : Nat} {cL : ClassId}  (H : Heap) (locs : List Loc) (ls : Array Slot) (hK : va_K D vwCl [(cL, .long)] s) (hP : va_P D vwCl [(h0, .inr (12, [.ref o0, .int 0, .ref g0, .ref o2, .ref o3, .ref o4, .ref o5, .int 0, .ref o6])), (g0, .inr (8, [.ref g1, .ref g2, .ref g3, .ref g4, .ref g5, .ref g6, .int 0, .int 0, .int 0, .int 0])), (m0, .inr (16, [.int 0, .ref kl, .null, .ref tl])), (kl, .inr (6, [.int 0, .ref (κ 0), .int 0])), (u0, .inl (cL, 1, .inr (.inl (fun _ => 0)))), (tl, .inr (6, [.int 0, .ref (κ 0), .int 0]))] H) (hD : va_D (LA s) [(h0, .inr (12, [.ref o0, .int 0, .ref g0, .ref o2, .ref o3, .ref o4, .ref o5, .int 0, .ref o6])), (g0, .inr (8, [.ref g1, .ref g2, .ref g3, .ref g4, .ref g5, .ref g6, .int 0, .int 0, .int 0, .int 0])), (m0, .inr (16, [.int 0, .ref kl, .null, .ref tl])), (kl, .inr (6, [.int 0, .ref (κ 0), .int 0])), (u0, .inl (cL, 1, .inr (.inl (fun _ => 0)))), (tl, .inr (6, [.int 0, .ref (κ 0), .int 0]))]) (hS : va_S (LA s) s.heap H locs) (hl : lv_has ls 9 [(0, .ref b), (1, .ref h0), (2, .ref m0), (3, .ref u0), (4, .ref w0), (5, .int 0)]) : W p l e room_1 s m #[Value.ref b] below meth c H locs 300 40000 (lw_Z below #[Value.ref b] s) (F0 m 1980 ls []) := by
  have C1 := C0
  obtain ⟨hl0, hx, hb, hr, hml, hown, hts, hX, hbl, hlocks, hE⟩ := C0
  have hA : ∀ q : Nat, s.heap.size ≤ q → LA s q := fun _ h => h
  have hbA : ¬ LA s b := Nat.not_le.mpr hbl
  refine lv_aload_n hx hb dL_law_1980 rfl (lv_at hl 1 rfl) ?_
  have hS0 := hS
  have hFc := va_free (wc := [(h0, .inr (12, [.ref o0, .int 0, .ref g0, .ref o2, .ref o3, .ref o4, .ref o5, .int 0, .ref o6]))]) hD hS hA [0] rfl
  refine va_calli (va_runV (As := []) (rest := []) ⟨hx, hb, hml, hown, hts⟩ (c_X5_wipe l κ D (H).size (h0) (o0) (g0) (o2) (o3) (o4) (o5) (o6) ) (cwV 0 hts gd_law_c_X5_wipe rfl rfl rfl (by decide +kernel) ⟨(Nat.le_of_ble_eq_true rfl), (Nat.le_of_ble_eq_true rfl)⟩) (preV hE hK hP hD hS hA [0] rfl (by decide) [] rfl (va_recv hK hP (ci := 12) (q0 := 0) rfl rfl)) rfl rfl hl.1 rfl (lv_room (Nat.le_of_ble_eq_true rfl)) dL_law_1981 ⟨(Nat.le_of_ble_eq_true rfl), (Nat.le_of_ble_eq_true rfl)⟩) hS (fun q _ h => hFc q h) hFc (fun r_1 u t H1 locs ht hvm hw hB hz1 hk1 hS => ?_)
  try dsimp only at hw
  obtain ⟨hP, hD, hK⟩ := jn (wc := [(h0, .inr (12, [.ref o0, .int 0, .ref g0, .ref o2, .ref o3, .ref o4, .ref o5, .int 0, .ref o6]))]) (wr := [(g0, .inr (8, [.ref g1, .ref g2, .ref g3, .ref g4, .ref g5, .ref g6, .int 0, .int 0, .int 0, .int 0])), (m0, .inr (16, [.int 0, .ref kl, .null, .ref tl])), (kl, .inr (6, [.int 0, .ref (κ 0), .int 0])), (u0, .inl (cL, 1, .inr (.inl (fun _ => 0)))), (tl, .inr (6, [.int 0, .ref (κ 0), .int 0]))]) (w1 := []) (t1 := []) hP hD hK hS0 hA [0] [1, 2, 3, 4, 5] rfl rfl (by decide) (by decide) ht hvm hk1 hB
  generalize H1 = H at hP hS ⊢
  have hP : va_P D vwCl ([(g0, .inr (8, [.ref g1, .ref g2, .ref g3, .ref g4, .ref g5, .ref g6, .int 0, .int 0, .int 0, .int 0])), (m0, .inr (16, [.int 0, .ref kl, .null, .ref tl])), (kl, .inr (6, [.int 0, .ref (κ 0), .int 0])), (u0, .inl (cL, 1, .inr (.inl (fun _ => 0)))), (tl, .inr (6, [.int 0, .ref (κ 0), .int 0]))]) H := hP
  have hD : va_D (LA s) ([(g0, .inr (8, [.ref g1, .ref g2, .ref g3, .ref g4, .ref g5, .ref g6, .int 0, .int 0, .int 0, .int 0])), (m0, .inr (16, [.int 0, .ref kl, .null, .ref tl])), (kl, .inr (6, [.int 0, .ref (κ 0), .int 0])), (u0, .inl (cL, 1, .inr (.inl (fun _ => 0)))), (tl, .inr (6, [.int 0, .ref (κ 0), .int 0]))]) := hD
  have hK : va_K D vwCl [(cL, .long)] s := hK
  refine W.widen (k := 300) (n := 40000) (Nat.le_of_ble_eq_true rfl) (Nat.le_of_ble_eq_true rfl) ?_
  subst hw
  refine lv_aload_n hx hb dL_law_1984 rfl (lv_at hl 2 rfl) ?_
  have hS0 := hS
  have hFc := va_free (wc := [(m0, .inr (16, [.int 0, .ref kl, .null, .ref tl])), (tl, .inr (6, [.int 0, .ref (κ 0), .int 0]))]) hD hS hA [1, 4] rfl
  refine va_calli (va_runV (As := []) (rest := [.int 0]) ⟨hx, hb, hml, hown, hts⟩ (c_X9_wipe l κ D (H).size (m0) (kl) (tl) ) (cwV 0 hts gd_law_c_X9_wipe rfl rfl rfl (by decide +kernel) ⟨(Nat.le_of_ble_eq_true rfl), (Nat.le_of_ble_eq_true rfl)⟩) (preV hE hK hP hD hS hA [1, 4] rfl (by decide) [] rfl (va_recv hK hP (ci := 16) (q0 := 1) rfl rfl)) rfl rfl hl.1 rfl (lv_room (Nat.le_of_ble_eq_true rfl)) dL_law_1985 ⟨(Nat.le_of_ble_eq_true rfl), (Nat.le_of_ble_eq_true rfl)⟩) hS (fun q _ h => hFc q h) hFc (fun r_2 u t H1 locs ht hvm hw hB hz1 hk1 hS => ?_)
  try dsimp only at hw
  obtain ⟨hP, hD, hK⟩ := jn (wc := [(m0, .inr (16, [.int 0, .ref kl, .null, .ref tl])), (tl, .inr (6, [.int 0, .ref (κ 0), .int 0]))]) (wr := [(g0, .inr (8, [.ref g1, .ref g2, .ref g3, .ref g4, .ref g5, .ref g6, .int 0, .int 0, .int 0, .int 0])), (kl, .inr (6, [.int 0, .ref (κ 0), .int 0])), (u0, .inl (cL, 1, .inr (.inl (fun _ => 0))))]) (w1 := [(m0, .inr (16, [.int 0, .ref kl, .null, .ref tl]))]) (t1 := []) hP hD hK hS0 hA [1, 4] [0, 2, 3] rfl rfl (by decide) (by decide) ht hvm hk1 hB
  generalize H1 = H at hP hS ⊢
  have hP : va_P D vwCl ([(g0, .inr (8, [.ref g1, .ref g2, .ref g3, .ref g4, .ref g5, .ref g6, .int 0, .int 0, .int 0, .int 0])), (kl, .inr (6, [.int 0, .ref (κ 0), .int 0])), (u0, .inl (cL, 1, .inr (.inl (fun _ => 0)))), (m0, .inr (16, [.int 0, .ref kl, .null, .ref tl]))]) H := hP
  have hD : va_D (LA s) ([(g0, .inr (8, [.ref g1, .ref g2, .ref g3, .ref g4, .ref g5, .ref g6, .int 0, .int 0, .int 0, .int 0])), (kl, .inr (6, [.int 0, .ref (κ 0), .int 0])), (u0, .inl (cL, 1, .inr (.inl (fun _ => 0)))), (m0, .inr (16, [.int 0, .ref kl, .null, .ref tl]))]) := hD
  have hK : va_K D vwCl [(cL, .long)] s := hK
  refine W.widen (k := 300) (n := 40000) (Nat.le_of_ble_eq_true rfl) (Nat.le_of_ble_eq_true rfl) ?_
  subst hw
  refine lv_icmp_eq (tgt := 2351) hx hb dL_law_1988 (by decide) (fun _ => ?_) (fun c_1988 => absurd c_1988 (by decide))
  refine W.widen (k := 400) (n := 41000) (Nat.le_of_ble_eq_true rfl) (Nat.le_of_ble_eq_true rfl) ?_
  exact law_end C1 H locs ls hS (lv_sub hl [5, 0] rfl)

set_option maxHeartbeats 8000000 in
set_option maxRecDepth 100000 in
theorem law_checksum {p : Program} {l : Launch} {e : Env} {s : State} {m : MethodId} {below : List Frame} {meth : Method} {c : Code} {b : Nat} {xs : Nat → Int32} {κ : Nat → Nat} (C0 : law_At2 p l s m meth c b xs κ) {D : va_G} {h0 : Nat} {o0 : Nat} {g0 : Nat} {o2 : Nat} {o3 : Nat} {o4 : Nat} {o5 : Nat} {o6 : Nat} {g1 : Nat} {g2 : Nat} {g3 : Nat} {g4 : Nat} {g5 : Nat} {g6 : Nat} {m0 : Nat} {kl : Nat} {tl : Nat} {u0 : Nat} {w0 : Nat} {cL : ClassId}  (H : Heap) (locs : List Loc) (ls : Array Slot) (hK : va_K D vwCl [(cL, .long)] s) (hP : va_P D vwCl [(h0, .inr (12, [.ref o0, .int 0, .ref g0, .ref o2, .ref o3, .ref o4, .ref o5, .int 0, .ref o6])), (g0, .inr (8, [.ref g1, .ref g2, .ref g3, .ref g4, .ref g5, .ref g6, .int 0, .int 0, .int 0, .int 0])), (m0, .inr (16, [.int 0, .ref kl, .null, .ref tl])), (kl, .inr (6, [.int 0, .ref (κ 0), .int 0])), (u0, .inl (cL, 1, .inr (.inl (fun _ => 0))))] H) (hD : va_D (LA s) [(h0, .inr (12, [.ref o0, .int 0, .ref g0, .ref o2, .ref o3, .ref o4, .ref o5, .int 0, .ref o6])), (g0, .inr (8, [.ref g1, .ref g2, .ref g3, .ref g4, .ref g5, .ref g6, .int 0, .int 0, .int 0, .int 0])), (m0, .inr (16, [.int 0, .ref kl, .null, .ref tl])), (kl, .inr (6, [.int 0, .ref (κ 0), .int 0])), (u0, .inl (cL, 1, .inr (.inl (fun _ => 0))))]) (hS : va_S (LA s) s.heap H locs) (hl : lv_has ls 9 [(0, .ref b), (1, .ref h0), (2, .ref m0), (3, .ref u0), (4, .ref w0), (5, .int 0)]) : W p l e room_1 s m #[Value.ref b] below meth c H locs 300 40000 (lw_Z below #[Value.ref b] s) (F0 m 2193 ls []) := by
  have C1 := C0
  obtain ⟨hl0, hx, hb, hr, hml, hown, hts, hX, hbl, hlocks, hE⟩ := C0
  have hA : ∀ q : Nat, s.heap.size ≤ q → LA s q := fun _ h => h
  have hbA : ¬ LA s b := Nat.not_le.mpr hbl
  refine lv_aload_n hx hb dL_law_2193 rfl (lv_at hl 1 rfl) ?_
  have hS0 := hS
  have hFc := va_free (wc := [(h0, .inr (12, [.ref o0, .int 0, .ref g0, .ref o2, .ref o3, .ref o4, .ref o5, .int 0, .ref o6])), (g0, .inr (8, [.ref g1, .ref g2, .ref g3, .ref g4, .ref g5, .ref g6, .int 0, .int 0, .int 0, .int 0]))]) hD hS hA [0, 1] rfl
  refine va_calll (va_runV (As := []) (rest := []) ⟨hx, hb, hml, hown, hts⟩ (c_X5_checksum l κ D (H).size (h0) (o0) (g0) (o2) (o3) (o4) (o5) (o6) (g1) (g2) (g3) (g4) (g5) (g6) ) (cwV 0 hts gd_law_c_X5_checksum rfl rfl rfl (by decide +kernel) ⟨(Nat.le_of_ble_eq_true rfl), (Nat.le_of_ble_eq_true rfl)⟩) (preV hE hK hP hD hS hA [0, 1] rfl (by decide) [] rfl (va_recv hK hP (ci := 12) (q0 := 0) rfl rfl)) rfl rfl hl.1 rfl (lv_room (Nat.le_of_ble_eq_true rfl)) dL_law_2194 ⟨(Nat.le_of_ble_eq_true rfl), (Nat.le_of_ble_eq_true rfl)⟩) hS (fun q _ h => hFc q h) hFc (fun r_1 u t H1 locs ht hvm hw hB hz1 hk1 hS => ?_)
  try dsimp only at hw
  obtain ⟨hP, hD, hK⟩ := jn (wc := [(h0, .inr (12, [.ref o0, .int 0, .ref g0, .ref o2, .ref o3, .ref o4, .ref o5, .int 0, .ref o6])), (g0, .inr (8, [.ref g1, .ref g2, .ref g3, .ref g4, .ref g5, .ref g6, .int 0, .int 0, .int 0, .int 0]))]) (wr := [(m0, .inr (16, [.int 0, .ref kl, .null, .ref tl])), (kl, .inr (6, [.int 0, .ref (κ 0), .int 0])), (u0, .inl (cL, 1, .inr (.inl (fun _ => 0))))]) (w1 := []) (t1 := []) hP hD hK hS0 hA [0, 1] [2, 3, 4] rfl rfl (by decide) (by decide) ht hvm hk1 hB
  generalize H1 = H at hP hS ⊢
  have hP : va_P D vwCl ([(m0, .inr (16, [.int 0, .ref kl, .null, .ref tl])), (kl, .inr (6, [.int 0, .ref (κ 0), .int 0])), (u0, .inl (cL, 1, .inr (.inl (fun _ => 0))))]) H := hP
  have hD : va_D (LA s) ([(m0, .inr (16, [.int 0, .ref kl, .null, .ref tl])), (kl, .inr (6, [.int 0, .ref (κ 0), .int 0])), (u0, .inl (cL, 1, .inr (.inl (fun _ => 0))))]) := hD
  have hK : va_K D vwCl [(cL, .long)] s := hK
  refine W.widen (k := 300) (n := 40000) (Nat.le_of_ble_eq_true rfl) (Nat.le_of_ble_eq_true rfl) ?_
  subst hw
  refine lv_aload_n hx hb dL_law_2197 rfl (lv_at hl 2 rfl) ?_
  have hS0 := hS
  have hFc := va_free (wc := [(m0, .inr (16, [.int 0, .ref kl, .null, .ref tl]))]) hD hS hA [0] rfl
  refine va_calll (va_runV (As := []) (rest := [.long 7]) ⟨hx, hb, hml, hown, hts⟩ (c_X9_checksum l κ D (H).size (m0) (kl) (tl) ) (cwV 0 hts gd_law_c_X9_checksum rfl rfl rfl (by decide +kernel) ⟨(Nat.le_of_ble_eq_true rfl), (Nat.le_of_ble_eq_true rfl)⟩) (preV hE hK hP hD hS hA [0] rfl (by decide) [] rfl (va_recv hK hP (ci := 16) (q0 := 0) rfl rfl)) rfl rfl hl.1 rfl (lv_room (Nat.le_of_ble_eq_true rfl)) dL_law_2198 ⟨(Nat.le_of_ble_eq_true rfl), (Nat.le_of_ble_eq_true rfl)⟩) hS (fun q _ h => hFc q h) hFc (fun r_2 u t H1 locs ht hvm hw hB hz1 hk1 hS => ?_)
  try dsimp only at hw
  obtain ⟨hP, hD, hK⟩ := jn (wc := [(m0, .inr (16, [.int 0, .ref kl, .null, .ref tl]))]) (wr := [(kl, .inr (6, [.int 0, .ref (κ 0), .int 0])), (u0, .inl (cL, 1, .inr (.inl (fun _ => 0))))]) (w1 := [(m0, .inr (16, [.int 0, .ref kl, .null, .ref tl]))]) (t1 := []) hP hD hK hS0 hA [0] [1, 2] rfl rfl (by decide) (by decide) ht hvm hk1 hB
  generalize H1 = H at hP hS ⊢
  have hP : va_P D vwCl ([(kl, .inr (6, [.int 0, .ref (κ 0), .int 0])), (u0, .inl (cL, 1, .inr (.inl (fun _ => 0)))), (m0, .inr (16, [.int 0, .ref kl, .null, .ref tl]))]) H := hP
  have hD : va_D (LA s) ([(kl, .inr (6, [.int 0, .ref (κ 0), .int 0])), (u0, .inl (cL, 1, .inr (.inl (fun _ => 0)))), (m0, .inr (16, [.int 0, .ref kl, .null, .ref tl]))]) := hD
  have hK : va_K D vwCl [(cL, .long)] s := hK
  refine W.widen (k := 300) (n := 40000) (Nat.le_of_ble_eq_true rfl) (Nat.le_of_ble_eq_true rfl) ?_
  subst hw
  refine W.lcmp hx hb dL_law_2201 ?_
  refine lv_if_eq (tgt := 2351) hx hb dL_law_2202 (by decide) (fun c_2202 => ?_) (fun c_2202 => absurd ((lg_cmp_eq _ _).mpr rfl) c_2202)
  refine W.widen (k := 400) (n := 41000) (Nat.le_of_ble_eq_true rfl) (Nat.le_of_ble_eq_true rfl) ?_
  exact law_end C1 H locs ls hS (lv_sub hl [5, 0] rfl)

set_option maxHeartbeats 8000000 in
set_option maxRecDepth 100000 in
theorem law_isSound {p : Program} {l : Launch} {e : Env} {s : State} {m : MethodId} {below : List Frame} {meth : Method} {c : Code} {b : Nat} {xs : Nat → Int32} {κ : Nat → Nat} (C0 : law_At2 p l s m meth c b xs κ) {D : va_G} {h0 : Nat} {o0 : Nat} {g0 : Nat} {o2 : Nat} {o3 : Nat} {o4 : Nat} {o5 : Nat} {o6 : Nat} {g1 : Nat} {g2 : Nat} {g3 : Nat} {g4 : Nat} {g5 : Nat} {g6 : Nat} {m0 : Nat} {kl : Nat} {tl : Nat} {u0 : Nat} {w0 : Nat} {cL : ClassId}  (H : Heap) (locs : List Loc) (ls : Array Slot) (hK : va_K D vwCl [(cL, .long)] s) (hP : va_P D vwCl [(h0, .inr (12, [.ref o0, .int 0, .ref g0, .ref o2, .ref o3, .ref o4, .ref o5, .int 0, .ref o6])), (g0, .inr (8, [.ref g1, .ref g2, .ref g3, .ref g4, .ref g5, .ref g6, .int 0, .int 0, .int 0, .int 0])), (m0, .inr (16, [.int 0, .ref kl, .null, .ref tl])), (kl, .inr (6, [.int 0, .ref (κ 0), .int 0])), (u0, .inl (cL, 1, .inr (.inl (fun _ => 0))))] H) (hD : va_D (LA s) [(h0, .inr (12, [.ref o0, .int 0, .ref g0, .ref o2, .ref o3, .ref o4, .ref o5, .int 0, .ref o6])), (g0, .inr (8, [.ref g1, .ref g2, .ref g3, .ref g4, .ref g5, .ref g6, .int 0, .int 0, .int 0, .int 0])), (m0, .inr (16, [.int 0, .ref kl, .null, .ref tl])), (kl, .inr (6, [.int 0, .ref (κ 0), .int 0])), (u0, .inl (cL, 1, .inr (.inl (fun _ => 0))))]) (hS : va_S (LA s) s.heap H locs) (hl : lv_has ls 9 [(0, .ref b), (1, .ref h0), (2, .ref m0), (3, .ref u0), (4, .ref w0), (5, .int 0)]) : W p l e room_1 s m #[Value.ref b] below meth c H locs 300 40000 (lw_Z below #[Value.ref b] s) (F0 m 2338 ls []) := by
  have C1 := C0
  obtain ⟨hl0, hx, hb, hr, hml, hown, hts, hX, hbl, hlocks, hE⟩ := C0
  have hA : ∀ q : Nat, s.heap.size ≤ q → LA s q := fun _ h => h
  have hbA : ¬ LA s b := Nat.not_le.mpr hbl
  refine lv_aload_n hx hb dL_law_2338 rfl (lv_at hl 1 rfl) ?_
  have hS0 := hS
  have hFc := va_free (wc := [(h0, .inr (12, [.ref o0, .int 0, .ref g0, .ref o2, .ref o3, .ref o4, .ref o5, .int 0, .ref o6])), (g0, .inr (8, [.ref g1, .ref g2, .ref g3, .ref g4, .ref g5, .ref g6, .int 0, .int 0, .int 0, .int 0]))]) hD hS hA [0, 1] rfl
  refine va_calli (va_runV (As := []) (rest := []) ⟨hx, hb, hml, hown, hts⟩ (c_X5_isSound l κ D (H).size (h0) (o0) (g0) (o2) (o3) (o4) (o5) (o6) (g1) (g2) (g3) (g4) (g5) (g6) ) (cwV 0 hts gd_law_c_X5_isSound rfl rfl rfl (by decide +kernel) ⟨(Nat.le_of_ble_eq_true rfl), (Nat.le_of_ble_eq_true rfl)⟩) (preV hE hK hP hD hS hA [0, 1] rfl (by decide) [] rfl (va_recv hK hP (ci := 12) (q0 := 0) rfl rfl)) rfl rfl hl.1 rfl (lv_room (Nat.le_of_ble_eq_true rfl)) dL_law_2339 ⟨(Nat.le_of_ble_eq_true rfl), (Nat.le_of_ble_eq_true rfl)⟩) hS (fun q _ h => hFc q h) hFc (fun r_1 u t H1 locs ht hvm hw hB hz1 hk1 hS => ?_)
  try dsimp only at hw
  obtain ⟨hP, hD, hK⟩ := jn (wc := [(h0, .inr (12, [.ref o0, .int 0, .ref g0, .ref o2, .ref o3, .ref o4, .ref o5, .int 0, .ref o6])), (g0, .inr (8, [.ref g1, .ref g2, .ref g3, .ref g4, .ref g5, .ref g6, .int 0, .int 0, .int 0, .int 0]))]) (wr := [(m0, .inr (16, [.int 0, .ref kl, .null, .ref tl])), (kl, .inr (6, [.int 0, .ref (κ 0), .int 0])), (u0, .inl (cL, 1, .inr (.inl (fun _ => 0))))]) (w1 := []) (t1 := []) hP hD hK hS0 hA [0, 1] [2, 3, 4] rfl rfl (by decide) (by decide) ht hvm hk1 hB
  generalize H1 = H at hP hS ⊢
  have hP : va_P D vwCl ([(m0, .inr (16, [.int 0, .ref kl, .null, .ref tl])), (kl, .inr (6, [.int 0, .ref (κ 0), .int 0])), (u0, .inl (cL, 1, .inr (.inl (fun _ => 0))))]) H := hP
  have hD : va_D (LA s) ([(m0, .inr (16, [.int 0, .ref kl, .null, .ref tl])), (kl, .inr (6, [.int 0, .ref (κ 0), .int 0])), (u0, .inl (cL, 1, .inr (.inl (fun _ => 0))))]) := hD
  have hK : va_K D vwCl [(cL, .long)] s := hK
  refine W.widen (k := 300) (n := 40000) (Nat.le_of_ble_eq_true rfl) (Nat.le_of_ble_eq_true rfl) ?_
  subst hw
  refine lv_aload_n hx hb dL_law_2342 rfl (lv_at hl 2 rfl) ?_
  have hS0 := hS
  have hFc := va_free (wc := [(m0, .inr (16, [.int 0, .ref kl, .null, .ref tl]))]) hD hS hA [0] rfl
  refine va_calli (va_runV (As := []) (rest := [.int 1]) ⟨hx, hb, hml, hown, hts⟩ (c_X9_isSound l κ D (H).size (m0) (kl) (tl) ) (cwV 0 hts gd_law_c_X9_isSound rfl rfl rfl (by decide +kernel) ⟨(Nat.le_of_ble_eq_true rfl), (Nat.le_of_ble_eq_true rfl)⟩) (preV hE hK hP hD hS hA [0] rfl (by decide) [] rfl (va_recv hK hP (ci := 16) (q0 := 0) rfl rfl)) rfl rfl hl.1 rfl (lv_room (Nat.le_of_ble_eq_true rfl)) dL_law_2343 ⟨(Nat.le_of_ble_eq_true rfl), (Nat.le_of_ble_eq_true rfl)⟩) hS (fun q _ h => hFc q h) hFc (fun r_2 u t H1 locs ht hvm hw hB hz1 hk1 hS => ?_)
  try dsimp only at hw
  obtain ⟨hP, hD, hK⟩ := jn (wc := [(m0, .inr (16, [.int 0, .ref kl, .null, .ref tl]))]) (wr := [(kl, .inr (6, [.int 0, .ref (κ 0), .int 0])), (u0, .inl (cL, 1, .inr (.inl (fun _ => 0))))]) (w1 := [(m0, .inr (16, [.int 0, .ref kl, .null, .ref tl]))]) (t1 := []) hP hD hK hS0 hA [0] [1, 2] rfl rfl (by decide) (by decide) ht hvm hk1 hB
  generalize H1 = H at hP hS ⊢
  have hP : va_P D vwCl ([(kl, .inr (6, [.int 0, .ref (κ 0), .int 0])), (u0, .inl (cL, 1, .inr (.inl (fun _ => 0)))), (m0, .inr (16, [.int 0, .ref kl, .null, .ref tl]))]) H := hP
  have hD : va_D (LA s) ([(kl, .inr (6, [.int 0, .ref (κ 0), .int 0])), (u0, .inl (cL, 1, .inr (.inl (fun _ => 0)))), (m0, .inr (16, [.int 0, .ref kl, .null, .ref tl]))]) := hD
  have hK : va_K D vwCl [(cL, .long)] s := hK
  refine W.widen (k := 300) (n := 40000) (Nat.le_of_ble_eq_true rfl) (Nat.le_of_ble_eq_true rfl) ?_
  subst hw
  refine lv_icmp_eq (tgt := 2351) hx hb dL_law_2346 (by decide) (fun _ => ?_) (fun c_2346 => absurd c_2346 (by decide))
  refine W.widen (k := 400) (n := 41000) (Nat.le_of_ble_eq_true rfl) (Nat.le_of_ble_eq_true rfl) ?_
  exact law_end C1 H locs ls hS (lv_sub hl [5, 0] rfl)

set_option maxHeartbeats 8000000 in
set_option maxRecDepth 100000 in
theorem law_many {p : Program} {l : Launch} {e : Env} {s : State} {m : MethodId} {below : List Frame} {meth : Method} {c : Code} {b : Nat} {xs : Nat → Int32} {κ : Nat → Nat} (C0 : law_At2 p l s m meth c b xs κ) {D : va_G} {h0 : Nat} {o0 : Nat} {g0 : Nat} {o2 : Nat} {o3 : Nat} {o4 : Nat} {o5 : Nat} {o6 : Nat} {g1 : Nat} {g2 : Nat} {g3 : Nat} {g4 : Nat} {g5 : Nat} {g6 : Nat} {m0 : Nat} {kl : Nat} {tl : Nat} {u0 : Nat} {w0 : Nat} {cL : ClassId} {q0 : Nat} {cO : ClassId} {cJ : ClassId} {rr : Nat → Nat} {FF : Nat → Nat → Int64} (hF : ∀ k, k < 11 → ∀ z, z < 91 → FF k z = WW k z) (H : Heap) (locs : List Loc) (ls : Array Slot) (hK : va_K D vwCl [(cL, .long), (cO, .array .long), (cJ, .long)] s) (hP : va_P D vwCl [(h0, .inr (12, [.ref o0, .int 0, .ref g0, .ref o2, .ref o3, .ref o4, .ref o5, .int 0, .ref o6])), (g0, .inr (8, [.ref g1, .ref g2, .ref g3, .ref g4, .ref g5, .ref g6, .int 0, .int 0, .int 0, .int 0])), (m0, .inr (16, [.int 0, .ref kl, .null, .ref tl])), (kl, .inr (6, [.int 0, .ref (κ 0), .int 0])), (u0, .inl (cL, 1, .inr (.inl (fun _ => 0)))), (o4, .inr (10, [.ref q0])), (q0, .inl (cO, 11, .inr (.inr (.inr (.inr (fun i => if i < 11 then some (rr i) else none)))))), ((rr 0), .inl (cJ, 91, .inr (.inl (FF 0)))), ((rr 1), .inl (cJ, 91, .inr (.inl (FF 1)))), ((rr 2), .inl (cJ, 91, .inr (.inl (FF 2)))), ((rr 3), .inl (cJ, 91, .inr (.inl (FF 3)))), ((rr 4), .inl (cJ, 91, .inr (.inl (FF 4)))), ((rr 5), .inl (cJ, 91, .inr (.inl (FF 5)))), ((rr 6), .inl (cJ, 91, .inr (.inl (FF 6)))), ((rr 7), .inl (cJ, 91, .inr (.inl (FF 7)))), ((rr 8), .inl (cJ, 91, .inr (.inl (FF 8)))), ((rr 9), .inl (cJ, 91, .inr (.inl (FF 9)))), ((rr 10), .inl (cJ, 91, .inr (.inl (FF 10))))] H) (hD : va_D (LA s) [(h0, .inr (12, [.ref o0, .int 0, .ref g0, .ref o2, .ref o3, .ref o4, .ref o5, .int 0, .ref o6])), (g0, .inr (8, [.ref g1, .ref g2, .ref g3, .ref g4, .ref g5, .ref g6, .int 0, .int 0, .int 0, .int 0])), (m0, .inr (16, [.int 0, .ref kl, .null, .ref tl])), (kl, .inr (6, [.int 0, .ref (κ 0), .int 0])), (u0, .inl (cL, 1, .inr (.inl (fun _ => 0)))), (o4, .inr (10, [.ref q0])), (q0, .inl (cO, 11, .inr (.inr (.inr (.inr (fun i => if i < 11 then some (rr i) else none)))))), ((rr 0), .inl (cJ, 91, .inr (.inl (FF 0)))), ((rr 1), .inl (cJ, 91, .inr (.inl (FF 1)))), ((rr 2), .inl (cJ, 91, .inr (.inl (FF 2)))), ((rr 3), .inl (cJ, 91, .inr (.inl (FF 3)))), ((rr 4), .inl (cJ, 91, .inr (.inl (FF 4)))), ((rr 5), .inl (cJ, 91, .inr (.inl (FF 5)))), ((rr 6), .inl (cJ, 91, .inr (.inl (FF 6)))), ((rr 7), .inl (cJ, 91, .inr (.inl (FF 7)))), ((rr 8), .inl (cJ, 91, .inr (.inl (FF 8)))), ((rr 9), .inl (cJ, 91, .inr (.inl (FF 9)))), ((rr 10), .inl (cJ, 91, .inr (.inl (FF 10))))]) (hS : va_S (LA s) s.heap H locs) (hl : lv_has ls 9 [(0, .ref b), (1, .ref h0), (2, .ref m0), (3, .ref u0), (4, .ref w0), (5, .int 0)]) : W p l e room_1 s m #[Value.ref b] below meth c H locs 300 40000 (lw_Z below #[Value.ref b] s) (F0 m 1377 ls []) := by
  have C1 := C0
  obtain ⟨hl0, hx, hb, hr, hml, hown, hts, hX, hbl, hlocks, hE⟩ := C0
  have hA : ∀ q : Nat, s.heap.size ≤ q → LA s q := fun _ h => h
  have hbA : ¬ LA s b := Nat.not_le.mpr hbl
  by_cases hg : ((1 : Int32).toInt ≤ (xs 1).toInt ∧ (xs 1).toInt ≤ (10 : Int32).toInt) ∧ ((0 : Int32).toInt ≤ (xs 2).toInt ∧ (xs 2).toInt ≤ (50 : Int32).toInt)
  · have hg2 := hg
    rw [toI_1, toI_10, toI_0, toI_50] at hg2
    obtain ⟨hs, hs1, hs2, e0⟩ := natR (x := xs 1) (a := 1) (b := 10) ⟨by omega, by omega⟩
    obtain ⟨sd, sd1, sd2, e1⟩ := natR (x := xs 2) (a := 0) (b := 50) ⟨by omega, by omega⟩
    have h1s : 0 < hs := by omega
    have hhs : hs < 11 := by omega
    have hsd : sd < 51 := by omega
    refine lv_aload_n hx hb dL_law_1377 rfl (lv_at hl 1 rfl) ?_
    refine lv_aload_n hx hb dL_law_1378 rfl (lv_at hl 0 rfl) ?_
    refine lv_iload hx hb dL_law_1379 (lv_at hl 5 rfl) ?_
    refine lv_iconst (v := 1) hx hb dL_law_1381 (by decide) ?_
    refine lv_iadd hx hb dL_law_1382 ?_
    refine lv_topi (fun v_1 ev_1 => ?_)
    have ev_1 : v_1 = 1 := ev_1.trans (by decide)
    subst ev_1
    refine va_sld hx hb hX hbl hbA hS (i := 1) (by unfold vp_in; decide) dL_law_1383 ?_
    refine W.eq (g2 := F0 m 1384 ls [.int (xs 1), .ref h0]) rfl ?_
    refine lv_aload_n hx hb dL_law_1384 rfl (lv_at hl 0 rfl) ?_
    refine lv_iload hx hb dL_law_1385 (lv_at hl 5 rfl) ?_
    refine lv_iconst (v := 2) hx hb dL_law_1387 (by decide) ?_
    refine lv_iadd hx hb dL_law_1388 ?_
    refine lv_topi (fun v_2 ev_2 => ?_)
    have ev_2 : v_2 = 2 := ev_2.trans (by decide)
    subst ev_2
    refine va_sld hx hb hX hbl hbA hS (i := 2) (by unfold vp_in; decide) dL_law_1389 ?_
    refine W.eq (g2 := F0 m 1390 ls [.int (xs 2), .int (xs 1), .ref h0]) rfl ?_
    refine lv_aload_n hx hb dL_law_1390 rfl (lv_at hl 3 rfl) ?_
    have hS0 := hS
    have hFc := va_free (wc := [(h0, .inr (12, [.ref o0, .int 0, .ref g0, .ref o2, .ref o3, .ref o4, .ref o5, .int 0, .ref o6])), (o4, .inr (10, [.ref q0])), (q0, .inl (cO, 11, .inr (.inr (.inr (.inr (fun i => if i < 11 then some (rr i) else none)))))), ((rr 0), .inl (cJ, 91, .inr (.inl (FF 0)))), ((rr 1), .inl (cJ, 91, .inr (.inl (FF 1)))), ((rr 2), .inl (cJ, 91, .inr (.inl (FF 2)))), ((rr 3), .inl (cJ, 91, .inr (.inl (FF 3)))), ((rr 4), .inl (cJ, 91, .inr (.inl (FF 4)))), ((rr 5), .inl (cJ, 91, .inr (.inl (FF 5)))), ((rr 6), .inl (cJ, 91, .inr (.inl (FF 6)))), ((rr 7), .inl (cJ, 91, .inr (.inl (FF 7)))), ((rr 8), .inl (cJ, 91, .inr (.inl (FF 8)))), ((rr 9), .inl (cJ, 91, .inr (.inl (FF 9)))), ((rr 10), .inl (cJ, 91, .inr (.inl (FF 10)))), (u0, .inl (cL, 1, .inr (.inl (fun _ => 0))))]) hD hS hA [0, 5, 6, 7, 8, 9, 10, 11, 12, 13, 14, 15, 16, 17, 4] rfl
    refine va_calli (vx_runSW (As := [.ref h0, .int (xs 1), .int (xs 2), .ref u0]) (rest := []) ⟨hx, hb, hml, hown, hts⟩ (c_L_many_ok l κ D (H).size (h0) (o0) (g0) (o2) (o3) (o4) (o5) (o6) (q0) (cO) (cJ) (rr) (FF) (hs) (sd) ((xs 1)) ((xs 2)) (u0) (cL) ((fun _ => 0)) (e0) (e1) (h1s) (hhs) (hsd) (hF)) (vx_cwSW 4 hts gd_law_c_L_many_ok rfl rfl rfl (by decide +kernel) ⟨(Nat.le_of_ble_eq_true rfl), (Nat.le_of_ble_eq_true rfl)⟩) (preS hE hK hP hD hS hA [0, 5, 6, 7, 8, 9, 10, 11, 12, 13, 14, 15, 16, 17, 4] rfl (by decide) [1, 2, 0] rfl) rfl rfl hl.1 rfl (lv_room (Nat.le_of_ble_eq_true rfl)) dL_law_1391 ⟨(Nat.le_of_ble_eq_true rfl), (Nat.le_of_ble_eq_true rfl)⟩) hS (fun q _ h => hFc q h) hFc (fun r_3 u t H1 locs ht hvm hw hB hz1 hk1 hS => ?_)
    try dsimp only at hw
    obtain ⟨hP, hD, hK⟩ := jn (wc := [(h0, .inr (12, [.ref o0, .int 0, .ref g0, .ref o2, .ref o3, .ref o4, .ref o5, .int 0, .ref o6])), (o4, .inr (10, [.ref q0])), (q0, .inl (cO, 11, .inr (.inr (.inr (.inr (fun i => if i < 11 then some (rr i) else none)))))), ((rr 0), .inl (cJ, 91, .inr (.inl (FF 0)))), ((rr 1), .inl (cJ, 91, .inr (.inl (FF 1)))), ((rr 2), .inl (cJ, 91, .inr (.inl (FF 2)))), ((rr 3), .inl (cJ, 91, .inr (.inl (FF 3)))), ((rr 4), .inl (cJ, 91, .inr (.inl (FF 4)))), ((rr 5), .inl (cJ, 91, .inr (.inl (FF 5)))), ((rr 6), .inl (cJ, 91, .inr (.inl (FF 6)))), ((rr 7), .inl (cJ, 91, .inr (.inl (FF 7)))), ((rr 8), .inl (cJ, 91, .inr (.inl (FF 8)))), ((rr 9), .inl (cJ, 91, .inr (.inl (FF 9)))), ((rr 10), .inl (cJ, 91, .inr (.inl (FF 10)))), (u0, .inl (cL, 1, .inr (.inl (fun _ => 0))))]) (wr := [(g0, .inr (8, [.ref g1, .ref g2, .ref g3, .ref g4, .ref g5, .ref g6, .int 0, .int 0, .int 0, .int 0])), (m0, .inr (16, [.int 0, .ref kl, .null, .ref tl])), (kl, .inr (6, [.int 0, .ref (κ 0), .int 0]))]) (w1 := [(u0, .inl (cL, 1, .inr (.inl (vp_updL (fun _ => 0) 0 ((lN (WN hs sd)))))))]) (t1 := [(cL, .long)]) hP hD hK hS0 hA [0, 5, 6, 7, 8, 9, 10, 11, 12, 13, 14, 15, 16, 17, 4] [1, 2, 3] rfl rfl (by decide) (by decide) ht hvm hk1 hB
    generalize H1 = H at hP hS ⊢
    have hP : va_P D vwCl ([(g0, .inr (8, [.ref g1, .ref g2, .ref g3, .ref g4, .ref g5, .ref g6, .int 0, .int 0, .int 0, .int 0])), (m0, .inr (16, [.int 0, .ref kl, .null, .ref tl])), (kl, .inr (6, [.int 0, .ref (κ 0), .int 0])), (u0, .inl (cL, 1, .inr (.inl (vp_updL (fun _ => 0) 0 ((lN (WN hs sd)))))))]) H := hP
    have hD : va_D (LA s) ([(g0, .inr (8, [.ref g1, .ref g2, .ref g3, .ref g4, .ref g5, .ref g6, .int 0, .int 0, .int 0, .int 0])), (m0, .inr (16, [.int 0, .ref kl, .null, .ref tl])), (kl, .inr (6, [.int 0, .ref (κ 0), .int 0])), (u0, .inl (cL, 1, .inr (.inl (vp_updL (fun _ => 0) 0 ((lN (WN hs sd)))))))]) := hD
    have hK : va_K D vwCl [(cL, .long), (cO, .array .long), (cJ, .long), (cL, .long)] s := hK
    refine W.widen (k := 300) (n := 40000) (Nat.le_of_ble_eq_true rfl) (Nat.le_of_ble_eq_true rfl) ?_
    subst hw
    refine lv_istore (lv' := [(6, .int 0), (0, .ref b), (1, .ref h0), (2, .ref m0), (3, .ref u0), (4, .ref w0), (5, .int 0)]) hx hb dL_law_1394 hl (by decide) rfl (fun ls hl => ?_)
    refine lv_aload_n hx hb dL_law_1396 rfl (lv_at hl 3 rfl) ?_
    refine lv_aload_n hx hb dL_law_1397 rfl (lv_at hl 1 rfl) ?_
    refine lv_iload hx hb dL_law_1398 (lv_at hl 6 rfl) ?_
    refine lv_iconst (v := 1) hx hb dL_law_1400 (by decide) ?_
    refine lv_iadd hx hb dL_law_1401 ?_
    refine lv_topi (fun v_4 ev_4 => ?_)
    have ev_4 : v_4 = 1 := ev_4.trans (by decide)
    subst ev_4
    refine va_sld hx hb hX hbl hbA hS (i := 1) (by unfold vp_in; decide) dL_law_1402 ?_
    refine W.eq (g2 := F0 m 1403 ls [.int (xs 1), .ref m0]) rfl ?_
    refine lv_aload_n hx hb dL_law_1403 rfl (lv_at hl 1 rfl) ?_
    refine lv_iload hx hb dL_law_1404 (lv_at hl 6 rfl) ?_
    refine lv_iconst (v := 2) hx hb dL_law_1406 (by decide) ?_
    refine lv_iadd hx hb dL_law_1407 ?_
    refine lv_topi (fun v_5 ev_5 => ?_)
    have ev_5 : v_5 = 2 := ev_5.trans (by decide)
    subst ev_5
    refine va_sld hx hb hX hbl hbA hS (i := 2) (by unfold vp_in; decide) dL_law_1408 ?_
    refine W.eq (g2 := F0 m 1409 ls [.int (xs 2), .int (xs 1), .ref m0]) rfl ?_
    have hS0 := hS
    have hFc := va_free (wc := [(m0, .inr (16, [.int 0, .ref kl, .null, .ref tl]))]) hD hS hA [1] rfl
    refine va_calll (va_runV (As := [.int (xs 1), .int (xs 2)]) (rest := []) ⟨hx, hb, hml, hown, hts⟩ (c_X9_many_ok l κ D (H).size (m0) (kl) (tl) ((xs 1)) ((xs 2)) (hs) (sd) (e0) (e1) (h1s) (hhs) (hsd)) (cwV 2 hts gd_law_c_X9_many_ok rfl rfl rfl (by decide +kernel) ⟨(Nat.le_of_ble_eq_true rfl), (Nat.le_of_ble_eq_true rfl)⟩) (preV hE hK hP hD hS hA [1] rfl (by decide) [] rfl (va_recv hK hP (ci := 16) (q0 := 1) rfl rfl)) rfl rfl hl.1 rfl (lv_room (Nat.le_of_ble_eq_true rfl)) dL_law_1409 ⟨(Nat.le_of_ble_eq_true rfl), (Nat.le_of_ble_eq_true rfl)⟩) hS (fun q _ h => hFc q h) hFc (fun r_6 u t H1 locs ht hvm hw hB hz1 hk1 hS => ?_)
    try dsimp only at hw
    obtain ⟨hP, hD, hK⟩ := jn (wc := [(m0, .inr (16, [.int 0, .ref kl, .null, .ref tl]))]) (wr := [(g0, .inr (8, [.ref g1, .ref g2, .ref g3, .ref g4, .ref g5, .ref g6, .int 0, .int 0, .int 0, .int 0])), (kl, .inr (6, [.int 0, .ref (κ 0), .int 0])), (u0, .inl (cL, 1, .inr (.inl (vp_updL (fun _ => 0) 0 ((lN (WN hs sd)))))))]) (w1 := [(m0, .inr (16, [.int 0, .ref kl, .null, .ref tl]))]) (t1 := []) hP hD hK hS0 hA [1] [0, 2, 3] rfl rfl (by decide) (by decide) ht hvm hk1 hB
    generalize H1 = H at hP hS ⊢
    have hP : va_P D vwCl ([(g0, .inr (8, [.ref g1, .ref g2, .ref g3, .ref g4, .ref g5, .ref g6, .int 0, .int 0, .int 0, .int 0])), (kl, .inr (6, [.int 0, .ref (κ 0), .int 0])), (u0, .inl (cL, 1, .inr (.inl (vp_updL (fun _ => 0) 0 ((lN (WN hs sd))))))), (m0, .inr (16, [.int 0, .ref kl, .null, .ref tl]))]) H := hP
    have hD : va_D (LA s) ([(g0, .inr (8, [.ref g1, .ref g2, .ref g3, .ref g4, .ref g5, .ref g6, .int 0, .int 0, .int 0, .int 0])), (kl, .inr (6, [.int 0, .ref (κ 0), .int 0])), (u0, .inl (cL, 1, .inr (.inl (vp_updL (fun _ => 0) 0 ((lN (WN hs sd))))))), (m0, .inr (16, [.int 0, .ref kl, .null, .ref tl]))]) := hD
    have hK : va_K D vwCl [(cL, .long), (cO, .array .long), (cJ, .long), (cL, .long)] s := hK
    refine W.widen (k := 300) (n := 40000) (Nat.le_of_ble_eq_true rfl) (Nat.le_of_ble_eq_true rfl) ?_
    subst hw
    refine lv_lstore (lv' := [(7, .long (lN (WN hs sd))), (6, .int 0), (0, .ref b), (1, .ref h0), (2, .ref m0), (3, .ref u0), (4, .ref w0), (5, .int 0)]) hx hb dL_law_1412 hl (by decide) rfl (fun ls hl => ?_)
    refine lv_aload_n hx hb dL_law_1414 rfl (lv_at hl 4 rfl) ?_
    have hS0 := hS
    have hFc := va_free (wc := [(m0, .inr (16, [.int 0, .ref kl, .null, .ref tl]))]) hD hS hA [3] rfl
    refine va_calli (va_runV (As := []) (rest := []) ⟨hx, hb, hml, hown, hts⟩ (c_X9_thrown l κ D (H).size (m0) (kl) (tl) (0) ) (cwV 0 hts gd_law_c_X9_thrown rfl rfl rfl (by decide +kernel) ⟨(Nat.le_of_ble_eq_true rfl), (Nat.le_of_ble_eq_true rfl)⟩) (preV hE hK hP hD hS hA [3] rfl (by decide) [] rfl (va_recv hK hP (ci := 16) (q0 := 3) rfl rfl)) rfl rfl hl.1 rfl (lv_room (Nat.le_of_ble_eq_true rfl)) dL_law_1415 ⟨(Nat.le_of_ble_eq_true rfl), (Nat.le_of_ble_eq_true rfl)⟩) hS (fun q _ h => hFc q h) hFc (fun r_7 u t H1 locs ht hvm hw hB hz1 hk1 hS => ?_)
    try dsimp only at hw
    obtain ⟨hP, hD, hK⟩ := jn (wc := [(m0, .inr (16, [.int 0, .ref kl, .null, .ref tl]))]) (wr := [(g0, .inr (8, [.ref g1, .ref g2, .ref g3, .ref g4, .ref g5, .ref g6, .int 0, .int 0, .int 0, .int 0])), (kl, .inr (6, [.int 0, .ref (κ 0), .int 0])), (u0, .inl (cL, 1, .inr (.inl (vp_updL (fun _ => 0) 0 ((lN (WN hs sd)))))))]) (w1 := [(m0, .inr (16, [.int 0, .ref kl, .null, .ref tl]))]) (t1 := []) hP hD hK hS0 hA [3] [0, 1, 2] rfl rfl (by decide) (by decide) ht hvm hk1 hB
    generalize H1 = H at hP hS ⊢
    have hP : va_P D vwCl ([(g0, .inr (8, [.ref g1, .ref g2, .ref g3, .ref g4, .ref g5, .ref g6, .int 0, .int 0, .int 0, .int 0])), (kl, .inr (6, [.int 0, .ref (κ 0), .int 0])), (u0, .inl (cL, 1, .inr (.inl (vp_updL (fun _ => 0) 0 ((lN (WN hs sd))))))), (m0, .inr (16, [.int 0, .ref kl, .null, .ref tl]))]) H := hP
    have hD : va_D (LA s) ([(g0, .inr (8, [.ref g1, .ref g2, .ref g3, .ref g4, .ref g5, .ref g6, .int 0, .int 0, .int 0, .int 0])), (kl, .inr (6, [.int 0, .ref (κ 0), .int 0])), (u0, .inl (cL, 1, .inr (.inl (vp_updL (fun _ => 0) 0 ((lN (WN hs sd))))))), (m0, .inr (16, [.int 0, .ref kl, .null, .ref tl]))]) := hD
    have hK : va_K D vwCl [(cL, .long), (cO, .array .long), (cJ, .long), (cL, .long)] s := hK
    refine W.widen (k := 300) (n := 40000) (Nat.le_of_ble_eq_true rfl) (Nat.le_of_ble_eq_true rfl) ?_
    subst hw
    refine lv_iload hx hb dL_law_1418 (lv_at hl 1 rfl) ?_
    refine lv_icmp_eq (tgt := 1425) hx hb dL_law_1420 (by decide) (fun _ => ?_) (fun c_1420 => absurd c_1420 (by decide))
    refine lv_iload hx hb dL_law_1425 (lv_at hl 1 rfl) ?_
    refine lv_if_ne (tgt := 1441) hx hb dL_law_1427 (by decide) (fun c_1427 => absurd c_1427 (by decide)) (fun _ => ?_)
    refine lv_aload_n hx hb dL_law_1430 rfl (lv_at hl 5 rfl) ?_
    refine lv_iconst (v := 0) hx hb dL_law_1431 (by decide) ?_
    refine va_lald hx hb hK hP 2 0 rfl rfl (i := 0) (by unfold vp_in; decide) dL_law_1432 ?_
    refine lv_topl (fun v_8 ev_8 => ?_)
    have ev_8 : v_8 = (lN (WN hs sd)) := ev_8.trans (rfl)
    subst ev_8
    refine lv_lload hx hb dL_law_1433 (lv_at hl 0 rfl) ?_
    refine W.lcmp hx hb dL_law_1435 ?_
    refine lv_if_eq (tgt := 1441) hx hb dL_law_1436 (by decide) (fun c_1436 => ?_) (fun c_1436 => absurd ((lg_cmp_eq _ _).mpr rfl) c_1436)
    refine lv_goto (tgt := 2351) hx hb dL_law_1441 (by decide) ?_
    refine W.widen (k := 400) (n := 41000) (Nat.le_of_ble_eq_true rfl) (Nat.le_of_ble_eq_true rfl) ?_
    exact law_end C1 H locs ls hS (lv_sub hl [7, 2] rfl)
  · refine lv_aload_n hx hb dL_law_1377 rfl (lv_at hl 1 rfl) ?_
    refine lv_aload_n hx hb dL_law_1378 rfl (lv_at hl 0 rfl) ?_
    refine lv_iload hx hb dL_law_1379 (lv_at hl 5 rfl) ?_
    refine lv_iconst (v := 1) hx hb dL_law_1381 (by decide) ?_
    refine lv_iadd hx hb dL_law_1382 ?_
    refine lv_topi (fun v_9 ev_9 => ?_)
    have ev_9 : v_9 = 1 := ev_9.trans (by decide)
    subst ev_9
    refine va_sld hx hb hX hbl hbA hS (i := 1) (by unfold vp_in; decide) dL_law_1383 ?_
    refine W.eq (g2 := F0 m 1384 ls [.int (xs 1), .ref h0]) rfl ?_
    refine lv_aload_n hx hb dL_law_1384 rfl (lv_at hl 0 rfl) ?_
    refine lv_iload hx hb dL_law_1385 (lv_at hl 5 rfl) ?_
    refine lv_iconst (v := 2) hx hb dL_law_1387 (by decide) ?_
    refine lv_iadd hx hb dL_law_1388 ?_
    refine lv_topi (fun v_10 ev_10 => ?_)
    have ev_10 : v_10 = 2 := ev_10.trans (by decide)
    subst ev_10
    refine va_sld hx hb hX hbl hbA hS (i := 2) (by unfold vp_in; decide) dL_law_1389 ?_
    refine W.eq (g2 := F0 m 1390 ls [.int (xs 2), .int (xs 1), .ref h0]) rfl ?_
    refine lv_aload_n hx hb dL_law_1390 rfl (lv_at hl 3 rfl) ?_
    have hS0 := hS
    have hFc := va_free (wc := [(h0, .inr (12, [.ref o0, .int 0, .ref g0, .ref o2, .ref o3, .ref o4, .ref o5, .int 0, .ref o6])), (u0, .inl (cL, 1, .inr (.inl (fun _ => 0))))]) hD hS hA [0, 4] rfl
    refine va_calli (vx_runSW (As := [.ref h0, .int (xs 1), .int (xs 2), .ref u0]) (rest := []) ⟨hx, hb, hml, hown, hts⟩ (c_L_many_bad l hl0 κ D (H).size (h0) (o0) (g0) (o2) (o3) (o4) (o5) (o6) ((xs 1)) ((xs 2)) (u0) (cL) ((fun _ => 0)) (hg)) (vx_cwSW 4 hts gd_law_c_L_many_bad rfl rfl rfl (by decide +kernel) ⟨(Nat.le_of_ble_eq_true rfl), (Nat.le_of_ble_eq_true rfl)⟩) (preS hE hK hP hD hS hA [0, 4] rfl (by decide) [0] rfl) rfl rfl hl.1 rfl (lv_room (Nat.le_of_ble_eq_true rfl)) dL_law_1391 ⟨(Nat.le_of_ble_eq_true rfl), (Nat.le_of_ble_eq_true rfl)⟩) hS (fun q _ h => hFc q h) hFc (fun r_11 u t H1 locs ht hvm hw hB hz1 hk1 hS => ?_)
    try dsimp only at hw
    obtain ⟨hP, hD, hK⟩ := jn (wc := [(h0, .inr (12, [.ref o0, .int 0, .ref g0, .ref o2, .ref o3, .ref o4, .ref o5, .int 0, .ref o6])), (u0, .inl (cL, 1, .inr (.inl (fun _ => 0))))]) (wr := [(g0, .inr (8, [.ref g1, .ref g2, .ref g3, .ref g4, .ref g5, .ref g6, .int 0, .int 0, .int 0, .int 0])), (m0, .inr (16, [.int 0, .ref kl, .null, .ref tl])), (kl, .inr (6, [.int 0, .ref (κ 0), .int 0])), (o4, .inr (10, [.ref q0])), (q0, .inl (cO, 11, .inr (.inr (.inr (.inr (fun i => if i < 11 then some (rr i) else none)))))), ((rr 0), .inl (cJ, 91, .inr (.inl (FF 0)))), ((rr 1), .inl (cJ, 91, .inr (.inl (FF 1)))), ((rr 2), .inl (cJ, 91, .inr (.inl (FF 2)))), ((rr 3), .inl (cJ, 91, .inr (.inl (FF 3)))), ((rr 4), .inl (cJ, 91, .inr (.inl (FF 4)))), ((rr 5), .inl (cJ, 91, .inr (.inl (FF 5)))), ((rr 6), .inl (cJ, 91, .inr (.inl (FF 6)))), ((rr 7), .inl (cJ, 91, .inr (.inl (FF 7)))), ((rr 8), .inl (cJ, 91, .inr (.inl (FF 8)))), ((rr 9), .inl (cJ, 91, .inr (.inl (FF 9)))), ((rr 10), .inl (cJ, 91, .inr (.inl (FF 10))))]) (w1 := []) (t1 := []) hP hD hK hS0 hA [0, 4] [1, 2, 3, 5, 6, 7, 8, 9, 10, 11, 12, 13, 14, 15, 16, 17] rfl rfl (by decide) (by decide) ht hvm hk1 hB
    generalize H1 = H at hP hS ⊢
    have hP : va_P D vwCl ([(g0, .inr (8, [.ref g1, .ref g2, .ref g3, .ref g4, .ref g5, .ref g6, .int 0, .int 0, .int 0, .int 0])), (m0, .inr (16, [.int 0, .ref kl, .null, .ref tl])), (kl, .inr (6, [.int 0, .ref (κ 0), .int 0])), (o4, .inr (10, [.ref q0])), (q0, .inl (cO, 11, .inr (.inr (.inr (.inr (fun i => if i < 11 then some (rr i) else none)))))), ((rr 0), .inl (cJ, 91, .inr (.inl (FF 0)))), ((rr 1), .inl (cJ, 91, .inr (.inl (FF 1)))), ((rr 2), .inl (cJ, 91, .inr (.inl (FF 2)))), ((rr 3), .inl (cJ, 91, .inr (.inl (FF 3)))), ((rr 4), .inl (cJ, 91, .inr (.inl (FF 4)))), ((rr 5), .inl (cJ, 91, .inr (.inl (FF 5)))), ((rr 6), .inl (cJ, 91, .inr (.inl (FF 6)))), ((rr 7), .inl (cJ, 91, .inr (.inl (FF 7)))), ((rr 8), .inl (cJ, 91, .inr (.inl (FF 8)))), ((rr 9), .inl (cJ, 91, .inr (.inl (FF 9)))), ((rr 10), .inl (cJ, 91, .inr (.inl (FF 10))))]) H := hP
    have hD : va_D (LA s) ([(g0, .inr (8, [.ref g1, .ref g2, .ref g3, .ref g4, .ref g5, .ref g6, .int 0, .int 0, .int 0, .int 0])), (m0, .inr (16, [.int 0, .ref kl, .null, .ref tl])), (kl, .inr (6, [.int 0, .ref (κ 0), .int 0])), (o4, .inr (10, [.ref q0])), (q0, .inl (cO, 11, .inr (.inr (.inr (.inr (fun i => if i < 11 then some (rr i) else none)))))), ((rr 0), .inl (cJ, 91, .inr (.inl (FF 0)))), ((rr 1), .inl (cJ, 91, .inr (.inl (FF 1)))), ((rr 2), .inl (cJ, 91, .inr (.inl (FF 2)))), ((rr 3), .inl (cJ, 91, .inr (.inl (FF 3)))), ((rr 4), .inl (cJ, 91, .inr (.inl (FF 4)))), ((rr 5), .inl (cJ, 91, .inr (.inl (FF 5)))), ((rr 6), .inl (cJ, 91, .inr (.inl (FF 6)))), ((rr 7), .inl (cJ, 91, .inr (.inl (FF 7)))), ((rr 8), .inl (cJ, 91, .inr (.inl (FF 8)))), ((rr 9), .inl (cJ, 91, .inr (.inl (FF 9)))), ((rr 10), .inl (cJ, 91, .inr (.inl (FF 10))))]) := hD
    have hK : va_K D vwCl [(cL, .long), (cO, .array .long), (cJ, .long)] s := hK
    refine W.widen (k := 301) (n := 40006) (Nat.le_of_ble_eq_true rfl) (Nat.le_of_ble_eq_true rfl) ?_
    subst hw
    refine lv_istore (lv' := [(6, .int 1), (0, .ref b), (1, .ref h0), (2, .ref m0), (3, .ref u0), (4, .ref w0), (5, .int 0)]) hx hb dL_law_1394 hl (by decide) rfl (fun ls hl => ?_)
    refine lv_aload_n hx hb dL_law_1396 rfl (lv_at hl 3 rfl) ?_
    refine lv_aload_n hx hb dL_law_1397 rfl (lv_at hl 1 rfl) ?_
    refine lv_iload hx hb dL_law_1398 (lv_at hl 6 rfl) ?_
    refine lv_iconst (v := 1) hx hb dL_law_1400 (by decide) ?_
    refine lv_iadd hx hb dL_law_1401 ?_
    refine lv_topi (fun v_12 ev_12 => ?_)
    have ev_12 : v_12 = 1 := ev_12.trans (by decide)
    subst ev_12
    refine va_sld hx hb hX hbl hbA hS (i := 1) (by unfold vp_in; decide) dL_law_1402 ?_
    refine W.eq (g2 := F0 m 1403 ls [.int (xs 1), .ref m0]) rfl ?_
    refine lv_aload_n hx hb dL_law_1403 rfl (lv_at hl 1 rfl) ?_
    refine lv_iload hx hb dL_law_1404 (lv_at hl 6 rfl) ?_
    refine lv_iconst (v := 2) hx hb dL_law_1406 (by decide) ?_
    refine lv_iadd hx hb dL_law_1407 ?_
    refine lv_topi (fun v_13 ev_13 => ?_)
    have ev_13 : v_13 = 2 := ev_13.trans (by decide)
    subst ev_13
    refine va_sld hx hb hX hbl hbA hS (i := 2) (by unfold vp_in; decide) dL_law_1408 ?_
    refine W.eq (g2 := F0 m 1409 ls [.int (xs 2), .int (xs 1), .ref m0]) rfl ?_
    have hS0 := hS
    have hFc := va_free (wc := [(m0, .inr (16, [.int 0, .ref kl, .null, .ref tl]))]) hD hS hA [1] rfl
    refine va_calll (va_runV (As := [.int (xs 1), .int (xs 2)]) (rest := []) ⟨hx, hb, hml, hown, hts⟩ (c_X9_many_bad l κ D (H).size (m0) (kl) (tl) ((xs 1)) ((xs 2)) ((fun h9 => hg ⟨(w64 (xs 1) (by decide) (by decide)).mp h9.1, (w64 (xs 2) (by decide) (by decide)).mp h9.2⟩))) (cwV 2 hts gd_law_c_X9_many_bad rfl rfl rfl (by decide +kernel) ⟨(Nat.le_of_ble_eq_true rfl), (Nat.le_of_ble_eq_true rfl)⟩) (preV hE hK hP hD hS hA [1] rfl (by decide) [] rfl (va_recv hK hP (ci := 16) (q0 := 1) rfl rfl)) rfl rfl hl.1 rfl (lv_room (Nat.le_of_ble_eq_true rfl)) dL_law_1409 ⟨(Nat.le_of_ble_eq_true rfl), (Nat.le_of_ble_eq_true rfl)⟩) hS (fun q _ h => hFc q h) hFc (fun r_14 u t H1 locs ht hvm hw hB hz1 hk1 hS => ?_)
    try dsimp only at hw
    obtain ⟨hP, hD, hK⟩ := jn (wc := [(m0, .inr (16, [.int 0, .ref kl, .null, .ref tl]))]) (wr := [(g0, .inr (8, [.ref g1, .ref g2, .ref g3, .ref g4, .ref g5, .ref g6, .int 0, .int 0, .int 0, .int 0])), (kl, .inr (6, [.int 0, .ref (κ 0), .int 0])), (o4, .inr (10, [.ref q0])), (q0, .inl (cO, 11, .inr (.inr (.inr (.inr (fun i => if i < 11 then some (rr i) else none)))))), ((rr 0), .inl (cJ, 91, .inr (.inl (FF 0)))), ((rr 1), .inl (cJ, 91, .inr (.inl (FF 1)))), ((rr 2), .inl (cJ, 91, .inr (.inl (FF 2)))), ((rr 3), .inl (cJ, 91, .inr (.inl (FF 3)))), ((rr 4), .inl (cJ, 91, .inr (.inl (FF 4)))), ((rr 5), .inl (cJ, 91, .inr (.inl (FF 5)))), ((rr 6), .inl (cJ, 91, .inr (.inl (FF 6)))), ((rr 7), .inl (cJ, 91, .inr (.inl (FF 7)))), ((rr 8), .inl (cJ, 91, .inr (.inl (FF 8)))), ((rr 9), .inl (cJ, 91, .inr (.inl (FF 9)))), ((rr 10), .inl (cJ, 91, .inr (.inl (FF 10))))]) (w1 := [(m0, .inr (16, [.int 1, .ref kl, .null, .ref tl]))]) (t1 := []) hP hD hK hS0 hA [1] [0, 2, 3, 4, 5, 6, 7, 8, 9, 10, 11, 12, 13, 14, 15] rfl rfl (by decide) (by decide) ht hvm hk1 hB
    generalize H1 = H at hP hS ⊢
    have hP : va_P D vwCl ([(g0, .inr (8, [.ref g1, .ref g2, .ref g3, .ref g4, .ref g5, .ref g6, .int 0, .int 0, .int 0, .int 0])), (kl, .inr (6, [.int 0, .ref (κ 0), .int 0])), (o4, .inr (10, [.ref q0])), (q0, .inl (cO, 11, .inr (.inr (.inr (.inr (fun i => if i < 11 then some (rr i) else none)))))), ((rr 0), .inl (cJ, 91, .inr (.inl (FF 0)))), ((rr 1), .inl (cJ, 91, .inr (.inl (FF 1)))), ((rr 2), .inl (cJ, 91, .inr (.inl (FF 2)))), ((rr 3), .inl (cJ, 91, .inr (.inl (FF 3)))), ((rr 4), .inl (cJ, 91, .inr (.inl (FF 4)))), ((rr 5), .inl (cJ, 91, .inr (.inl (FF 5)))), ((rr 6), .inl (cJ, 91, .inr (.inl (FF 6)))), ((rr 7), .inl (cJ, 91, .inr (.inl (FF 7)))), ((rr 8), .inl (cJ, 91, .inr (.inl (FF 8)))), ((rr 9), .inl (cJ, 91, .inr (.inl (FF 9)))), ((rr 10), .inl (cJ, 91, .inr (.inl (FF 10)))), (m0, .inr (16, [.int 1, .ref kl, .null, .ref tl]))]) H := hP
    have hD : va_D (LA s) ([(g0, .inr (8, [.ref g1, .ref g2, .ref g3, .ref g4, .ref g5, .ref g6, .int 0, .int 0, .int 0, .int 0])), (kl, .inr (6, [.int 0, .ref (κ 0), .int 0])), (o4, .inr (10, [.ref q0])), (q0, .inl (cO, 11, .inr (.inr (.inr (.inr (fun i => if i < 11 then some (rr i) else none)))))), ((rr 0), .inl (cJ, 91, .inr (.inl (FF 0)))), ((rr 1), .inl (cJ, 91, .inr (.inl (FF 1)))), ((rr 2), .inl (cJ, 91, .inr (.inl (FF 2)))), ((rr 3), .inl (cJ, 91, .inr (.inl (FF 3)))), ((rr 4), .inl (cJ, 91, .inr (.inl (FF 4)))), ((rr 5), .inl (cJ, 91, .inr (.inl (FF 5)))), ((rr 6), .inl (cJ, 91, .inr (.inl (FF 6)))), ((rr 7), .inl (cJ, 91, .inr (.inl (FF 7)))), ((rr 8), .inl (cJ, 91, .inr (.inl (FF 8)))), ((rr 9), .inl (cJ, 91, .inr (.inl (FF 9)))), ((rr 10), .inl (cJ, 91, .inr (.inl (FF 10)))), (m0, .inr (16, [.int 1, .ref kl, .null, .ref tl]))]) := hD
    have hK : va_K D vwCl [(cL, .long), (cO, .array .long), (cJ, .long)] s := hK
    refine W.widen (k := 301) (n := 40006) (Nat.le_of_ble_eq_true rfl) (Nat.le_of_ble_eq_true rfl) ?_
    refine lv_lstore (lv' := [(7, .long r_14), (6, .int 1), (0, .ref b), (1, .ref h0), (2, .ref m0), (3, .ref u0), (4, .ref w0), (5, .int 0)]) hx hb dL_law_1412 hl (by decide) rfl (fun ls hl => ?_)
    refine lv_aload_n hx hb dL_law_1414 rfl (lv_at hl 4 rfl) ?_
    have hS0 := hS
    have hFc := va_free (wc := [(m0, .inr (16, [.int 1, .ref kl, .null, .ref tl]))]) hD hS hA [15] rfl
    refine va_calli (va_runV (As := []) (rest := []) ⟨hx, hb, hml, hown, hts⟩ (c_X9_thrown l κ D (H).size (m0) (kl) (tl) (1) ) (cwV 0 hts gd_law_c_X9_thrown rfl rfl rfl (by decide +kernel) ⟨(Nat.le_of_ble_eq_true rfl), (Nat.le_of_ble_eq_true rfl)⟩) (preV hE hK hP hD hS hA [15] rfl (by decide) [] rfl (va_recv hK hP (ci := 16) (q0 := 15) rfl rfl)) rfl rfl hl.1 rfl (lv_room (Nat.le_of_ble_eq_true rfl)) dL_law_1415 ⟨(Nat.le_of_ble_eq_true rfl), (Nat.le_of_ble_eq_true rfl)⟩) hS (fun q _ h => hFc q h) hFc (fun r_15 u t H1 locs ht hvm hw hB hz1 hk1 hS => ?_)
    try dsimp only at hw
    obtain ⟨hP, hD, hK⟩ := jn (wc := [(m0, .inr (16, [.int 1, .ref kl, .null, .ref tl]))]) (wr := [(g0, .inr (8, [.ref g1, .ref g2, .ref g3, .ref g4, .ref g5, .ref g6, .int 0, .int 0, .int 0, .int 0])), (kl, .inr (6, [.int 0, .ref (κ 0), .int 0])), (o4, .inr (10, [.ref q0])), (q0, .inl (cO, 11, .inr (.inr (.inr (.inr (fun i => if i < 11 then some (rr i) else none)))))), ((rr 0), .inl (cJ, 91, .inr (.inl (FF 0)))), ((rr 1), .inl (cJ, 91, .inr (.inl (FF 1)))), ((rr 2), .inl (cJ, 91, .inr (.inl (FF 2)))), ((rr 3), .inl (cJ, 91, .inr (.inl (FF 3)))), ((rr 4), .inl (cJ, 91, .inr (.inl (FF 4)))), ((rr 5), .inl (cJ, 91, .inr (.inl (FF 5)))), ((rr 6), .inl (cJ, 91, .inr (.inl (FF 6)))), ((rr 7), .inl (cJ, 91, .inr (.inl (FF 7)))), ((rr 8), .inl (cJ, 91, .inr (.inl (FF 8)))), ((rr 9), .inl (cJ, 91, .inr (.inl (FF 9)))), ((rr 10), .inl (cJ, 91, .inr (.inl (FF 10))))]) (w1 := [(m0, .inr (16, [.int 1, .ref kl, .null, .ref tl]))]) (t1 := []) hP hD hK hS0 hA [15] [0, 1, 2, 3, 4, 5, 6, 7, 8, 9, 10, 11, 12, 13, 14] rfl rfl (by decide) (by decide) ht hvm hk1 hB
    generalize H1 = H at hP hS ⊢
    have hP : va_P D vwCl ([(g0, .inr (8, [.ref g1, .ref g2, .ref g3, .ref g4, .ref g5, .ref g6, .int 0, .int 0, .int 0, .int 0])), (kl, .inr (6, [.int 0, .ref (κ 0), .int 0])), (o4, .inr (10, [.ref q0])), (q0, .inl (cO, 11, .inr (.inr (.inr (.inr (fun i => if i < 11 then some (rr i) else none)))))), ((rr 0), .inl (cJ, 91, .inr (.inl (FF 0)))), ((rr 1), .inl (cJ, 91, .inr (.inl (FF 1)))), ((rr 2), .inl (cJ, 91, .inr (.inl (FF 2)))), ((rr 3), .inl (cJ, 91, .inr (.inl (FF 3)))), ((rr 4), .inl (cJ, 91, .inr (.inl (FF 4)))), ((rr 5), .inl (cJ, 91, .inr (.inl (FF 5)))), ((rr 6), .inl (cJ, 91, .inr (.inl (FF 6)))), ((rr 7), .inl (cJ, 91, .inr (.inl (FF 7)))), ((rr 8), .inl (cJ, 91, .inr (.inl (FF 8)))), ((rr 9), .inl (cJ, 91, .inr (.inl (FF 9)))), ((rr 10), .inl (cJ, 91, .inr (.inl (FF 10)))), (m0, .inr (16, [.int 1, .ref kl, .null, .ref tl]))]) H := hP
    have hD : va_D (LA s) ([(g0, .inr (8, [.ref g1, .ref g2, .ref g3, .ref g4, .ref g5, .ref g6, .int 0, .int 0, .int 0, .int 0])), (kl, .inr (6, [.int 0, .ref (κ 0), .int 0])), (o4, .inr (10, [.ref q0])), (q0, .inl (cO, 11, .inr (.inr (.inr (.inr (fun i => if i < 11 then some (rr i) else none)))))), ((rr 0), .inl (cJ, 91, .inr (.inl (FF 0)))), ((rr 1), .inl (cJ, 91, .inr (.inl (FF 1)))), ((rr 2), .inl (cJ, 91, .inr (.inl (FF 2)))), ((rr 3), .inl (cJ, 91, .inr (.inl (FF 3)))), ((rr 4), .inl (cJ, 91, .inr (.inl (FF 4)))), ((rr 5), .inl (cJ, 91, .inr (.inl (FF 5)))), ((rr 6), .inl (cJ, 91, .inr (.inl (FF 6)))), ((rr 7), .inl (cJ, 91, .inr (.inl (FF 7)))), ((rr 8), .inl (cJ, 91, .inr (.inl (FF 8)))), ((rr 9), .inl (cJ, 91, .inr (.inl (FF 9)))), ((rr 10), .inl (cJ, 91, .inr (.inl (FF 10)))), (m0, .inr (16, [.int 1, .ref kl, .null, .ref tl]))]) := hD
    have hK : va_K D vwCl [(cL, .long), (cO, .array .long), (cJ, .long)] s := hK
    refine W.widen (k := 301) (n := 40006) (Nat.le_of_ble_eq_true rfl) (Nat.le_of_ble_eq_true rfl) ?_
    subst hw
    refine lv_iload hx hb dL_law_1418 (lv_at hl 1 rfl) ?_
    refine lv_icmp_eq (tgt := 1425) hx hb dL_law_1420 (by decide) (fun _ => ?_) (fun c_1420 => absurd c_1420 (by decide))
    refine lv_iload hx hb dL_law_1425 (lv_at hl 1 rfl) ?_
    refine lv_if_ne (tgt := 1441) hx hb dL_law_1427 (by decide) (fun _ => ?_) (fun c_1427 => absurd c_1427 (by decide))
    refine lv_goto (tgt := 2351) hx hb dL_law_1441 (by decide) ?_
    refine W.widen (k := 400) (n := 41000) (Nat.le_of_ble_eq_true rfl) (Nat.le_of_ble_eq_true rfl) ?_
    exact law_end C1 H locs ls hS (lv_sub hl [7, 2] rfl)

set_option maxHeartbeats 8000000 in
set_option maxRecDepth 100000 in
theorem law_inRow {p : Program} {l : Launch} {e : Env} {s : State} {m : MethodId} {below : List Frame} {meth : Method} {c : Code} {b : Nat} {xs : Nat → Int32} {κ : Nat → Nat} (C0 : law_At2 p l s m meth c b xs κ) {D : va_G} {h0 : Nat} {o0 : Nat} {g0 : Nat} {o2 : Nat} {o3 : Nat} {o4 : Nat} {o5 : Nat} {o6 : Nat} {g1 : Nat} {g2 : Nat} {g3 : Nat} {g4 : Nat} {g5 : Nat} {g6 : Nat} {m0 : Nat} {kl : Nat} {tl : Nat} {u0 : Nat} {w0 : Nat} {cL : ClassId} {q0 : Nat} {cO : ClassId} {cJ : ClassId} {rr : Nat → Nat} {FF : Nat → Nat → Int64} (hF : ∀ k, k < 11 → ∀ z, z < 91 → FF k z = WW k z) (H : Heap) (locs : List Loc) (ls : Array Slot) (hK : va_K D vwCl [(cL, .long), (cO, .array .long), (cJ, .long)] s) (hP : va_P D vwCl [(h0, .inr (12, [.ref o0, .int 0, .ref g0, .ref o2, .ref o3, .ref o4, .ref o5, .int 0, .ref o6])), (g0, .inr (8, [.ref g1, .ref g2, .ref g3, .ref g4, .ref g5, .ref g6, .int 0, .int 0, .int 0, .int 0])), (m0, .inr (16, [.int 0, .ref kl, .null, .ref tl])), (kl, .inr (6, [.int 0, .ref (κ 0), .int 0])), (u0, .inl (cL, 1, .inr (.inl (fun _ => 0)))), (o4, .inr (10, [.ref q0])), (q0, .inl (cO, 11, .inr (.inr (.inr (.inr (fun i => if i < 11 then some (rr i) else none)))))), ((rr 0), .inl (cJ, 91, .inr (.inl (FF 0)))), ((rr 1), .inl (cJ, 91, .inr (.inl (FF 1)))), ((rr 2), .inl (cJ, 91, .inr (.inl (FF 2)))), ((rr 3), .inl (cJ, 91, .inr (.inl (FF 3)))), ((rr 4), .inl (cJ, 91, .inr (.inl (FF 4)))), ((rr 5), .inl (cJ, 91, .inr (.inl (FF 5)))), ((rr 6), .inl (cJ, 91, .inr (.inl (FF 6)))), ((rr 7), .inl (cJ, 91, .inr (.inl (FF 7)))), ((rr 8), .inl (cJ, 91, .inr (.inl (FF 8)))), ((rr 9), .inl (cJ, 91, .inr (.inl (FF 9)))), ((rr 10), .inl (cJ, 91, .inr (.inl (FF 10))))] H) (hD : va_D (LA s) [(h0, .inr (12, [.ref o0, .int 0, .ref g0, .ref o2, .ref o3, .ref o4, .ref o5, .int 0, .ref o6])), (g0, .inr (8, [.ref g1, .ref g2, .ref g3, .ref g4, .ref g5, .ref g6, .int 0, .int 0, .int 0, .int 0])), (m0, .inr (16, [.int 0, .ref kl, .null, .ref tl])), (kl, .inr (6, [.int 0, .ref (κ 0), .int 0])), (u0, .inl (cL, 1, .inr (.inl (fun _ => 0)))), (o4, .inr (10, [.ref q0])), (q0, .inl (cO, 11, .inr (.inr (.inr (.inr (fun i => if i < 11 then some (rr i) else none)))))), ((rr 0), .inl (cJ, 91, .inr (.inl (FF 0)))), ((rr 1), .inl (cJ, 91, .inr (.inl (FF 1)))), ((rr 2), .inl (cJ, 91, .inr (.inl (FF 2)))), ((rr 3), .inl (cJ, 91, .inr (.inl (FF 3)))), ((rr 4), .inl (cJ, 91, .inr (.inl (FF 4)))), ((rr 5), .inl (cJ, 91, .inr (.inl (FF 5)))), ((rr 6), .inl (cJ, 91, .inr (.inl (FF 6)))), ((rr 7), .inl (cJ, 91, .inr (.inl (FF 7)))), ((rr 8), .inl (cJ, 91, .inr (.inl (FF 8)))), ((rr 9), .inl (cJ, 91, .inr (.inl (FF 9)))), ((rr 10), .inl (cJ, 91, .inr (.inl (FF 10))))]) (hS : va_S (LA s) s.heap H locs) (hl : lv_has ls 9 [(0, .ref b), (1, .ref h0), (2, .ref m0), (3, .ref u0), (4, .ref w0), (5, .int 0)]) : W p l e room_1 s m #[Value.ref b] below meth c H locs 300 40000 (lw_Z below #[Value.ref b] s) (F0 m 1487 ls []) := by
  have C1 := C0
  obtain ⟨hl0, hx, hb, hr, hml, hown, hts, hX, hbl, hlocks, hE⟩ := C0
  have hA : ∀ q : Nat, s.heap.size ≤ q → LA s q := fun _ h => h
  have hbA : ¬ LA s b := Nat.not_le.mpr hbl
  refine lv_aload_n hx hb dL_law_1487 rfl (lv_at hl 1 rfl) ?_
  refine lv_aload_n hx hb dL_law_1488 rfl (lv_at hl 0 rfl) ?_
  refine lv_iload hx hb dL_law_1489 (lv_at hl 5 rfl) ?_
  refine lv_iconst (v := 1) hx hb dL_law_1491 (by decide) ?_
  refine lv_iadd hx hb dL_law_1492 ?_
  refine lv_topi (fun v_1 ev_1 => ?_)
  have ev_1 : v_1 = 1 := ev_1.trans (by decide)
  subst ev_1
  refine va_sld hx hb hX hbl hbA hS (i := 1) (by unfold vp_in; decide) dL_law_1493 ?_
  refine W.eq (g2 := F0 m 1494 ls [.int (xs 1), .ref h0]) rfl ?_
  refine lv_aload_n hx hb dL_law_1494 rfl (lv_at hl 0 rfl) ?_
  refine lv_iload hx hb dL_law_1495 (lv_at hl 5 rfl) ?_
  refine lv_iconst (v := 2) hx hb dL_law_1497 (by decide) ?_
  refine lv_iadd hx hb dL_law_1498 ?_
  refine lv_topi (fun v_2 ev_2 => ?_)
  have ev_2 : v_2 = 2 := ev_2.trans (by decide)
  subst ev_2
  refine va_sld hx hb hX hbl hbA hS (i := 2) (by unfold vp_in; decide) dL_law_1499 ?_
  refine W.eq (g2 := F0 m 1500 ls [.int (xs 2), .int (xs 1), .ref h0]) rfl ?_
  refine lv_aload_n hx hb dL_law_1500 rfl (lv_at hl 0 rfl) ?_
  refine lv_iload hx hb dL_law_1501 (lv_at hl 5 rfl) ?_
  refine lv_iconst (v := 3) hx hb dL_law_1503 (by decide) ?_
  refine lv_iadd hx hb dL_law_1504 ?_
  refine lv_topi (fun v_3 ev_3 => ?_)
  have ev_3 : v_3 = 3 := ev_3.trans (by decide)
  subst ev_3
  refine va_sld hx hb hX hbl hbA hS (i := 3) (by unfold vp_in; decide) dL_law_1505 ?_
  refine W.eq (g2 := F0 m 1506 ls [.int (xs 3), .int (xs 2), .int (xs 1), .ref h0]) rfl ?_
  refine lv_i2l (v := ((xs 3)).toInt64) hx hb dL_law_1506 rfl ?_
  refine lv_bipush (v := 32) hx hb dL_law_1507 (by decide) ?_
  refine lv_lshl (v := ((((xs 3)).toInt64) <<< ((32 : Int32).toInt64 &&& 63))) hx hb dL_law_1509 rfl ?_
  refine lv_aload_n hx hb dL_law_1510 rfl (lv_at hl 0 rfl) ?_
  refine lv_iload hx hb dL_law_1511 (lv_at hl 5 rfl) ?_
  refine lv_iconst (v := 4) hx hb dL_law_1513 (by decide) ?_
  refine lv_iadd hx hb dL_law_1514 ?_
  refine lv_topi (fun v_4 ev_4 => ?_)
  have ev_4 : v_4 = 4 := ev_4.trans (by decide)
  subst ev_4
  refine va_sld hx hb hX hbl hbA hS (i := 4) (by unfold vp_in; decide) dL_law_1515 ?_
  refine W.eq (g2 := F0 m 1516 ls [.int (xs 4), .long ((((xs 3)).toInt64) <<< ((32 : Int32).toInt64 &&& 63)), .int (xs 2), .int (xs 1), .ref h0]) rfl ?_
  refine lv_i2l (v := ((xs 4)).toInt64) hx hb dL_law_1516 rfl ?_
  refine lv_ldc2 (v := 4294967295) hx hb hown (hts (.constantLong RL 222 (4294967295)) (List.mem_of_getElem? (i := 2048) (by decide +kernel))) dL_law_1517 ?_
  refine lv_land hx hb dL_law_1520 ?_
  refine lv_lor hx hb dL_law_1521 ?_
  refine lv_aload_n hx hb dL_law_1522 rfl (lv_at hl 0 rfl) ?_
  refine lv_iload hx hb dL_law_1523 (lv_at hl 5 rfl) ?_
  refine lv_iconst (v := 5) hx hb dL_law_1525 (by decide) ?_
  refine lv_iadd hx hb dL_law_1526 ?_
  refine lv_topi (fun v_5 ev_5 => ?_)
  have ev_5 : v_5 = 5 := ev_5.trans (by decide)
  subst ev_5
  refine va_sld hx hb hX hbl hbA hS (i := 5) (by unfold vp_in; decide) dL_law_1527 ?_
  refine W.eq (g2 := F0 m 1528 ls [.int (xs 5), .long (((((xs 3)).toInt64) <<< ((32 : Int32).toInt64 &&& 63)) ||| ((((xs 4)).toInt64) &&& 4294967295)), .int (xs 2), .int (xs 1), .ref h0]) rfl ?_
  refine lv_aload_n hx hb dL_law_1528 rfl (lv_at hl 3 rfl) ?_
  by_cases hg : ((1 : Int32).toInt ≤ (xs 1).toInt ∧ (xs 1).toInt ≤ (10 : Int32).toInt) ∧ ((0 : Int32).toInt ≤ (xs 2).toInt ∧ (xs 2).toInt ≤ (50 : Int32).toInt)
  · have hg2 := hg
    rw [toI_1, toI_10, toI_0, toI_50] at hg2
    obtain ⟨hs, hs1, hs2, e0⟩ := natR (x := xs 1) (a := 1) (b := 10) ⟨by omega, by omega⟩
    obtain ⟨sd, sd1, sd2, e1⟩ := natR (x := xs 2) (a := 0) (b := 50) ⟨by omega, by omega⟩
    have h1s : 0 < hs := by omega
    have hhs : hs < 11 := by omega
    have hsd : sd < 51 := by omega
    by_cases hC : 0 ≤ ((((((xs 3)).toInt64) <<< ((32 : Int32).toInt64 &&& 63)) ||| ((((xs 4)).toInt64) &&& 4294967295))).toInt ∧ ((((((xs 3)).toInt64) <<< ((32 : Int32).toInt64 &&& 63)) ||| ((((xs 4)).toInt64) &&& 4294967295))).toInt < (WN hs sd : Int)
    · obtain ⟨nn, hnn, e2⟩ := natL hC
      by_cases hH : 0 ≤ (xs 5).toInt ∧ (xs 5).toInt < (hs : Int)
      · obtain ⟨kk, hk1, hk2, e3⟩ := natR (x := xs 5) (a := 0) (b := hs - 1) ⟨by omega, by omega⟩
        have hkk : kk < hs := by omega
        have hS0 := hS
        have hFc := va_free (wc := [(h0, .inr (12, [.ref o0, .int 0, .ref g0, .ref o2, .ref o3, .ref o4, .ref o5, .int 0, .ref o6])), (o4, .inr (10, [.ref q0])), (q0, .inl (cO, 11, .inr (.inr (.inr (.inr (fun i => if i < 11 then some (rr i) else none)))))), ((rr 0), .inl (cJ, 91, .inr (.inl (FF 0)))), ((rr 1), .inl (cJ, 91, .inr (.inl (FF 1)))), ((rr 2), .inl (cJ, 91, .inr (.inl (FF 2)))), ((rr 3), .inl (cJ, 91, .inr (.inl (FF 3)))), ((rr 4), .inl (cJ, 91, .inr (.inl (FF 4)))), ((rr 5), .inl (cJ, 91, .inr (.inl (FF 5)))), ((rr 6), .inl (cJ, 91, .inr (.inl (FF 6)))), ((rr 7), .inl (cJ, 91, .inr (.inl (FF 7)))), ((rr 8), .inl (cJ, 91, .inr (.inl (FF 8)))), ((rr 9), .inl (cJ, 91, .inr (.inl (FF 9)))), ((rr 10), .inl (cJ, 91, .inr (.inl (FF 10)))), (u0, .inl (cL, 1, .inr (.inl (fun _ => 0))))]) hD hS hA [0, 5, 6, 7, 8, 9, 10, 11, 12, 13, 14, 15, 16, 17, 4] rfl
        refine va_calli (vx_runSW (As := [.ref h0, .int (xs 1), .int (xs 2), .long (((((xs 3)).toInt64) <<< ((32 : Int32).toInt64 &&& 63)) ||| ((((xs 4)).toInt64) &&& 4294967295)), .int (xs 5), .ref u0]) (rest := []) ⟨hx, hb, hml, hown, hts⟩ (c_L_inRow_ok l κ D (H).size (h0) (o0) (g0) (o2) (o3) (o4) (o5) (o6) (q0) (cO) (cJ) (rr) (FF) (hs) (sd) (nn) (kk) ((xs 1)) ((xs 2)) ((((((xs 3)).toInt64) <<< ((32 : Int32).toInt64 &&& 63)) ||| ((((xs 4)).toInt64) &&& 4294967295))) ((xs 5)) (u0) (cL) ((fun _ => 0)) (e0) (e1) (h1s) (hhs) (hsd) (e2) (hnn) (e3) (hkk) (hF)) (vx_cwSW 6 hts gd_law_c_L_inRow_ok rfl rfl rfl (by decide +kernel) ⟨(Nat.le_of_ble_eq_true rfl), (Nat.le_of_ble_eq_true rfl)⟩) (preS hE hK hP hD hS hA [0, 5, 6, 7, 8, 9, 10, 11, 12, 13, 14, 15, 16, 17, 4] rfl (by decide) [1, 2, 0] rfl) rfl rfl hl.1 rfl (lv_room (Nat.le_of_ble_eq_true rfl)) dL_law_1529 ⟨(Nat.le_of_ble_eq_true rfl), (Nat.le_of_ble_eq_true rfl)⟩) hS (fun q _ h => hFc q h) hFc (fun r_6 u t H1 locs ht hvm hw hB hz1 hk1 hS => ?_)
        try dsimp only at hw
        obtain ⟨hP, hD, hK⟩ := jn (wc := [(h0, .inr (12, [.ref o0, .int 0, .ref g0, .ref o2, .ref o3, .ref o4, .ref o5, .int 0, .ref o6])), (o4, .inr (10, [.ref q0])), (q0, .inl (cO, 11, .inr (.inr (.inr (.inr (fun i => if i < 11 then some (rr i) else none)))))), ((rr 0), .inl (cJ, 91, .inr (.inl (FF 0)))), ((rr 1), .inl (cJ, 91, .inr (.inl (FF 1)))), ((rr 2), .inl (cJ, 91, .inr (.inl (FF 2)))), ((rr 3), .inl (cJ, 91, .inr (.inl (FF 3)))), ((rr 4), .inl (cJ, 91, .inr (.inl (FF 4)))), ((rr 5), .inl (cJ, 91, .inr (.inl (FF 5)))), ((rr 6), .inl (cJ, 91, .inr (.inl (FF 6)))), ((rr 7), .inl (cJ, 91, .inr (.inl (FF 7)))), ((rr 8), .inl (cJ, 91, .inr (.inl (FF 8)))), ((rr 9), .inl (cJ, 91, .inr (.inl (FF 9)))), ((rr 10), .inl (cJ, 91, .inr (.inl (FF 10)))), (u0, .inl (cL, 1, .inr (.inl (fun _ => 0))))]) (wr := [(g0, .inr (8, [.ref g1, .ref g2, .ref g3, .ref g4, .ref g5, .ref g6, .int 0, .int 0, .int 0, .int 0])), (m0, .inr (16, [.int 0, .ref kl, .null, .ref tl])), (kl, .inr (6, [.int 0, .ref (κ 0), .int 0]))]) (w1 := [(u0, .inl (cL, 1, .inr (.inl (vp_updL (fun _ => 0) 0 (((nI (IR hs kk sd nn)).toInt64))))))]) (t1 := [(cL, .long)]) hP hD hK hS0 hA [0, 5, 6, 7, 8, 9, 10, 11, 12, 13, 14, 15, 16, 17, 4] [1, 2, 3] rfl rfl (by decide) (by decide) ht hvm hk1 hB
        generalize H1 = H at hP hS ⊢
        have hP : va_P D vwCl ([(g0, .inr (8, [.ref g1, .ref g2, .ref g3, .ref g4, .ref g5, .ref g6, .int 0, .int 0, .int 0, .int 0])), (m0, .inr (16, [.int 0, .ref kl, .null, .ref tl])), (kl, .inr (6, [.int 0, .ref (κ 0), .int 0])), (u0, .inl (cL, 1, .inr (.inl (vp_updL (fun _ => 0) 0 (((nI (IR hs kk sd nn)).toInt64))))))]) H := hP
        have hD : va_D (LA s) ([(g0, .inr (8, [.ref g1, .ref g2, .ref g3, .ref g4, .ref g5, .ref g6, .int 0, .int 0, .int 0, .int 0])), (m0, .inr (16, [.int 0, .ref kl, .null, .ref tl])), (kl, .inr (6, [.int 0, .ref (κ 0), .int 0])), (u0, .inl (cL, 1, .inr (.inl (vp_updL (fun _ => 0) 0 (((nI (IR hs kk sd nn)).toInt64))))))]) := hD
        have hK : va_K D vwCl [(cL, .long), (cO, .array .long), (cJ, .long), (cL, .long)] s := hK
        refine W.widen (k := 300) (n := 40000) (Nat.le_of_ble_eq_true rfl) (Nat.le_of_ble_eq_true rfl) ?_
        subst hw
        refine lv_istore (lv' := [(6, .int 0), (0, .ref b), (1, .ref h0), (2, .ref m0), (3, .ref u0), (4, .ref w0), (5, .int 0)]) hx hb dL_law_1532 hl (by decide) rfl (fun ls hl => ?_)
        refine lv_aload_n hx hb dL_law_1534 rfl (lv_at hl 3 rfl) ?_
        refine lv_aload_n hx hb dL_law_1535 rfl (lv_at hl 1 rfl) ?_
        refine lv_iload hx hb dL_law_1536 (lv_at hl 6 rfl) ?_
        refine lv_iconst (v := 1) hx hb dL_law_1538 (by decide) ?_
        refine lv_iadd hx hb dL_law_1539 ?_
        refine lv_topi (fun v_7 ev_7 => ?_)
        have ev_7 : v_7 = 1 := ev_7.trans (by decide)
        subst ev_7
        refine va_sld hx hb hX hbl hbA hS (i := 1) (by unfold vp_in; decide) dL_law_1540 ?_
        refine W.eq (g2 := F0 m 1541 ls [.int (xs 1), .ref m0]) rfl ?_
        refine lv_aload_n hx hb dL_law_1541 rfl (lv_at hl 1 rfl) ?_
        refine lv_iload hx hb dL_law_1542 (lv_at hl 6 rfl) ?_
        refine lv_iconst (v := 2) hx hb dL_law_1544 (by decide) ?_
        refine lv_iadd hx hb dL_law_1545 ?_
        refine lv_topi (fun v_8 ev_8 => ?_)
        have ev_8 : v_8 = 2 := ev_8.trans (by decide)
        subst ev_8
        refine va_sld hx hb hX hbl hbA hS (i := 2) (by unfold vp_in; decide) dL_law_1546 ?_
        refine W.eq (g2 := F0 m 1547 ls [.int (xs 2), .int (xs 1), .ref m0]) rfl ?_
        refine lv_aload_n hx hb dL_law_1547 rfl (lv_at hl 1 rfl) ?_
        refine lv_iload hx hb dL_law_1548 (lv_at hl 6 rfl) ?_
        refine lv_iconst (v := 3) hx hb dL_law_1550 (by decide) ?_
        refine lv_iadd hx hb dL_law_1551 ?_
        refine lv_topi (fun v_9 ev_9 => ?_)
        have ev_9 : v_9 = 3 := ev_9.trans (by decide)
        subst ev_9
        refine va_sld hx hb hX hbl hbA hS (i := 3) (by unfold vp_in; decide) dL_law_1552 ?_
        refine W.eq (g2 := F0 m 1553 ls [.int (xs 3), .int (xs 2), .int (xs 1), .ref m0]) rfl ?_
        refine lv_i2l (v := ((xs 3)).toInt64) hx hb dL_law_1553 rfl ?_
        refine lv_bipush (v := 32) hx hb dL_law_1554 (by decide) ?_
        refine lv_lshl (v := ((((xs 3)).toInt64) <<< ((32 : Int32).toInt64 &&& 63))) hx hb dL_law_1556 rfl ?_
        refine lv_aload_n hx hb dL_law_1557 rfl (lv_at hl 1 rfl) ?_
        refine lv_iload hx hb dL_law_1558 (lv_at hl 6 rfl) ?_
        refine lv_iconst (v := 4) hx hb dL_law_1560 (by decide) ?_
        refine lv_iadd hx hb dL_law_1561 ?_
        refine lv_topi (fun v_10 ev_10 => ?_)
        have ev_10 : v_10 = 4 := ev_10.trans (by decide)
        subst ev_10
        refine va_sld hx hb hX hbl hbA hS (i := 4) (by unfold vp_in; decide) dL_law_1562 ?_
        refine W.eq (g2 := F0 m 1563 ls [.int (xs 4), .long ((((xs 3)).toInt64) <<< ((32 : Int32).toInt64 &&& 63)), .int (xs 2), .int (xs 1), .ref m0]) rfl ?_
        refine lv_i2l (v := ((xs 4)).toInt64) hx hb dL_law_1563 rfl ?_
        refine lv_ldc2 (v := 4294967295) hx hb hown (hts (.constantLong RL 222 (4294967295)) (List.mem_of_getElem? (i := 2048) (by decide +kernel))) dL_law_1564 ?_
        refine lv_land hx hb dL_law_1567 ?_
        refine lv_lor hx hb dL_law_1568 ?_
        refine lv_aload_n hx hb dL_law_1569 rfl (lv_at hl 1 rfl) ?_
        refine lv_iload hx hb dL_law_1570 (lv_at hl 6 rfl) ?_
        refine lv_iconst (v := 5) hx hb dL_law_1572 (by decide) ?_
        refine lv_iadd hx hb dL_law_1573 ?_
        refine lv_topi (fun v_11 ev_11 => ?_)
        have ev_11 : v_11 = 5 := ev_11.trans (by decide)
        subst ev_11
        refine va_sld hx hb hX hbl hbA hS (i := 5) (by unfold vp_in; decide) dL_law_1574 ?_
        refine W.eq (g2 := F0 m 1575 ls [.int (xs 5), .long (((((xs 3)).toInt64) <<< ((32 : Int32).toInt64 &&& 63)) ||| ((((xs 4)).toInt64) &&& 4294967295)), .int (xs 2), .int (xs 1), .ref m0]) rfl ?_
        have hS0 := hS
        have hFc := va_free (wc := [(m0, .inr (16, [.int 0, .ref kl, .null, .ref tl]))]) hD hS hA [1] rfl
        refine va_calli (va_runV (As := [.int (xs 1), .int (xs 2), .long (((((xs 3)).toInt64) <<< ((32 : Int32).toInt64 &&& 63)) ||| ((((xs 4)).toInt64) &&& 4294967295)), .int (xs 5)]) (rest := []) ⟨hx, hb, hml, hown, hts⟩ (c_X9_inRow_ok l κ D (H).size (m0) (kl) (tl) ((xs 1)) ((xs 2)) ((((((xs 3)).toInt64) <<< ((32 : Int32).toInt64 &&& 63)) ||| ((((xs 4)).toInt64) &&& 4294967295))) ((xs 5)) (hs) (sd) (nn) (kk) (e0) (e1) (h1s) (hhs) (hsd) (e2) (hnn) (e3) (hkk)) (cwV 4 hts gd_law_c_X9_inRow_ok rfl rfl rfl (by decide +kernel) ⟨(Nat.le_of_ble_eq_true rfl), (Nat.le_of_ble_eq_true rfl)⟩) (preV hE hK hP hD hS hA [1] rfl (by decide) [] rfl (va_recv hK hP (ci := 16) (q0 := 1) rfl rfl)) rfl rfl hl.1 rfl (lv_room (Nat.le_of_ble_eq_true rfl)) dL_law_1575 ⟨(Nat.le_of_ble_eq_true rfl), (Nat.le_of_ble_eq_true rfl)⟩) hS (fun q _ h => hFc q h) hFc (fun r_12 u t H1 locs ht hvm hw hB hz1 hk1 hS => ?_)
        try dsimp only at hw
        obtain ⟨hP, hD, hK⟩ := jn (wc := [(m0, .inr (16, [.int 0, .ref kl, .null, .ref tl]))]) (wr := [(g0, .inr (8, [.ref g1, .ref g2, .ref g3, .ref g4, .ref g5, .ref g6, .int 0, .int 0, .int 0, .int 0])), (kl, .inr (6, [.int 0, .ref (κ 0), .int 0])), (u0, .inl (cL, 1, .inr (.inl (vp_updL (fun _ => 0) 0 (((nI (IR hs kk sd nn)).toInt64))))))]) (w1 := [(m0, .inr (16, [.int 0, .ref kl, .null, .ref tl]))]) (t1 := []) hP hD hK hS0 hA [1] [0, 2, 3] rfl rfl (by decide) (by decide) ht hvm hk1 hB
        generalize H1 = H at hP hS ⊢
        have hP : va_P D vwCl ([(g0, .inr (8, [.ref g1, .ref g2, .ref g3, .ref g4, .ref g5, .ref g6, .int 0, .int 0, .int 0, .int 0])), (kl, .inr (6, [.int 0, .ref (κ 0), .int 0])), (u0, .inl (cL, 1, .inr (.inl (vp_updL (fun _ => 0) 0 (((nI (IR hs kk sd nn)).toInt64)))))), (m0, .inr (16, [.int 0, .ref kl, .null, .ref tl]))]) H := hP
        have hD : va_D (LA s) ([(g0, .inr (8, [.ref g1, .ref g2, .ref g3, .ref g4, .ref g5, .ref g6, .int 0, .int 0, .int 0, .int 0])), (kl, .inr (6, [.int 0, .ref (κ 0), .int 0])), (u0, .inl (cL, 1, .inr (.inl (vp_updL (fun _ => 0) 0 (((nI (IR hs kk sd nn)).toInt64)))))), (m0, .inr (16, [.int 0, .ref kl, .null, .ref tl]))]) := hD
        have hK : va_K D vwCl [(cL, .long), (cO, .array .long), (cJ, .long), (cL, .long)] s := hK
        refine W.widen (k := 300) (n := 40000) (Nat.le_of_ble_eq_true rfl) (Nat.le_of_ble_eq_true rfl) ?_
        subst hw
        refine lv_istore (lv' := [(7, .int (nI (IR hs kk sd nn))), (6, .int 0), (0, .ref b), (1, .ref h0), (2, .ref m0), (3, .ref u0), (4, .ref w0), (5, .int 0)]) hx hb dL_law_1578 hl (by decide) rfl (fun ls hl => ?_)
        refine lv_aload_n hx hb dL_law_1580 rfl (lv_at hl 4 rfl) ?_
        have hS0 := hS
        have hFc := va_free (wc := [(m0, .inr (16, [.int 0, .ref kl, .null, .ref tl]))]) hD hS hA [3] rfl
        refine va_calli (va_runV (As := []) (rest := []) ⟨hx, hb, hml, hown, hts⟩ (c_X9_thrown l κ D (H).size (m0) (kl) (tl) (0) ) (cwV 0 hts gd_law_c_X9_thrown rfl rfl rfl (by decide +kernel) ⟨(Nat.le_of_ble_eq_true rfl), (Nat.le_of_ble_eq_true rfl)⟩) (preV hE hK hP hD hS hA [3] rfl (by decide) [] rfl (va_recv hK hP (ci := 16) (q0 := 3) rfl rfl)) rfl rfl hl.1 rfl (lv_room (Nat.le_of_ble_eq_true rfl)) dL_law_1581 ⟨(Nat.le_of_ble_eq_true rfl), (Nat.le_of_ble_eq_true rfl)⟩) hS (fun q _ h => hFc q h) hFc (fun r_13 u t H1 locs ht hvm hw hB hz1 hk1 hS => ?_)
        try dsimp only at hw
        obtain ⟨hP, hD, hK⟩ := jn (wc := [(m0, .inr (16, [.int 0, .ref kl, .null, .ref tl]))]) (wr := [(g0, .inr (8, [.ref g1, .ref g2, .ref g3, .ref g4, .ref g5, .ref g6, .int 0, .int 0, .int 0, .int 0])), (kl, .inr (6, [.int 0, .ref (κ 0), .int 0])), (u0, .inl (cL, 1, .inr (.inl (vp_updL (fun _ => 0) 0 (((nI (IR hs kk sd nn)).toInt64))))))]) (w1 := [(m0, .inr (16, [.int 0, .ref kl, .null, .ref tl]))]) (t1 := []) hP hD hK hS0 hA [3] [0, 1, 2] rfl rfl (by decide) (by decide) ht hvm hk1 hB
        generalize H1 = H at hP hS ⊢
        have hP : va_P D vwCl ([(g0, .inr (8, [.ref g1, .ref g2, .ref g3, .ref g4, .ref g5, .ref g6, .int 0, .int 0, .int 0, .int 0])), (kl, .inr (6, [.int 0, .ref (κ 0), .int 0])), (u0, .inl (cL, 1, .inr (.inl (vp_updL (fun _ => 0) 0 (((nI (IR hs kk sd nn)).toInt64)))))), (m0, .inr (16, [.int 0, .ref kl, .null, .ref tl]))]) H := hP
        have hD : va_D (LA s) ([(g0, .inr (8, [.ref g1, .ref g2, .ref g3, .ref g4, .ref g5, .ref g6, .int 0, .int 0, .int 0, .int 0])), (kl, .inr (6, [.int 0, .ref (κ 0), .int 0])), (u0, .inl (cL, 1, .inr (.inl (vp_updL (fun _ => 0) 0 (((nI (IR hs kk sd nn)).toInt64)))))), (m0, .inr (16, [.int 0, .ref kl, .null, .ref tl]))]) := hD
        have hK : va_K D vwCl [(cL, .long), (cO, .array .long), (cJ, .long), (cL, .long)] s := hK
        refine W.widen (k := 300) (n := 40000) (Nat.le_of_ble_eq_true rfl) (Nat.le_of_ble_eq_true rfl) ?_
        subst hw
        refine lv_iload hx hb dL_law_1584 (lv_at hl 1 rfl) ?_
        refine lv_icmp_eq (tgt := 1591) hx hb dL_law_1586 (by decide) (fun _ => ?_) (fun c_1586 => absurd c_1586 (by decide))
        refine lv_iload hx hb dL_law_1591 (lv_at hl 1 rfl) ?_
        refine lv_if_ne (tgt := 1608) hx hb dL_law_1593 (by decide) (fun c_1593 => absurd c_1593 (by decide)) (fun _ => ?_)
        refine lv_aload_n hx hb dL_law_1596 rfl (lv_at hl 5 rfl) ?_
        refine lv_iconst (v := 0) hx hb dL_law_1597 (by decide) ?_
        refine va_lald hx hb hK hP 2 0 rfl rfl (i := 0) (by unfold vp_in; decide) dL_law_1598 ?_
        refine lv_topl (fun v_14 ev_14 => ?_)
        have ev_14 : v_14 = ((nI (IR hs kk sd nn)).toInt64) := ev_14.trans (rfl)
        subst ev_14
        refine lv_iload hx hb dL_law_1599 (lv_at hl 0 rfl) ?_
        refine lv_i2l (v := ((nI (IR hs kk sd nn))).toInt64) hx hb dL_law_1601 rfl ?_
        refine W.lcmp hx hb dL_law_1602 ?_
        refine lv_if_eq (tgt := 1608) hx hb dL_law_1603 (by decide) (fun c_1603 => ?_) (fun c_1603 => absurd ((lg_cmp_eq _ _).mpr rfl) c_1603)
        refine lv_goto (tgt := 2351) hx hb dL_law_1608 (by decide) ?_
        refine W.widen (k := 400) (n := 41000) (Nat.le_of_ble_eq_true rfl) (Nat.le_of_ble_eq_true rfl) ?_
        exact law_end C1 H locs ls hS (lv_sub hl [7, 2] rfl)
      · have hS0 := hS
        have hFc := va_free (wc := [(h0, .inr (12, [.ref o0, .int 0, .ref g0, .ref o2, .ref o3, .ref o4, .ref o5, .int 0, .ref o6])), (o4, .inr (10, [.ref q0])), (q0, .inl (cO, 11, .inr (.inr (.inr (.inr (fun i => if i < 11 then some (rr i) else none)))))), ((rr 0), .inl (cJ, 91, .inr (.inl (FF 0)))), ((rr 1), .inl (cJ, 91, .inr (.inl (FF 1)))), ((rr 2), .inl (cJ, 91, .inr (.inl (FF 2)))), ((rr 3), .inl (cJ, 91, .inr (.inl (FF 3)))), ((rr 4), .inl (cJ, 91, .inr (.inl (FF 4)))), ((rr 5), .inl (cJ, 91, .inr (.inl (FF 5)))), ((rr 6), .inl (cJ, 91, .inr (.inl (FF 6)))), ((rr 7), .inl (cJ, 91, .inr (.inl (FF 7)))), ((rr 8), .inl (cJ, 91, .inr (.inl (FF 8)))), ((rr 9), .inl (cJ, 91, .inr (.inl (FF 9)))), ((rr 10), .inl (cJ, 91, .inr (.inl (FF 10)))), (u0, .inl (cL, 1, .inr (.inl (fun _ => 0))))]) hD hS hA [0, 5, 6, 7, 8, 9, 10, 11, 12, 13, 14, 15, 16, 17, 4] rfl
        refine va_calli (vx_runSW (As := [.ref h0, .int (xs 1), .int (xs 2), .long (((((xs 3)).toInt64) <<< ((32 : Int32).toInt64 &&& 63)) ||| ((((xs 4)).toInt64) &&& 4294967295)), .int (xs 5), .ref u0]) (rest := []) ⟨hx, hb, hml, hown, hts⟩ (c_L_inRow_badC l hl0 κ D (H).size (h0) (o0) (g0) (o2) (o3) (o4) (o5) (o6) (q0) (cO) (cJ) (rr) (FF) (hs) (sd) (nn) ((xs 1)) ((xs 2)) ((((((xs 3)).toInt64) <<< ((32 : Int32).toInt64 &&& 63)) ||| ((((xs 4)).toInt64) &&& 4294967295))) ((xs 5)) (u0) (cL) ((fun _ => 0)) (e0) (e1) (h1s) (hhs) (hsd) (e2) (hnn) (hH) (hF)) (vx_cwSW 6 hts gd_law_c_L_inRow_badC rfl rfl rfl (by decide +kernel) ⟨(Nat.le_of_ble_eq_true rfl), (Nat.le_of_ble_eq_true rfl)⟩) (preS hE hK hP hD hS hA [0, 5, 6, 7, 8, 9, 10, 11, 12, 13, 14, 15, 16, 17, 4] rfl (by decide) [1, 2, 0] rfl) rfl rfl hl.1 rfl (lv_room (Nat.le_of_ble_eq_true rfl)) dL_law_1529 ⟨(Nat.le_of_ble_eq_true rfl), (Nat.le_of_ble_eq_true rfl)⟩) hS (fun q _ h => hFc q h) hFc (fun r_15 u t H1 locs ht hvm hw hB hz1 hk1 hS => ?_)
        try dsimp only at hw
        obtain ⟨hP, hD, hK⟩ := jn (wc := [(h0, .inr (12, [.ref o0, .int 0, .ref g0, .ref o2, .ref o3, .ref o4, .ref o5, .int 0, .ref o6])), (o4, .inr (10, [.ref q0])), (q0, .inl (cO, 11, .inr (.inr (.inr (.inr (fun i => if i < 11 then some (rr i) else none)))))), ((rr 0), .inl (cJ, 91, .inr (.inl (FF 0)))), ((rr 1), .inl (cJ, 91, .inr (.inl (FF 1)))), ((rr 2), .inl (cJ, 91, .inr (.inl (FF 2)))), ((rr 3), .inl (cJ, 91, .inr (.inl (FF 3)))), ((rr 4), .inl (cJ, 91, .inr (.inl (FF 4)))), ((rr 5), .inl (cJ, 91, .inr (.inl (FF 5)))), ((rr 6), .inl (cJ, 91, .inr (.inl (FF 6)))), ((rr 7), .inl (cJ, 91, .inr (.inl (FF 7)))), ((rr 8), .inl (cJ, 91, .inr (.inl (FF 8)))), ((rr 9), .inl (cJ, 91, .inr (.inl (FF 9)))), ((rr 10), .inl (cJ, 91, .inr (.inl (FF 10)))), (u0, .inl (cL, 1, .inr (.inl (fun _ => 0))))]) (wr := [(g0, .inr (8, [.ref g1, .ref g2, .ref g3, .ref g4, .ref g5, .ref g6, .int 0, .int 0, .int 0, .int 0])), (m0, .inr (16, [.int 0, .ref kl, .null, .ref tl])), (kl, .inr (6, [.int 0, .ref (κ 0), .int 0]))]) (w1 := []) (t1 := []) hP hD hK hS0 hA [0, 5, 6, 7, 8, 9, 10, 11, 12, 13, 14, 15, 16, 17, 4] [1, 2, 3] rfl rfl (by decide) (by decide) ht hvm hk1 hB
        generalize H1 = H at hP hS ⊢
        have hP : va_P D vwCl ([(g0, .inr (8, [.ref g1, .ref g2, .ref g3, .ref g4, .ref g5, .ref g6, .int 0, .int 0, .int 0, .int 0])), (m0, .inr (16, [.int 0, .ref kl, .null, .ref tl])), (kl, .inr (6, [.int 0, .ref (κ 0), .int 0]))]) H := hP
        have hD : va_D (LA s) ([(g0, .inr (8, [.ref g1, .ref g2, .ref g3, .ref g4, .ref g5, .ref g6, .int 0, .int 0, .int 0, .int 0])), (m0, .inr (16, [.int 0, .ref kl, .null, .ref tl])), (kl, .inr (6, [.int 0, .ref (κ 0), .int 0]))]) := hD
        have hK : va_K D vwCl [(cL, .long), (cO, .array .long), (cJ, .long)] s := hK
        refine W.widen (k := 301) (n := 40006) (Nat.le_of_ble_eq_true rfl) (Nat.le_of_ble_eq_true rfl) ?_
        subst hw
        refine lv_istore (lv' := [(6, .int 2), (0, .ref b), (1, .ref h0), (2, .ref m0), (3, .ref u0), (4, .ref w0), (5, .int 0)]) hx hb dL_law_1532 hl (by decide) rfl (fun ls hl => ?_)
        refine lv_aload_n hx hb dL_law_1534 rfl (lv_at hl 3 rfl) ?_
        refine lv_aload_n hx hb dL_law_1535 rfl (lv_at hl 1 rfl) ?_
        refine lv_iload hx hb dL_law_1536 (lv_at hl 6 rfl) ?_
        refine lv_iconst (v := 1) hx hb dL_law_1538 (by decide) ?_
        refine lv_iadd hx hb dL_law_1539 ?_
        refine lv_topi (fun v_16 ev_16 => ?_)
        have ev_16 : v_16 = 1 := ev_16.trans (by decide)
        subst ev_16
        refine va_sld hx hb hX hbl hbA hS (i := 1) (by unfold vp_in; decide) dL_law_1540 ?_
        refine W.eq (g2 := F0 m 1541 ls [.int (xs 1), .ref m0]) rfl ?_
        refine lv_aload_n hx hb dL_law_1541 rfl (lv_at hl 1 rfl) ?_
        refine lv_iload hx hb dL_law_1542 (lv_at hl 6 rfl) ?_
        refine lv_iconst (v := 2) hx hb dL_law_1544 (by decide) ?_
        refine lv_iadd hx hb dL_law_1545 ?_
        refine lv_topi (fun v_17 ev_17 => ?_)
        have ev_17 : v_17 = 2 := ev_17.trans (by decide)
        subst ev_17
        refine va_sld hx hb hX hbl hbA hS (i := 2) (by unfold vp_in; decide) dL_law_1546 ?_
        refine W.eq (g2 := F0 m 1547 ls [.int (xs 2), .int (xs 1), .ref m0]) rfl ?_
        refine lv_aload_n hx hb dL_law_1547 rfl (lv_at hl 1 rfl) ?_
        refine lv_iload hx hb dL_law_1548 (lv_at hl 6 rfl) ?_
        refine lv_iconst (v := 3) hx hb dL_law_1550 (by decide) ?_
        refine lv_iadd hx hb dL_law_1551 ?_
        refine lv_topi (fun v_18 ev_18 => ?_)
        have ev_18 : v_18 = 3 := ev_18.trans (by decide)
        subst ev_18
        refine va_sld hx hb hX hbl hbA hS (i := 3) (by unfold vp_in; decide) dL_law_1552 ?_
        refine W.eq (g2 := F0 m 1553 ls [.int (xs 3), .int (xs 2), .int (xs 1), .ref m0]) rfl ?_
        refine lv_i2l (v := ((xs 3)).toInt64) hx hb dL_law_1553 rfl ?_
        refine lv_bipush (v := 32) hx hb dL_law_1554 (by decide) ?_
        refine lv_lshl (v := ((((xs 3)).toInt64) <<< ((32 : Int32).toInt64 &&& 63))) hx hb dL_law_1556 rfl ?_
        refine lv_aload_n hx hb dL_law_1557 rfl (lv_at hl 1 rfl) ?_
        refine lv_iload hx hb dL_law_1558 (lv_at hl 6 rfl) ?_
        refine lv_iconst (v := 4) hx hb dL_law_1560 (by decide) ?_
        refine lv_iadd hx hb dL_law_1561 ?_
        refine lv_topi (fun v_19 ev_19 => ?_)
        have ev_19 : v_19 = 4 := ev_19.trans (by decide)
        subst ev_19
        refine va_sld hx hb hX hbl hbA hS (i := 4) (by unfold vp_in; decide) dL_law_1562 ?_
        refine W.eq (g2 := F0 m 1563 ls [.int (xs 4), .long ((((xs 3)).toInt64) <<< ((32 : Int32).toInt64 &&& 63)), .int (xs 2), .int (xs 1), .ref m0]) rfl ?_
        refine lv_i2l (v := ((xs 4)).toInt64) hx hb dL_law_1563 rfl ?_
        refine lv_ldc2 (v := 4294967295) hx hb hown (hts (.constantLong RL 222 (4294967295)) (List.mem_of_getElem? (i := 2048) (by decide +kernel))) dL_law_1564 ?_
        refine lv_land hx hb dL_law_1567 ?_
        refine lv_lor hx hb dL_law_1568 ?_
        refine lv_aload_n hx hb dL_law_1569 rfl (lv_at hl 1 rfl) ?_
        refine lv_iload hx hb dL_law_1570 (lv_at hl 6 rfl) ?_
        refine lv_iconst (v := 5) hx hb dL_law_1572 (by decide) ?_
        refine lv_iadd hx hb dL_law_1573 ?_
        refine lv_topi (fun v_20 ev_20 => ?_)
        have ev_20 : v_20 = 5 := ev_20.trans (by decide)
        subst ev_20
        refine va_sld hx hb hX hbl hbA hS (i := 5) (by unfold vp_in; decide) dL_law_1574 ?_
        refine W.eq (g2 := F0 m 1575 ls [.int (xs 5), .long (((((xs 3)).toInt64) <<< ((32 : Int32).toInt64 &&& 63)) ||| ((((xs 4)).toInt64) &&& 4294967295)), .int (xs 2), .int (xs 1), .ref m0]) rfl ?_
        have hS0 := hS
        have hFc := va_free (wc := [(m0, .inr (16, [.int 0, .ref kl, .null, .ref tl]))]) hD hS hA [1] rfl
        refine va_calli (va_runV (As := [.int (xs 1), .int (xs 2), .long (((((xs 3)).toInt64) <<< ((32 : Int32).toInt64 &&& 63)) ||| ((((xs 4)).toInt64) &&& 4294967295)), .int (xs 5)]) (rest := []) ⟨hx, hb, hml, hown, hts⟩ (c_X9_inRow_badC l κ D (H).size (m0) (kl) (tl) ((xs 1)) ((xs 2)) ((((((xs 3)).toInt64) <<< ((32 : Int32).toInt64 &&& 63)) ||| ((((xs 4)).toInt64) &&& 4294967295))) ((xs 5)) (hs) (sd) (nn) (e0) (e1) (h1s) (hhs) (hsd) (e2) (hnn) (hH)) (cwV 4 hts gd_law_c_X9_inRow_badC rfl rfl rfl (by decide +kernel) ⟨(Nat.le_of_ble_eq_true rfl), (Nat.le_of_ble_eq_true rfl)⟩) (preV hE hK hP hD hS hA [1] rfl (by decide) [] rfl (va_recv hK hP (ci := 16) (q0 := 1) rfl rfl)) rfl rfl hl.1 rfl (lv_room (Nat.le_of_ble_eq_true rfl)) dL_law_1575 ⟨(Nat.le_of_ble_eq_true rfl), (Nat.le_of_ble_eq_true rfl)⟩) hS (fun q _ h => hFc q h) hFc (fun r_21 u t H1 locs ht hvm hw hB hz1 hk1 hS => ?_)
        try dsimp only at hw
        obtain ⟨hP, hD, hK⟩ := jn (wc := [(m0, .inr (16, [.int 0, .ref kl, .null, .ref tl]))]) (wr := [(g0, .inr (8, [.ref g1, .ref g2, .ref g3, .ref g4, .ref g5, .ref g6, .int 0, .int 0, .int 0, .int 0])), (kl, .inr (6, [.int 0, .ref (κ 0), .int 0]))]) (w1 := [(m0, .inr (16, [.int 2, .ref kl, .null, .ref tl]))]) (t1 := []) hP hD hK hS0 hA [1] [0, 2] rfl rfl (by decide) (by decide) ht hvm hk1 hB
        generalize H1 = H at hP hS ⊢
        have hP : va_P D vwCl ([(g0, .inr (8, [.ref g1, .ref g2, .ref g3, .ref g4, .ref g5, .ref g6, .int 0, .int 0, .int 0, .int 0])), (kl, .inr (6, [.int 0, .ref (κ 0), .int 0])), (m0, .inr (16, [.int 2, .ref kl, .null, .ref tl]))]) H := hP
        have hD : va_D (LA s) ([(g0, .inr (8, [.ref g1, .ref g2, .ref g3, .ref g4, .ref g5, .ref g6, .int 0, .int 0, .int 0, .int 0])), (kl, .inr (6, [.int 0, .ref (κ 0), .int 0])), (m0, .inr (16, [.int 2, .ref kl, .null, .ref tl]))]) := hD
        have hK : va_K D vwCl [(cL, .long), (cO, .array .long), (cJ, .long)] s := hK
        refine W.widen (k := 301) (n := 40006) (Nat.le_of_ble_eq_true rfl) (Nat.le_of_ble_eq_true rfl) ?_
        refine lv_istore (lv' := [(7, .int r_21), (6, .int 2), (0, .ref b), (1, .ref h0), (2, .ref m0), (3, .ref u0), (4, .ref w0), (5, .int 0)]) hx hb dL_law_1578 hl (by decide) rfl (fun ls hl => ?_)
        refine lv_aload_n hx hb dL_law_1580 rfl (lv_at hl 4 rfl) ?_
        have hS0 := hS
        have hFc := va_free (wc := [(m0, .inr (16, [.int 2, .ref kl, .null, .ref tl]))]) hD hS hA [2] rfl
        refine va_calli (va_runV (As := []) (rest := []) ⟨hx, hb, hml, hown, hts⟩ (c_X9_thrown l κ D (H).size (m0) (kl) (tl) (2) ) (cwV 0 hts gd_law_c_X9_thrown rfl rfl rfl (by decide +kernel) ⟨(Nat.le_of_ble_eq_true rfl), (Nat.le_of_ble_eq_true rfl)⟩) (preV hE hK hP hD hS hA [2] rfl (by decide) [] rfl (va_recv hK hP (ci := 16) (q0 := 2) rfl rfl)) rfl rfl hl.1 rfl (lv_room (Nat.le_of_ble_eq_true rfl)) dL_law_1581 ⟨(Nat.le_of_ble_eq_true rfl), (Nat.le_of_ble_eq_true rfl)⟩) hS (fun q _ h => hFc q h) hFc (fun r_22 u t H1 locs ht hvm hw hB hz1 hk1 hS => ?_)
        try dsimp only at hw
        obtain ⟨hP, hD, hK⟩ := jn (wc := [(m0, .inr (16, [.int 2, .ref kl, .null, .ref tl]))]) (wr := [(g0, .inr (8, [.ref g1, .ref g2, .ref g3, .ref g4, .ref g5, .ref g6, .int 0, .int 0, .int 0, .int 0])), (kl, .inr (6, [.int 0, .ref (κ 0), .int 0]))]) (w1 := [(m0, .inr (16, [.int 2, .ref kl, .null, .ref tl]))]) (t1 := []) hP hD hK hS0 hA [2] [0, 1] rfl rfl (by decide) (by decide) ht hvm hk1 hB
        generalize H1 = H at hP hS ⊢
        have hP : va_P D vwCl ([(g0, .inr (8, [.ref g1, .ref g2, .ref g3, .ref g4, .ref g5, .ref g6, .int 0, .int 0, .int 0, .int 0])), (kl, .inr (6, [.int 0, .ref (κ 0), .int 0])), (m0, .inr (16, [.int 2, .ref kl, .null, .ref tl]))]) H := hP
        have hD : va_D (LA s) ([(g0, .inr (8, [.ref g1, .ref g2, .ref g3, .ref g4, .ref g5, .ref g6, .int 0, .int 0, .int 0, .int 0])), (kl, .inr (6, [.int 0, .ref (κ 0), .int 0])), (m0, .inr (16, [.int 2, .ref kl, .null, .ref tl]))]) := hD
        have hK : va_K D vwCl [(cL, .long), (cO, .array .long), (cJ, .long)] s := hK
        refine W.widen (k := 301) (n := 40006) (Nat.le_of_ble_eq_true rfl) (Nat.le_of_ble_eq_true rfl) ?_
        subst hw
        refine lv_iload hx hb dL_law_1584 (lv_at hl 1 rfl) ?_
        refine lv_icmp_eq (tgt := 1591) hx hb dL_law_1586 (by decide) (fun _ => ?_) (fun c_1586 => absurd c_1586 (by decide))
        refine lv_iload hx hb dL_law_1591 (lv_at hl 1 rfl) ?_
        refine lv_if_ne (tgt := 1608) hx hb dL_law_1593 (by decide) (fun _ => ?_) (fun c_1593 => absurd c_1593 (by decide))
        refine lv_goto (tgt := 2351) hx hb dL_law_1608 (by decide) ?_
        refine W.widen (k := 400) (n := 41000) (Nat.le_of_ble_eq_true rfl) (Nat.le_of_ble_eq_true rfl) ?_
        exact law_end C1 H locs ls hS (lv_sub hl [7, 2] rfl)
    · have hS0 := hS
      have hFc := va_free (wc := [(h0, .inr (12, [.ref o0, .int 0, .ref g0, .ref o2, .ref o3, .ref o4, .ref o5, .int 0, .ref o6])), (o4, .inr (10, [.ref q0])), (q0, .inl (cO, 11, .inr (.inr (.inr (.inr (fun i => if i < 11 then some (rr i) else none)))))), ((rr 0), .inl (cJ, 91, .inr (.inl (FF 0)))), ((rr 1), .inl (cJ, 91, .inr (.inl (FF 1)))), ((rr 2), .inl (cJ, 91, .inr (.inl (FF 2)))), ((rr 3), .inl (cJ, 91, .inr (.inl (FF 3)))), ((rr 4), .inl (cJ, 91, .inr (.inl (FF 4)))), ((rr 5), .inl (cJ, 91, .inr (.inl (FF 5)))), ((rr 6), .inl (cJ, 91, .inr (.inl (FF 6)))), ((rr 7), .inl (cJ, 91, .inr (.inl (FF 7)))), ((rr 8), .inl (cJ, 91, .inr (.inl (FF 8)))), ((rr 9), .inl (cJ, 91, .inr (.inl (FF 9)))), ((rr 10), .inl (cJ, 91, .inr (.inl (FF 10)))), (u0, .inl (cL, 1, .inr (.inl (fun _ => 0))))]) hD hS hA [0, 5, 6, 7, 8, 9, 10, 11, 12, 13, 14, 15, 16, 17, 4] rfl
      refine va_calli (vx_runSW (As := [.ref h0, .int (xs 1), .int (xs 2), .long (((((xs 3)).toInt64) <<< ((32 : Int32).toInt64 &&& 63)) ||| ((((xs 4)).toInt64) &&& 4294967295)), .int (xs 5), .ref u0]) (rest := []) ⟨hx, hb, hml, hown, hts⟩ (c_L_inRow_badB l hl0 κ D (H).size (h0) (o0) (g0) (o2) (o3) (o4) (o5) (o6) (q0) (cO) (cJ) (rr) (FF) (hs) (sd) ((xs 1)) ((xs 2)) ((((((xs 3)).toInt64) <<< ((32 : Int32).toInt64 &&& 63)) ||| ((((xs 4)).toInt64) &&& 4294967295))) ((xs 5)) (u0) (cL) ((fun _ => 0)) (e0) (e1) (h1s) (hhs) (hsd) (hC) (hF)) (vx_cwSW 6 hts gd_law_c_L_inRow_badB rfl rfl rfl (by decide +kernel) ⟨(Nat.le_of_ble_eq_true rfl), (Nat.le_of_ble_eq_true rfl)⟩) (preS hE hK hP hD hS hA [0, 5, 6, 7, 8, 9, 10, 11, 12, 13, 14, 15, 16, 17, 4] rfl (by decide) [1, 2, 0] rfl) rfl rfl hl.1 rfl (lv_room (Nat.le_of_ble_eq_true rfl)) dL_law_1529 ⟨(Nat.le_of_ble_eq_true rfl), (Nat.le_of_ble_eq_true rfl)⟩) hS (fun q _ h => hFc q h) hFc (fun r_23 u t H1 locs ht hvm hw hB hz1 hk1 hS => ?_)
      try dsimp only at hw
      obtain ⟨hP, hD, hK⟩ := jn (wc := [(h0, .inr (12, [.ref o0, .int 0, .ref g0, .ref o2, .ref o3, .ref o4, .ref o5, .int 0, .ref o6])), (o4, .inr (10, [.ref q0])), (q0, .inl (cO, 11, .inr (.inr (.inr (.inr (fun i => if i < 11 then some (rr i) else none)))))), ((rr 0), .inl (cJ, 91, .inr (.inl (FF 0)))), ((rr 1), .inl (cJ, 91, .inr (.inl (FF 1)))), ((rr 2), .inl (cJ, 91, .inr (.inl (FF 2)))), ((rr 3), .inl (cJ, 91, .inr (.inl (FF 3)))), ((rr 4), .inl (cJ, 91, .inr (.inl (FF 4)))), ((rr 5), .inl (cJ, 91, .inr (.inl (FF 5)))), ((rr 6), .inl (cJ, 91, .inr (.inl (FF 6)))), ((rr 7), .inl (cJ, 91, .inr (.inl (FF 7)))), ((rr 8), .inl (cJ, 91, .inr (.inl (FF 8)))), ((rr 9), .inl (cJ, 91, .inr (.inl (FF 9)))), ((rr 10), .inl (cJ, 91, .inr (.inl (FF 10)))), (u0, .inl (cL, 1, .inr (.inl (fun _ => 0))))]) (wr := [(g0, .inr (8, [.ref g1, .ref g2, .ref g3, .ref g4, .ref g5, .ref g6, .int 0, .int 0, .int 0, .int 0])), (m0, .inr (16, [.int 0, .ref kl, .null, .ref tl])), (kl, .inr (6, [.int 0, .ref (κ 0), .int 0]))]) (w1 := []) (t1 := []) hP hD hK hS0 hA [0, 5, 6, 7, 8, 9, 10, 11, 12, 13, 14, 15, 16, 17, 4] [1, 2, 3] rfl rfl (by decide) (by decide) ht hvm hk1 hB
      generalize H1 = H at hP hS ⊢
      have hP : va_P D vwCl ([(g0, .inr (8, [.ref g1, .ref g2, .ref g3, .ref g4, .ref g5, .ref g6, .int 0, .int 0, .int 0, .int 0])), (m0, .inr (16, [.int 0, .ref kl, .null, .ref tl])), (kl, .inr (6, [.int 0, .ref (κ 0), .int 0]))]) H := hP
      have hD : va_D (LA s) ([(g0, .inr (8, [.ref g1, .ref g2, .ref g3, .ref g4, .ref g5, .ref g6, .int 0, .int 0, .int 0, .int 0])), (m0, .inr (16, [.int 0, .ref kl, .null, .ref tl])), (kl, .inr (6, [.int 0, .ref (κ 0), .int 0]))]) := hD
      have hK : va_K D vwCl [(cL, .long), (cO, .array .long), (cJ, .long)] s := hK
      refine W.widen (k := 301) (n := 40006) (Nat.le_of_ble_eq_true rfl) (Nat.le_of_ble_eq_true rfl) ?_
      subst hw
      refine lv_istore (lv' := [(6, .int 1), (0, .ref b), (1, .ref h0), (2, .ref m0), (3, .ref u0), (4, .ref w0), (5, .int 0)]) hx hb dL_law_1532 hl (by decide) rfl (fun ls hl => ?_)
      refine lv_aload_n hx hb dL_law_1534 rfl (lv_at hl 3 rfl) ?_
      refine lv_aload_n hx hb dL_law_1535 rfl (lv_at hl 1 rfl) ?_
      refine lv_iload hx hb dL_law_1536 (lv_at hl 6 rfl) ?_
      refine lv_iconst (v := 1) hx hb dL_law_1538 (by decide) ?_
      refine lv_iadd hx hb dL_law_1539 ?_
      refine lv_topi (fun v_24 ev_24 => ?_)
      have ev_24 : v_24 = 1 := ev_24.trans (by decide)
      subst ev_24
      refine va_sld hx hb hX hbl hbA hS (i := 1) (by unfold vp_in; decide) dL_law_1540 ?_
      refine W.eq (g2 := F0 m 1541 ls [.int (xs 1), .ref m0]) rfl ?_
      refine lv_aload_n hx hb dL_law_1541 rfl (lv_at hl 1 rfl) ?_
      refine lv_iload hx hb dL_law_1542 (lv_at hl 6 rfl) ?_
      refine lv_iconst (v := 2) hx hb dL_law_1544 (by decide) ?_
      refine lv_iadd hx hb dL_law_1545 ?_
      refine lv_topi (fun v_25 ev_25 => ?_)
      have ev_25 : v_25 = 2 := ev_25.trans (by decide)
      subst ev_25
      refine va_sld hx hb hX hbl hbA hS (i := 2) (by unfold vp_in; decide) dL_law_1546 ?_
      refine W.eq (g2 := F0 m 1547 ls [.int (xs 2), .int (xs 1), .ref m0]) rfl ?_
      refine lv_aload_n hx hb dL_law_1547 rfl (lv_at hl 1 rfl) ?_
      refine lv_iload hx hb dL_law_1548 (lv_at hl 6 rfl) ?_
      refine lv_iconst (v := 3) hx hb dL_law_1550 (by decide) ?_
      refine lv_iadd hx hb dL_law_1551 ?_
      refine lv_topi (fun v_26 ev_26 => ?_)
      have ev_26 : v_26 = 3 := ev_26.trans (by decide)
      subst ev_26
      refine va_sld hx hb hX hbl hbA hS (i := 3) (by unfold vp_in; decide) dL_law_1552 ?_
      refine W.eq (g2 := F0 m 1553 ls [.int (xs 3), .int (xs 2), .int (xs 1), .ref m0]) rfl ?_
      refine lv_i2l (v := ((xs 3)).toInt64) hx hb dL_law_1553 rfl ?_
      refine lv_bipush (v := 32) hx hb dL_law_1554 (by decide) ?_
      refine lv_lshl (v := ((((xs 3)).toInt64) <<< ((32 : Int32).toInt64 &&& 63))) hx hb dL_law_1556 rfl ?_
      refine lv_aload_n hx hb dL_law_1557 rfl (lv_at hl 1 rfl) ?_
      refine lv_iload hx hb dL_law_1558 (lv_at hl 6 rfl) ?_
      refine lv_iconst (v := 4) hx hb dL_law_1560 (by decide) ?_
      refine lv_iadd hx hb dL_law_1561 ?_
      refine lv_topi (fun v_27 ev_27 => ?_)
      have ev_27 : v_27 = 4 := ev_27.trans (by decide)
      subst ev_27
      refine va_sld hx hb hX hbl hbA hS (i := 4) (by unfold vp_in; decide) dL_law_1562 ?_
      refine W.eq (g2 := F0 m 1563 ls [.int (xs 4), .long ((((xs 3)).toInt64) <<< ((32 : Int32).toInt64 &&& 63)), .int (xs 2), .int (xs 1), .ref m0]) rfl ?_
      refine lv_i2l (v := ((xs 4)).toInt64) hx hb dL_law_1563 rfl ?_
      refine lv_ldc2 (v := 4294967295) hx hb hown (hts (.constantLong RL 222 (4294967295)) (List.mem_of_getElem? (i := 2048) (by decide +kernel))) dL_law_1564 ?_
      refine lv_land hx hb dL_law_1567 ?_
      refine lv_lor hx hb dL_law_1568 ?_
      refine lv_aload_n hx hb dL_law_1569 rfl (lv_at hl 1 rfl) ?_
      refine lv_iload hx hb dL_law_1570 (lv_at hl 6 rfl) ?_
      refine lv_iconst (v := 5) hx hb dL_law_1572 (by decide) ?_
      refine lv_iadd hx hb dL_law_1573 ?_
      refine lv_topi (fun v_28 ev_28 => ?_)
      have ev_28 : v_28 = 5 := ev_28.trans (by decide)
      subst ev_28
      refine va_sld hx hb hX hbl hbA hS (i := 5) (by unfold vp_in; decide) dL_law_1574 ?_
      refine W.eq (g2 := F0 m 1575 ls [.int (xs 5), .long (((((xs 3)).toInt64) <<< ((32 : Int32).toInt64 &&& 63)) ||| ((((xs 4)).toInt64) &&& 4294967295)), .int (xs 2), .int (xs 1), .ref m0]) rfl ?_
      have hS0 := hS
      have hFc := va_free (wc := [(m0, .inr (16, [.int 0, .ref kl, .null, .ref tl]))]) hD hS hA [1] rfl
      refine va_calli (va_runV (As := [.int (xs 1), .int (xs 2), .long (((((xs 3)).toInt64) <<< ((32 : Int32).toInt64 &&& 63)) ||| ((((xs 4)).toInt64) &&& 4294967295)), .int (xs 5)]) (rest := []) ⟨hx, hb, hml, hown, hts⟩ (c_X9_inRow_badB l κ D (H).size (m0) (kl) (tl) ((xs 1)) ((xs 2)) ((((((xs 3)).toInt64) <<< ((32 : Int32).toInt64 &&& 63)) ||| ((((xs 4)).toInt64) &&& 4294967295))) ((xs 5)) (hs) (sd) (e0) (e1) (h1s) (hhs) (hsd) (hC)) (cwV 4 hts gd_law_c_X9_inRow_badB rfl rfl rfl (by decide +kernel) ⟨(Nat.le_of_ble_eq_true rfl), (Nat.le_of_ble_eq_true rfl)⟩) (preV hE hK hP hD hS hA [1] rfl (by decide) [] rfl (va_recv hK hP (ci := 16) (q0 := 1) rfl rfl)) rfl rfl hl.1 rfl (lv_room (Nat.le_of_ble_eq_true rfl)) dL_law_1575 ⟨(Nat.le_of_ble_eq_true rfl), (Nat.le_of_ble_eq_true rfl)⟩) hS (fun q _ h => hFc q h) hFc (fun r_29 u t H1 locs ht hvm hw hB hz1 hk1 hS => ?_)
      try dsimp only at hw
      obtain ⟨hP, hD, hK⟩ := jn (wc := [(m0, .inr (16, [.int 0, .ref kl, .null, .ref tl]))]) (wr := [(g0, .inr (8, [.ref g1, .ref g2, .ref g3, .ref g4, .ref g5, .ref g6, .int 0, .int 0, .int 0, .int 0])), (kl, .inr (6, [.int 0, .ref (κ 0), .int 0]))]) (w1 := [(m0, .inr (16, [.int 1, .ref kl, .null, .ref tl]))]) (t1 := []) hP hD hK hS0 hA [1] [0, 2] rfl rfl (by decide) (by decide) ht hvm hk1 hB
      generalize H1 = H at hP hS ⊢
      have hP : va_P D vwCl ([(g0, .inr (8, [.ref g1, .ref g2, .ref g3, .ref g4, .ref g5, .ref g6, .int 0, .int 0, .int 0, .int 0])), (kl, .inr (6, [.int 0, .ref (κ 0), .int 0])), (m0, .inr (16, [.int 1, .ref kl, .null, .ref tl]))]) H := hP
      have hD : va_D (LA s) ([(g0, .inr (8, [.ref g1, .ref g2, .ref g3, .ref g4, .ref g5, .ref g6, .int 0, .int 0, .int 0, .int 0])), (kl, .inr (6, [.int 0, .ref (κ 0), .int 0])), (m0, .inr (16, [.int 1, .ref kl, .null, .ref tl]))]) := hD
      have hK : va_K D vwCl [(cL, .long), (cO, .array .long), (cJ, .long)] s := hK
      refine W.widen (k := 301) (n := 40006) (Nat.le_of_ble_eq_true rfl) (Nat.le_of_ble_eq_true rfl) ?_
      refine lv_istore (lv' := [(7, .int r_29), (6, .int 1), (0, .ref b), (1, .ref h0), (2, .ref m0), (3, .ref u0), (4, .ref w0), (5, .int 0)]) hx hb dL_law_1578 hl (by decide) rfl (fun ls hl => ?_)
      refine lv_aload_n hx hb dL_law_1580 rfl (lv_at hl 4 rfl) ?_
      have hS0 := hS
      have hFc := va_free (wc := [(m0, .inr (16, [.int 1, .ref kl, .null, .ref tl]))]) hD hS hA [2] rfl
      refine va_calli (va_runV (As := []) (rest := []) ⟨hx, hb, hml, hown, hts⟩ (c_X9_thrown l κ D (H).size (m0) (kl) (tl) (1) ) (cwV 0 hts gd_law_c_X9_thrown rfl rfl rfl (by decide +kernel) ⟨(Nat.le_of_ble_eq_true rfl), (Nat.le_of_ble_eq_true rfl)⟩) (preV hE hK hP hD hS hA [2] rfl (by decide) [] rfl (va_recv hK hP (ci := 16) (q0 := 2) rfl rfl)) rfl rfl hl.1 rfl (lv_room (Nat.le_of_ble_eq_true rfl)) dL_law_1581 ⟨(Nat.le_of_ble_eq_true rfl), (Nat.le_of_ble_eq_true rfl)⟩) hS (fun q _ h => hFc q h) hFc (fun r_30 u t H1 locs ht hvm hw hB hz1 hk1 hS => ?_)
      try dsimp only at hw
      obtain ⟨hP, hD, hK⟩ := jn (wc := [(m0, .inr (16, [.int 1, .ref kl, .null, .ref tl]))]) (wr := [(g0, .inr (8, [.ref g1, .ref g2, .ref g3, .ref g4, .ref g5, .ref g6, .int 0, .int 0, .int 0, .int 0])), (kl, .inr (6, [.int 0, .ref (κ 0), .int 0]))]) (w1 := [(m0, .inr (16, [.int 1, .ref kl, .null, .ref tl]))]) (t1 := []) hP hD hK hS0 hA [2] [0, 1] rfl rfl (by decide) (by decide) ht hvm hk1 hB
      generalize H1 = H at hP hS ⊢
      have hP : va_P D vwCl ([(g0, .inr (8, [.ref g1, .ref g2, .ref g3, .ref g4, .ref g5, .ref g6, .int 0, .int 0, .int 0, .int 0])), (kl, .inr (6, [.int 0, .ref (κ 0), .int 0])), (m0, .inr (16, [.int 1, .ref kl, .null, .ref tl]))]) H := hP
      have hD : va_D (LA s) ([(g0, .inr (8, [.ref g1, .ref g2, .ref g3, .ref g4, .ref g5, .ref g6, .int 0, .int 0, .int 0, .int 0])), (kl, .inr (6, [.int 0, .ref (κ 0), .int 0])), (m0, .inr (16, [.int 1, .ref kl, .null, .ref tl]))]) := hD
      have hK : va_K D vwCl [(cL, .long), (cO, .array .long), (cJ, .long)] s := hK
      refine W.widen (k := 301) (n := 40006) (Nat.le_of_ble_eq_true rfl) (Nat.le_of_ble_eq_true rfl) ?_
      subst hw
      refine lv_iload hx hb dL_law_1584 (lv_at hl 1 rfl) ?_
      refine lv_icmp_eq (tgt := 1591) hx hb dL_law_1586 (by decide) (fun _ => ?_) (fun c_1586 => absurd c_1586 (by decide))
      refine lv_iload hx hb dL_law_1591 (lv_at hl 1 rfl) ?_
      refine lv_if_ne (tgt := 1608) hx hb dL_law_1593 (by decide) (fun _ => ?_) (fun c_1593 => absurd c_1593 (by decide))
      refine lv_goto (tgt := 2351) hx hb dL_law_1608 (by decide) ?_
      refine W.widen (k := 400) (n := 41000) (Nat.le_of_ble_eq_true rfl) (Nat.le_of_ble_eq_true rfl) ?_
      exact law_end C1 H locs ls hS (lv_sub hl [7, 2] rfl)
  · have hS0 := hS
    have hFc := va_free (wc := [(h0, .inr (12, [.ref o0, .int 0, .ref g0, .ref o2, .ref o3, .ref o4, .ref o5, .int 0, .ref o6])), (u0, .inl (cL, 1, .inr (.inl (fun _ => 0))))]) hD hS hA [0, 4] rfl
    refine va_calli (vx_runSW (As := [.ref h0, .int (xs 1), .int (xs 2), .long (((((xs 3)).toInt64) <<< ((32 : Int32).toInt64 &&& 63)) ||| ((((xs 4)).toInt64) &&& 4294967295)), .int (xs 5), .ref u0]) (rest := []) ⟨hx, hb, hml, hown, hts⟩ (c_L_inRow_badA l hl0 κ D (H).size (h0) (o0) (g0) (o2) (o3) (o4) (o5) (o6) ((xs 1)) ((xs 2)) ((((((xs 3)).toInt64) <<< ((32 : Int32).toInt64 &&& 63)) ||| ((((xs 4)).toInt64) &&& 4294967295))) ((xs 5)) (u0) (cL) ((fun _ => 0)) (hg)) (vx_cwSW 6 hts gd_law_c_L_inRow_badA rfl rfl rfl (by decide +kernel) ⟨(Nat.le_of_ble_eq_true rfl), (Nat.le_of_ble_eq_true rfl)⟩) (preS hE hK hP hD hS hA [0, 4] rfl (by decide) [0] rfl) rfl rfl hl.1 rfl (lv_room (Nat.le_of_ble_eq_true rfl)) dL_law_1529 ⟨(Nat.le_of_ble_eq_true rfl), (Nat.le_of_ble_eq_true rfl)⟩) hS (fun q _ h => hFc q h) hFc (fun r_31 u t H1 locs ht hvm hw hB hz1 hk1 hS => ?_)
    try dsimp only at hw
    obtain ⟨hP, hD, hK⟩ := jn (wc := [(h0, .inr (12, [.ref o0, .int 0, .ref g0, .ref o2, .ref o3, .ref o4, .ref o5, .int 0, .ref o6])), (u0, .inl (cL, 1, .inr (.inl (fun _ => 0))))]) (wr := [(g0, .inr (8, [.ref g1, .ref g2, .ref g3, .ref g4, .ref g5, .ref g6, .int 0, .int 0, .int 0, .int 0])), (m0, .inr (16, [.int 0, .ref kl, .null, .ref tl])), (kl, .inr (6, [.int 0, .ref (κ 0), .int 0])), (o4, .inr (10, [.ref q0])), (q0, .inl (cO, 11, .inr (.inr (.inr (.inr (fun i => if i < 11 then some (rr i) else none)))))), ((rr 0), .inl (cJ, 91, .inr (.inl (FF 0)))), ((rr 1), .inl (cJ, 91, .inr (.inl (FF 1)))), ((rr 2), .inl (cJ, 91, .inr (.inl (FF 2)))), ((rr 3), .inl (cJ, 91, .inr (.inl (FF 3)))), ((rr 4), .inl (cJ, 91, .inr (.inl (FF 4)))), ((rr 5), .inl (cJ, 91, .inr (.inl (FF 5)))), ((rr 6), .inl (cJ, 91, .inr (.inl (FF 6)))), ((rr 7), .inl (cJ, 91, .inr (.inl (FF 7)))), ((rr 8), .inl (cJ, 91, .inr (.inl (FF 8)))), ((rr 9), .inl (cJ, 91, .inr (.inl (FF 9)))), ((rr 10), .inl (cJ, 91, .inr (.inl (FF 10))))]) (w1 := []) (t1 := []) hP hD hK hS0 hA [0, 4] [1, 2, 3, 5, 6, 7, 8, 9, 10, 11, 12, 13, 14, 15, 16, 17] rfl rfl (by decide) (by decide) ht hvm hk1 hB
    generalize H1 = H at hP hS ⊢
    have hP : va_P D vwCl ([(g0, .inr (8, [.ref g1, .ref g2, .ref g3, .ref g4, .ref g5, .ref g6, .int 0, .int 0, .int 0, .int 0])), (m0, .inr (16, [.int 0, .ref kl, .null, .ref tl])), (kl, .inr (6, [.int 0, .ref (κ 0), .int 0])), (o4, .inr (10, [.ref q0])), (q0, .inl (cO, 11, .inr (.inr (.inr (.inr (fun i => if i < 11 then some (rr i) else none)))))), ((rr 0), .inl (cJ, 91, .inr (.inl (FF 0)))), ((rr 1), .inl (cJ, 91, .inr (.inl (FF 1)))), ((rr 2), .inl (cJ, 91, .inr (.inl (FF 2)))), ((rr 3), .inl (cJ, 91, .inr (.inl (FF 3)))), ((rr 4), .inl (cJ, 91, .inr (.inl (FF 4)))), ((rr 5), .inl (cJ, 91, .inr (.inl (FF 5)))), ((rr 6), .inl (cJ, 91, .inr (.inl (FF 6)))), ((rr 7), .inl (cJ, 91, .inr (.inl (FF 7)))), ((rr 8), .inl (cJ, 91, .inr (.inl (FF 8)))), ((rr 9), .inl (cJ, 91, .inr (.inl (FF 9)))), ((rr 10), .inl (cJ, 91, .inr (.inl (FF 10))))]) H := hP
    have hD : va_D (LA s) ([(g0, .inr (8, [.ref g1, .ref g2, .ref g3, .ref g4, .ref g5, .ref g6, .int 0, .int 0, .int 0, .int 0])), (m0, .inr (16, [.int 0, .ref kl, .null, .ref tl])), (kl, .inr (6, [.int 0, .ref (κ 0), .int 0])), (o4, .inr (10, [.ref q0])), (q0, .inl (cO, 11, .inr (.inr (.inr (.inr (fun i => if i < 11 then some (rr i) else none)))))), ((rr 0), .inl (cJ, 91, .inr (.inl (FF 0)))), ((rr 1), .inl (cJ, 91, .inr (.inl (FF 1)))), ((rr 2), .inl (cJ, 91, .inr (.inl (FF 2)))), ((rr 3), .inl (cJ, 91, .inr (.inl (FF 3)))), ((rr 4), .inl (cJ, 91, .inr (.inl (FF 4)))), ((rr 5), .inl (cJ, 91, .inr (.inl (FF 5)))), ((rr 6), .inl (cJ, 91, .inr (.inl (FF 6)))), ((rr 7), .inl (cJ, 91, .inr (.inl (FF 7)))), ((rr 8), .inl (cJ, 91, .inr (.inl (FF 8)))), ((rr 9), .inl (cJ, 91, .inr (.inl (FF 9)))), ((rr 10), .inl (cJ, 91, .inr (.inl (FF 10))))]) := hD
    have hK : va_K D vwCl [(cL, .long), (cO, .array .long), (cJ, .long)] s := hK
    refine W.widen (k := 301) (n := 40006) (Nat.le_of_ble_eq_true rfl) (Nat.le_of_ble_eq_true rfl) ?_
    subst hw
    refine lv_istore (lv' := [(6, .int 1), (0, .ref b), (1, .ref h0), (2, .ref m0), (3, .ref u0), (4, .ref w0), (5, .int 0)]) hx hb dL_law_1532 hl (by decide) rfl (fun ls hl => ?_)
    refine lv_aload_n hx hb dL_law_1534 rfl (lv_at hl 3 rfl) ?_
    refine lv_aload_n hx hb dL_law_1535 rfl (lv_at hl 1 rfl) ?_
    refine lv_iload hx hb dL_law_1536 (lv_at hl 6 rfl) ?_
    refine lv_iconst (v := 1) hx hb dL_law_1538 (by decide) ?_
    refine lv_iadd hx hb dL_law_1539 ?_
    refine lv_topi (fun v_32 ev_32 => ?_)
    have ev_32 : v_32 = 1 := ev_32.trans (by decide)
    subst ev_32
    refine va_sld hx hb hX hbl hbA hS (i := 1) (by unfold vp_in; decide) dL_law_1540 ?_
    refine W.eq (g2 := F0 m 1541 ls [.int (xs 1), .ref m0]) rfl ?_
    refine lv_aload_n hx hb dL_law_1541 rfl (lv_at hl 1 rfl) ?_
    refine lv_iload hx hb dL_law_1542 (lv_at hl 6 rfl) ?_
    refine lv_iconst (v := 2) hx hb dL_law_1544 (by decide) ?_
    refine lv_iadd hx hb dL_law_1545 ?_
    refine lv_topi (fun v_33 ev_33 => ?_)
    have ev_33 : v_33 = 2 := ev_33.trans (by decide)
    subst ev_33
    refine va_sld hx hb hX hbl hbA hS (i := 2) (by unfold vp_in; decide) dL_law_1546 ?_
    refine W.eq (g2 := F0 m 1547 ls [.int (xs 2), .int (xs 1), .ref m0]) rfl ?_
    refine lv_aload_n hx hb dL_law_1547 rfl (lv_at hl 1 rfl) ?_
    refine lv_iload hx hb dL_law_1548 (lv_at hl 6 rfl) ?_
    refine lv_iconst (v := 3) hx hb dL_law_1550 (by decide) ?_
    refine lv_iadd hx hb dL_law_1551 ?_
    refine lv_topi (fun v_34 ev_34 => ?_)
    have ev_34 : v_34 = 3 := ev_34.trans (by decide)
    subst ev_34
    refine va_sld hx hb hX hbl hbA hS (i := 3) (by unfold vp_in; decide) dL_law_1552 ?_
    refine W.eq (g2 := F0 m 1553 ls [.int (xs 3), .int (xs 2), .int (xs 1), .ref m0]) rfl ?_
    refine lv_i2l (v := ((xs 3)).toInt64) hx hb dL_law_1553 rfl ?_
    refine lv_bipush (v := 32) hx hb dL_law_1554 (by decide) ?_
    refine lv_lshl (v := ((((xs 3)).toInt64) <<< ((32 : Int32).toInt64 &&& 63))) hx hb dL_law_1556 rfl ?_
    refine lv_aload_n hx hb dL_law_1557 rfl (lv_at hl 1 rfl) ?_
    refine lv_iload hx hb dL_law_1558 (lv_at hl 6 rfl) ?_
    refine lv_iconst (v := 4) hx hb dL_law_1560 (by decide) ?_
    refine lv_iadd hx hb dL_law_1561 ?_
    refine lv_topi (fun v_35 ev_35 => ?_)
    have ev_35 : v_35 = 4 := ev_35.trans (by decide)
    subst ev_35
    refine va_sld hx hb hX hbl hbA hS (i := 4) (by unfold vp_in; decide) dL_law_1562 ?_
    refine W.eq (g2 := F0 m 1563 ls [.int (xs 4), .long ((((xs 3)).toInt64) <<< ((32 : Int32).toInt64 &&& 63)), .int (xs 2), .int (xs 1), .ref m0]) rfl ?_
    refine lv_i2l (v := ((xs 4)).toInt64) hx hb dL_law_1563 rfl ?_
    refine lv_ldc2 (v := 4294967295) hx hb hown (hts (.constantLong RL 222 (4294967295)) (List.mem_of_getElem? (i := 2048) (by decide +kernel))) dL_law_1564 ?_
    refine lv_land hx hb dL_law_1567 ?_
    refine lv_lor hx hb dL_law_1568 ?_
    refine lv_aload_n hx hb dL_law_1569 rfl (lv_at hl 1 rfl) ?_
    refine lv_iload hx hb dL_law_1570 (lv_at hl 6 rfl) ?_
    refine lv_iconst (v := 5) hx hb dL_law_1572 (by decide) ?_
    refine lv_iadd hx hb dL_law_1573 ?_
    refine lv_topi (fun v_36 ev_36 => ?_)
    have ev_36 : v_36 = 5 := ev_36.trans (by decide)
    subst ev_36
    refine va_sld hx hb hX hbl hbA hS (i := 5) (by unfold vp_in; decide) dL_law_1574 ?_
    refine W.eq (g2 := F0 m 1575 ls [.int (xs 5), .long (((((xs 3)).toInt64) <<< ((32 : Int32).toInt64 &&& 63)) ||| ((((xs 4)).toInt64) &&& 4294967295)), .int (xs 2), .int (xs 1), .ref m0]) rfl ?_
    have hS0 := hS
    have hFc := va_free (wc := [(m0, .inr (16, [.int 0, .ref kl, .null, .ref tl]))]) hD hS hA [1] rfl
    refine va_calli (va_runV (As := [.int (xs 1), .int (xs 2), .long (((((xs 3)).toInt64) <<< ((32 : Int32).toInt64 &&& 63)) ||| ((((xs 4)).toInt64) &&& 4294967295)), .int (xs 5)]) (rest := []) ⟨hx, hb, hml, hown, hts⟩ (c_X9_inRow_badA l κ D (H).size (m0) (kl) (tl) ((xs 1)) ((xs 2)) ((((((xs 3)).toInt64) <<< ((32 : Int32).toInt64 &&& 63)) ||| ((((xs 4)).toInt64) &&& 4294967295))) ((xs 5)) ((fun h9 => hg ⟨(w64 (xs 1) (by decide) (by decide)).mp h9.1, (w64 (xs 2) (by decide) (by decide)).mp h9.2⟩))) (cwV 4 hts gd_law_c_X9_inRow_badA rfl rfl rfl (by decide +kernel) ⟨(Nat.le_of_ble_eq_true rfl), (Nat.le_of_ble_eq_true rfl)⟩) (preV hE hK hP hD hS hA [1] rfl (by decide) [] rfl (va_recv hK hP (ci := 16) (q0 := 1) rfl rfl)) rfl rfl hl.1 rfl (lv_room (Nat.le_of_ble_eq_true rfl)) dL_law_1575 ⟨(Nat.le_of_ble_eq_true rfl), (Nat.le_of_ble_eq_true rfl)⟩) hS (fun q _ h => hFc q h) hFc (fun r_37 u t H1 locs ht hvm hw hB hz1 hk1 hS => ?_)
    try dsimp only at hw
    obtain ⟨hP, hD, hK⟩ := jn (wc := [(m0, .inr (16, [.int 0, .ref kl, .null, .ref tl]))]) (wr := [(g0, .inr (8, [.ref g1, .ref g2, .ref g3, .ref g4, .ref g5, .ref g6, .int 0, .int 0, .int 0, .int 0])), (kl, .inr (6, [.int 0, .ref (κ 0), .int 0])), (o4, .inr (10, [.ref q0])), (q0, .inl (cO, 11, .inr (.inr (.inr (.inr (fun i => if i < 11 then some (rr i) else none)))))), ((rr 0), .inl (cJ, 91, .inr (.inl (FF 0)))), ((rr 1), .inl (cJ, 91, .inr (.inl (FF 1)))), ((rr 2), .inl (cJ, 91, .inr (.inl (FF 2)))), ((rr 3), .inl (cJ, 91, .inr (.inl (FF 3)))), ((rr 4), .inl (cJ, 91, .inr (.inl (FF 4)))), ((rr 5), .inl (cJ, 91, .inr (.inl (FF 5)))), ((rr 6), .inl (cJ, 91, .inr (.inl (FF 6)))), ((rr 7), .inl (cJ, 91, .inr (.inl (FF 7)))), ((rr 8), .inl (cJ, 91, .inr (.inl (FF 8)))), ((rr 9), .inl (cJ, 91, .inr (.inl (FF 9)))), ((rr 10), .inl (cJ, 91, .inr (.inl (FF 10))))]) (w1 := [(m0, .inr (16, [.int 1, .ref kl, .null, .ref tl]))]) (t1 := []) hP hD hK hS0 hA [1] [0, 2, 3, 4, 5, 6, 7, 8, 9, 10, 11, 12, 13, 14, 15] rfl rfl (by decide) (by decide) ht hvm hk1 hB
    generalize H1 = H at hP hS ⊢
    have hP : va_P D vwCl ([(g0, .inr (8, [.ref g1, .ref g2, .ref g3, .ref g4, .ref g5, .ref g6, .int 0, .int 0, .int 0, .int 0])), (kl, .inr (6, [.int 0, .ref (κ 0), .int 0])), (o4, .inr (10, [.ref q0])), (q0, .inl (cO, 11, .inr (.inr (.inr (.inr (fun i => if i < 11 then some (rr i) else none)))))), ((rr 0), .inl (cJ, 91, .inr (.inl (FF 0)))), ((rr 1), .inl (cJ, 91, .inr (.inl (FF 1)))), ((rr 2), .inl (cJ, 91, .inr (.inl (FF 2)))), ((rr 3), .inl (cJ, 91, .inr (.inl (FF 3)))), ((rr 4), .inl (cJ, 91, .inr (.inl (FF 4)))), ((rr 5), .inl (cJ, 91, .inr (.inl (FF 5)))), ((rr 6), .inl (cJ, 91, .inr (.inl (FF 6)))), ((rr 7), .inl (cJ, 91, .inr (.inl (FF 7)))), ((rr 8), .inl (cJ, 91, .inr (.inl (FF 8)))), ((rr 9), .inl (cJ, 91, .inr (.inl (FF 9)))), ((rr 10), .inl (cJ, 91, .inr (.inl (FF 10)))), (m0, .inr (16, [.int 1, .ref kl, .null, .ref tl]))]) H := hP
    have hD : va_D (LA s) ([(g0, .inr (8, [.ref g1, .ref g2, .ref g3, .ref g4, .ref g5, .ref g6, .int 0, .int 0, .int 0, .int 0])), (kl, .inr (6, [.int 0, .ref (κ 0), .int 0])), (o4, .inr (10, [.ref q0])), (q0, .inl (cO, 11, .inr (.inr (.inr (.inr (fun i => if i < 11 then some (rr i) else none)))))), ((rr 0), .inl (cJ, 91, .inr (.inl (FF 0)))), ((rr 1), .inl (cJ, 91, .inr (.inl (FF 1)))), ((rr 2), .inl (cJ, 91, .inr (.inl (FF 2)))), ((rr 3), .inl (cJ, 91, .inr (.inl (FF 3)))), ((rr 4), .inl (cJ, 91, .inr (.inl (FF 4)))), ((rr 5), .inl (cJ, 91, .inr (.inl (FF 5)))), ((rr 6), .inl (cJ, 91, .inr (.inl (FF 6)))), ((rr 7), .inl (cJ, 91, .inr (.inl (FF 7)))), ((rr 8), .inl (cJ, 91, .inr (.inl (FF 8)))), ((rr 9), .inl (cJ, 91, .inr (.inl (FF 9)))), ((rr 10), .inl (cJ, 91, .inr (.inl (FF 10)))), (m0, .inr (16, [.int 1, .ref kl, .null, .ref tl]))]) := hD
    have hK : va_K D vwCl [(cL, .long), (cO, .array .long), (cJ, .long)] s := hK
    refine W.widen (k := 301) (n := 40006) (Nat.le_of_ble_eq_true rfl) (Nat.le_of_ble_eq_true rfl) ?_
    refine lv_istore (lv' := [(7, .int r_37), (6, .int 1), (0, .ref b), (1, .ref h0), (2, .ref m0), (3, .ref u0), (4, .ref w0), (5, .int 0)]) hx hb dL_law_1578 hl (by decide) rfl (fun ls hl => ?_)
    refine lv_aload_n hx hb dL_law_1580 rfl (lv_at hl 4 rfl) ?_
    have hS0 := hS
    have hFc := va_free (wc := [(m0, .inr (16, [.int 1, .ref kl, .null, .ref tl]))]) hD hS hA [15] rfl
    refine va_calli (va_runV (As := []) (rest := []) ⟨hx, hb, hml, hown, hts⟩ (c_X9_thrown l κ D (H).size (m0) (kl) (tl) (1) ) (cwV 0 hts gd_law_c_X9_thrown rfl rfl rfl (by decide +kernel) ⟨(Nat.le_of_ble_eq_true rfl), (Nat.le_of_ble_eq_true rfl)⟩) (preV hE hK hP hD hS hA [15] rfl (by decide) [] rfl (va_recv hK hP (ci := 16) (q0 := 15) rfl rfl)) rfl rfl hl.1 rfl (lv_room (Nat.le_of_ble_eq_true rfl)) dL_law_1581 ⟨(Nat.le_of_ble_eq_true rfl), (Nat.le_of_ble_eq_true rfl)⟩) hS (fun q _ h => hFc q h) hFc (fun r_38 u t H1 locs ht hvm hw hB hz1 hk1 hS => ?_)
    try dsimp only at hw
    obtain ⟨hP, hD, hK⟩ := jn (wc := [(m0, .inr (16, [.int 1, .ref kl, .null, .ref tl]))]) (wr := [(g0, .inr (8, [.ref g1, .ref g2, .ref g3, .ref g4, .ref g5, .ref g6, .int 0, .int 0, .int 0, .int 0])), (kl, .inr (6, [.int 0, .ref (κ 0), .int 0])), (o4, .inr (10, [.ref q0])), (q0, .inl (cO, 11, .inr (.inr (.inr (.inr (fun i => if i < 11 then some (rr i) else none)))))), ((rr 0), .inl (cJ, 91, .inr (.inl (FF 0)))), ((rr 1), .inl (cJ, 91, .inr (.inl (FF 1)))), ((rr 2), .inl (cJ, 91, .inr (.inl (FF 2)))), ((rr 3), .inl (cJ, 91, .inr (.inl (FF 3)))), ((rr 4), .inl (cJ, 91, .inr (.inl (FF 4)))), ((rr 5), .inl (cJ, 91, .inr (.inl (FF 5)))), ((rr 6), .inl (cJ, 91, .inr (.inl (FF 6)))), ((rr 7), .inl (cJ, 91, .inr (.inl (FF 7)))), ((rr 8), .inl (cJ, 91, .inr (.inl (FF 8)))), ((rr 9), .inl (cJ, 91, .inr (.inl (FF 9)))), ((rr 10), .inl (cJ, 91, .inr (.inl (FF 10))))]) (w1 := [(m0, .inr (16, [.int 1, .ref kl, .null, .ref tl]))]) (t1 := []) hP hD hK hS0 hA [15] [0, 1, 2, 3, 4, 5, 6, 7, 8, 9, 10, 11, 12, 13, 14] rfl rfl (by decide) (by decide) ht hvm hk1 hB
    generalize H1 = H at hP hS ⊢
    have hP : va_P D vwCl ([(g0, .inr (8, [.ref g1, .ref g2, .ref g3, .ref g4, .ref g5, .ref g6, .int 0, .int 0, .int 0, .int 0])), (kl, .inr (6, [.int 0, .ref (κ 0), .int 0])), (o4, .inr (10, [.ref q0])), (q0, .inl (cO, 11, .inr (.inr (.inr (.inr (fun i => if i < 11 then some (rr i) else none)))))), ((rr 0), .inl (cJ, 91, .inr (.inl (FF 0)))), ((rr 1), .inl (cJ, 91, .inr (.inl (FF 1)))), ((rr 2), .inl (cJ, 91, .inr (.inl (FF 2)))), ((rr 3), .inl (cJ, 91, .inr (.inl (FF 3)))), ((rr 4), .inl (cJ, 91, .inr (.inl (FF 4)))), ((rr 5), .inl (cJ, 91, .inr (.inl (FF 5)))), ((rr 6), .inl (cJ, 91, .inr (.inl (FF 6)))), ((rr 7), .inl (cJ, 91, .inr (.inl (FF 7)))), ((rr 8), .inl (cJ, 91, .inr (.inl (FF 8)))), ((rr 9), .inl (cJ, 91, .inr (.inl (FF 9)))), ((rr 10), .inl (cJ, 91, .inr (.inl (FF 10)))), (m0, .inr (16, [.int 1, .ref kl, .null, .ref tl]))]) H := hP
    have hD : va_D (LA s) ([(g0, .inr (8, [.ref g1, .ref g2, .ref g3, .ref g4, .ref g5, .ref g6, .int 0, .int 0, .int 0, .int 0])), (kl, .inr (6, [.int 0, .ref (κ 0), .int 0])), (o4, .inr (10, [.ref q0])), (q0, .inl (cO, 11, .inr (.inr (.inr (.inr (fun i => if i < 11 then some (rr i) else none)))))), ((rr 0), .inl (cJ, 91, .inr (.inl (FF 0)))), ((rr 1), .inl (cJ, 91, .inr (.inl (FF 1)))), ((rr 2), .inl (cJ, 91, .inr (.inl (FF 2)))), ((rr 3), .inl (cJ, 91, .inr (.inl (FF 3)))), ((rr 4), .inl (cJ, 91, .inr (.inl (FF 4)))), ((rr 5), .inl (cJ, 91, .inr (.inl (FF 5)))), ((rr 6), .inl (cJ, 91, .inr (.inl (FF 6)))), ((rr 7), .inl (cJ, 91, .inr (.inl (FF 7)))), ((rr 8), .inl (cJ, 91, .inr (.inl (FF 8)))), ((rr 9), .inl (cJ, 91, .inr (.inl (FF 9)))), ((rr 10), .inl (cJ, 91, .inr (.inl (FF 10)))), (m0, .inr (16, [.int 1, .ref kl, .null, .ref tl]))]) := hD
    have hK : va_K D vwCl [(cL, .long), (cO, .array .long), (cJ, .long)] s := hK
    refine W.widen (k := 301) (n := 40006) (Nat.le_of_ble_eq_true rfl) (Nat.le_of_ble_eq_true rfl) ?_
    subst hw
    refine lv_iload hx hb dL_law_1584 (lv_at hl 1 rfl) ?_
    refine lv_icmp_eq (tgt := 1591) hx hb dL_law_1586 (by decide) (fun _ => ?_) (fun c_1586 => absurd c_1586 (by decide))
    refine lv_iload hx hb dL_law_1591 (lv_at hl 1 rfl) ?_
    refine lv_if_ne (tgt := 1608) hx hb dL_law_1593 (by decide) (fun _ => ?_) (fun c_1593 => absurd c_1593 (by decide))
    refine lv_goto (tgt := 2351) hx hb dL_law_1608 (by decide) ?_
    refine W.widen (k := 400) (n := 41000) (Nat.le_of_ble_eq_true rfl) (Nat.le_of_ble_eq_true rfl) ?_
    exact law_end C1 H locs ls hS (lv_sub hl [7, 2] rfl)
