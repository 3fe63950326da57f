set_option maxHeartbeats 8000000 in
set_option maxRecDepth 100000 in
theorem law_rule {p : Program} {l : Launch} {e : Env} {s : State} {m : MethodId} {below : List Frame} {meth : Method} {c : Code} {b : Nat} {xs : Nat → Int32} {κ : Nat → Nat} (C0 : law_At2 p l s m meth c b xs κ) {D : va_G} {h0 : Nat} {o0 : Nat} {g0 : Nat} {o2 : Nat} {o3 : Nat} {o4 : Nat} {o5 : Nat} {o6 : Nat} {g1 : Nat} {g2 : Nat} {g3 : Nat} {g4 : Nat} {g5 : Nat} {g6 : Nat} {m0 : Nat} {kl : Nat} {tl : Nat} {u0 : Nat} {w0 : Nat} {cL : ClassId}  (H : Heap) (locs : List Loc) (ls : Array Slot) (hK : va_K D vwCl [(cL, .long)] s) (hP : va_P D vwCl [(h0, .inr (12, [.ref o0, .int 0, .ref g0, .ref o2, .ref o3, .ref o4, .ref o5, .int 0, .ref o6])), (g0, .inr (8, [.ref g1, .ref g2, .ref g3, .ref g4, .ref g5, .ref g6, .int 0, .int 0, .int 0, .int 0])), (m0, .inr (16, [.int 0, .ref kl, .null, .ref tl])), (kl, .inr (6, [.int 0, .ref (κ 0), .int 0])), (u0, .inl (cL, 1, .inr (.inl (fun _ => 0))))] H) (hD : va_D (LA s) [(h0, .inr (12, [.ref o0, .int 0, .ref g0, .ref o2, .ref o3, .ref o4, .ref o5, .int 0, .ref o6])), (g0, .inr (8, [.ref g1, .ref g2, .ref g3, .ref g4, .ref g5, .ref g6, .int 0, .int 0, .int 0, .int 0])), (m0, .inr (16, [.int 0, .ref kl, .null, .ref tl])), (kl, .inr (6, [.int 0, .ref (κ 0), .int 0])), (u0, .inl (cL, 1, .inr (.inl (fun _ => 0))))]) (hS : va_S (LA s) s.heap H locs) (hl : lv_has ls 9 [(0, .ref b), (1, .ref h0), (2, .ref m0), (3, .ref u0), (4, .ref w0), (5, .int 0)]) : W p l e room_1 s m #[Value.ref b] below meth c H locs 300 40000 (lw_Z below #[Value.ref b] s) (F0 m 308 ls []) := by
  have C1 := C0
  obtain ⟨hl0, hx, hb, hr, hml, hown, hts, hX, hbl, hlocks, hE⟩ := C0
  have hA : ∀ q : Nat, s.heap.size ≤ q → LA s q := fun _ h => h
  have hbA : ¬ LA s b := Nat.not_le.mpr hbl
  refine lv_aload_n hx hb dL_law_308 rfl (lv_at hl 1 rfl) ?_
  refine lv_aload_n hx hb dL_law_309 rfl (lv_at hl 0 rfl) ?_
  refine lv_iload hx hb dL_law_310 (lv_at hl 5 rfl) ?_
  refine lv_iconst (v := 1) hx hb dL_law_312 (by decide) ?_
  refine lv_iadd hx hb dL_law_313 ?_
  refine lv_topi (fun v_1 ev_1 => ?_)
  have ev_1 : v_1 = 1 := ev_1.trans (by decide)
  subst ev_1
  refine va_sld hx hb hX hbl hbA hS (i := 1) (by unfold vp_in; decide) dL_law_314 ?_
  refine W.eq (g2 := F0 m 315 ls [.int (xs 1), .ref h0]) rfl ?_
  refine lv_aload_n hx hb dL_law_315 rfl (lv_at hl 0 rfl) ?_
  refine lv_iload hx hb dL_law_316 (lv_at hl 5 rfl) ?_
  refine lv_iconst (v := 2) hx hb dL_law_318 (by decide) ?_
  refine lv_iadd hx hb dL_law_319 ?_
  refine lv_topi (fun v_2 ev_2 => ?_)
  have ev_2 : v_2 = 2 := ev_2.trans (by decide)
  subst ev_2
  refine va_sld hx hb hX hbl hbA hS (i := 2) (by unfold vp_in; decide) dL_law_320 ?_
  refine W.eq (g2 := F0 m 321 ls [.int (xs 2), .int (xs 1), .ref h0]) rfl ?_
  refine lv_i2c (v := (chr9 (xs 2))) hx hb dL_law_321 rfl ?_
  refine lv_aload_n hx hb dL_law_322 rfl (lv_at hl 0 rfl) ?_
  refine lv_iload hx hb dL_law_323 (lv_at hl 5 rfl) ?_
  refine lv_iconst (v := 3) hx hb dL_law_325 (by decide) ?_
  refine lv_iadd hx hb dL_law_326 ?_
  refine lv_topi (fun v_3 ev_3 => ?_)
  have ev_3 : v_3 = 3 := ev_3.trans (by decide)
  subst ev_3
  refine va_sld hx hb hX hbl hbA hS (i := 3) (by unfold vp_in; decide) dL_law_327 ?_
  refine W.eq (g2 := F0 m 328 ls [.int (xs 3), .int (chr9 (xs 2)), .int (xs 1), .ref h0]) rfl ?_
  refine lv_if_eq (tgt := 335) hx hb dL_law_328 (by decide) (fun c_328 => ?_) (fun c_328 => ?_)
  · refine lv_iconst (v := 0) hx hb dL_law_335 (by decide) ?_
    refine lv_aload_n hx hb dL_law_336 rfl (lv_at hl 3 rfl) ?_
    have hS0 := hS
    have hFc := va_free (wc := [(h0, .inr (12, [.ref o0, .int 0, .ref g0, .ref o2, .ref o3, .ref o4, .ref o5, .int 0, .ref o6])), (u0, .inl (cL, 1, .inr (.inl (fun _ => 0))))]) hD hS hA [0, 4] rfl
    refine va_calli (vx_runSW (As := [.ref h0, .int (xs 1), .int (chr9 (xs 2)), .int 0, .ref u0]) (rest := []) ⟨hx, hb, hml, hown, hts⟩ (c_L_rule l hl0 κ D (H).size (h0) (o0) (g0) (o2) (o3) (o4) (o5) (o6) ((xs 1)) ((chr9 (xs 2))) (0) (u0) (cL) ((fun _ => 0)) ) (vx_cwSW 5 hts gd_law_c_L_rule rfl rfl rfl (by decide +kernel) ⟨(Nat.le_of_ble_eq_true rfl), (Nat.le_of_ble_eq_true rfl)⟩) (preS hE hK hP hD hS hA [0, 4] rfl (by decide) [0] rfl) rfl rfl hl.1 rfl (lv_room (Nat.le_of_ble_eq_true rfl)) dL_law_337 ⟨(Nat.le_of_ble_eq_true rfl), (Nat.le_of_ble_eq_true rfl)⟩) hS (fun q _ h => hFc q h) hFc (fun r_4 u t H1 locs ht hvm hw hB hz1 hk1 hS => ?_)
    try dsimp only at hw
    obtain ⟨hP, hD, hK⟩ := jn (wc := [(h0, .inr (12, [.ref o0, .int 0, .ref g0, .ref o2, .ref o3, .ref o4, .ref o5, .int 0, .ref o6])), (u0, .inl (cL, 1, .inr (.inl (fun _ => 0))))]) (wr := [(g0, .inr (8, [.ref g1, .ref g2, .ref g3, .ref g4, .ref g5, .ref g6, .int 0, .int 0, .int 0, .int 0])), (m0, .inr (16, [.int 0, .ref kl, .null, .ref tl])), (kl, .inr (6, [.int 0, .ref (κ 0), .int 0]))]) (w1 := []) (t1 := []) hP hD hK hS0 hA [0, 4] [1, 2, 3] rfl rfl (by decide) (by decide) ht hvm hk1 hB
    generalize H1 = H at hP hS ⊢
    have hP : va_P D vwCl ([(g0, .inr (8, [.ref g1, .ref g2, .ref g3, .ref g4, .ref g5, .ref g6, .int 0, .int 0, .int 0, .int 0])), (m0, .inr (16, [.int 0, .ref kl, .null, .ref tl])), (kl, .inr (6, [.int 0, .ref (κ 0), .int 0]))]) H := hP
    have hD : va_D (LA s) ([(g0, .inr (8, [.ref g1, .ref g2, .ref g3, .ref g4, .ref g5, .ref g6, .int 0, .int 0, .int 0, .int 0])), (m0, .inr (16, [.int 0, .ref kl, .null, .ref tl])), (kl, .inr (6, [.int 0, .ref (κ 0), .int 0]))]) := hD
    have hK : va_K D vwCl [(cL, .long)] s := hK
    refine W.widen (k := 301) (n := 40006) (Nat.le_of_ble_eq_true rfl) (Nat.le_of_ble_eq_true rfl) ?_
    subst hw
    refine lv_istore (lv' := [(6, .int 1), (0, .ref b), (1, .ref h0), (2, .ref m0), (3, .ref u0), (4, .ref w0), (5, .int 0)]) hx hb dL_law_340 hl (by decide) rfl (fun ls hl => ?_)
    refine lv_aload_n hx hb dL_law_342 rfl (lv_at hl 3 rfl) ?_
    refine lv_aload_n hx hb dL_law_343 rfl (lv_at hl 1 rfl) ?_
    refine lv_iload hx hb dL_law_344 (lv_at hl 6 rfl) ?_
    refine lv_iconst (v := 1) hx hb dL_law_346 (by decide) ?_
    refine lv_iadd hx hb dL_law_347 ?_
    refine lv_topi (fun v_5 ev_5 => ?_)
    have ev_5 : v_5 = 1 := ev_5.trans (by decide)
    subst ev_5
    refine va_sld hx hb hX hbl hbA hS (i := 1) (by unfold vp_in; decide) dL_law_348 ?_
    refine W.eq (g2 := F0 m 349 ls [.int (xs 1), .ref m0]) rfl ?_
    refine lv_aload_n hx hb dL_law_349 rfl (lv_at hl 1 rfl) ?_
    refine lv_iload hx hb dL_law_350 (lv_at hl 6 rfl) ?_
    refine lv_iconst (v := 2) hx hb dL_law_352 (by decide) ?_
    refine lv_iadd hx hb dL_law_353 ?_
    refine lv_topi (fun v_6 ev_6 => ?_)
    have ev_6 : v_6 = 2 := ev_6.trans (by decide)
    subst ev_6
    refine va_sld hx hb hX hbl hbA hS (i := 2) (by unfold vp_in; decide) dL_law_354 ?_
    refine W.eq (g2 := F0 m 355 ls [.int (xs 2), .int (xs 1), .ref m0]) rfl ?_
    refine lv_i2c (v := (chr9 (xs 2))) hx hb dL_law_355 rfl ?_
    refine lv_aload_n hx hb dL_law_356 rfl (lv_at hl 1 rfl) ?_
    refine lv_iload hx hb dL_law_357 (lv_at hl 6 rfl) ?_
    refine lv_iconst (v := 3) hx hb dL_law_359 (by decide) ?_
    refine lv_iadd hx hb dL_law_360 ?_
    refine lv_topi (fun v_7 ev_7 => ?_)
    have ev_7 : v_7 = 3 := ev_7.trans (by decide)
    subst ev_7
    refine va_sld hx hb hX hbl hbA hS (i := 3) (by unfold vp_in; decide) dL_law_361 ?_
    refine W.eq (g2 := F0 m 362 ls [.int (xs 3), .int (chr9 (xs 2)), .int (xs 1), .ref m0]) rfl ?_
    refine lv_if_eq (tgt := 369) hx hb dL_law_362 (by decide) (fun c_362 => ?_) (fun c_362 => ?_)
    · refine lv_iconst (v := 0) hx hb dL_law_369 (by decide) ?_
      have hS0 := hS
      have hFc := va_free (wc := [(m0, .inr (16, [.int 0, .ref kl, .null, .ref tl])), (kl, .inr (6, [.int 0, .ref (κ 0), .int 0]))]) hD hS hA [1, 2] rfl
      refine va_calli (va_runV (As := [.int (xs 1), .int (chr9 (xs 2)), .int 0]) (rest := []) ⟨hx, hb, hml, hown, hts⟩ (c_X9_rule l κ D (H).size (m0) (kl) (tl) ((xs 1)) ((chr9 (xs 2))) (0) ) (cwV 3 hts gd_law_c_X9_rule rfl rfl rfl (by decide +kernel) ⟨(Nat.le_of_ble_eq_true rfl), (Nat.le_of_ble_eq_true rfl)⟩) (preV hE hK hP hD hS hA [1, 2] rfl (by decide) [] rfl (va_recv hK hP (ci := 16) (q0 := 1) rfl rfl)) rfl rfl hl.1 rfl (lv_room (Nat.le_of_ble_eq_true rfl)) dL_law_370 ⟨(Nat.le_of_ble_eq_true rfl), (Nat.le_of_ble_eq_true rfl)⟩) hS (fun q _ h => hFc q h) hFc (fun r_8 u t H1 locs ht hvm hw hB hz1 hk1 hS => ?_)
      try dsimp only at hw
      obtain ⟨hP, hD, hK⟩ := jn (wc := [(m0, .inr (16, [.int 0, .ref kl, .null, .ref tl])), (kl, .inr (6, [.int 0, .ref (κ 0), .int 0]))]) (wr := [(g0, .inr (8, [.ref g1, .ref g2, .ref g3, .ref g4, .ref g5, .ref g6, .int 0, .int 0, .int 0, .int 0]))]) (w1 := [(m0, .inr (16, [.int 1, .ref kl, .null, .ref tl]))]) (t1 := []) hP hD hK hS0 hA [1, 2] [0] rfl rfl (by decide) (by decide) ht hvm hk1 hB
      generalize H1 = H at hP hS ⊢
      have hP : va_P D vwCl ([(g0, .inr (8, [.ref g1, .ref g2, .ref g3, .ref g4, .ref g5, .ref g6, .int 0, .int 0, .int 0, .int 0])), (m0, .inr (16, [.int 1, .ref kl, .null, .ref tl]))]) H := hP
      have hD : va_D (LA s) ([(g0, .inr (8, [.ref g1, .ref g2, .ref g3, .ref g4, .ref g5, .ref g6, .int 0, .int 0, .int 0, .int 0])), (m0, .inr (16, [.int 1, .ref kl, .null, .ref tl]))]) := hD
      have hK : va_K D vwCl [(cL, .long)] s := hK
      refine W.widen (k := 301) (n := 40006) (Nat.le_of_ble_eq_true rfl) (Nat.le_of_ble_eq_true rfl) ?_
      refine lv_istore (lv' := [(7, .int r_8), (6, .int 1), (0, .ref b), (1, .ref h0), (2, .ref m0), (3, .ref u0), (4, .ref w0), (5, .int 0)]) hx hb dL_law_373 hl (by decide) rfl (fun ls hl => ?_)
      refine lv_aload_n hx hb dL_law_375 rfl (lv_at hl 4 rfl) ?_
      have hS0 := hS
      have hFc := va_free (wc := [(m0, .inr (16, [.int 1, .ref kl, .null, .ref tl]))]) hD hS hA [1] rfl
      refine va_calli (va_runV (As := []) (rest := []) ⟨hx, hb, hml, hown, hts⟩ (c_X9_thrown l κ D (H).size (m0) (kl) (tl) (1) ) (cwV 0 hts gd_law_c_X9_thrown rfl rfl rfl (by decide +kernel) ⟨(Nat.le_of_ble_eq_true rfl), (Nat.le_of_ble_eq_true rfl)⟩) (preV hE hK hP hD hS hA [1] rfl (by decide) [] rfl (va_recv hK hP (ci := 16) (q0 := 1) rfl rfl)) rfl rfl hl.1 rfl (lv_room (Nat.le_of_ble_eq_true rfl)) dL_law_376 ⟨(Nat.le_of_ble_eq_true rfl), (Nat.le_of_ble_eq_true rfl)⟩) hS (fun q _ h => hFc q h) hFc (fun r_9 u t H1 locs ht hvm hw hB hz1 hk1 hS => ?_)
      try dsimp only at hw
      obtain ⟨hP, hD, hK⟩ := jn (wc := [(m0, .inr (16, [.int 1, .ref kl, .null, .ref tl]))]) (wr := [(g0, .inr (8, [.ref g1, .ref g2, .ref g3, .ref g4, .ref g5, .ref g6, .int 0, .int 0, .int 0, .int 0]))]) (w1 := [(m0, .inr (16, [.int 1, .ref kl, .null, .ref tl]))]) (t1 := []) hP hD hK hS0 hA [1] [0] rfl rfl (by decide) (by decide) ht hvm hk1 hB
      generalize H1 = H at hP hS ⊢
      have hP : va_P D vwCl ([(g0, .inr (8, [.ref g1, .ref g2, .ref g3, .ref g4, .ref g5, .ref g6, .int 0, .int 0, .int 0, .int 0])), (m0, .inr (16, [.int 1, .ref kl, .null, .ref tl]))]) H := hP
      have hD : va_D (LA s) ([(g0, .inr (8, [.ref g1, .ref g2, .ref g3, .ref g4, .ref g5, .ref g6, .int 0, .int 0, .int 0, .int 0])), (m0, .inr (16, [.int 1, .ref kl, .null, .ref tl]))]) := hD
      have hK : va_K D vwCl [(cL, .long)] s := hK
      refine W.widen (k := 301) (n := 40006) (Nat.le_of_ble_eq_true rfl) (Nat.le_of_ble_eq_true rfl) ?_
      subst hw
      refine lv_iload hx hb dL_law_379 (lv_at hl 1 rfl) ?_
      refine lv_icmp_eq (tgt := 386) hx hb dL_law_381 (by decide) (fun _ => ?_) (fun c_381 => absurd c_381 (by decide))
      refine lv_iload hx hb dL_law_386 (lv_at hl 1 rfl) ?_
      refine lv_if_ne (tgt := 410) hx hb dL_law_388 (by decide) (fun _ => ?_) (fun c_388 => absurd c_388 (by decide))
      refine lv_goto (tgt := 2351) hx hb dL_law_410 (by decide) ?_
      refine W.widen (k := 400) (n := 41000) (Nat.le_of_ble_eq_true rfl) (Nat.le_of_ble_eq_true rfl) ?_
      exact law_end C1 H locs ls hS (lv_sub hl [7, 2] rfl)
    · refine lv_iconst (v := 1) hx hb dL_law_365 (by decide) ?_
      refine lv_goto (tgt := 370) hx hb dL_law_366 (by decide) ?_
      have hS0 := hS
      have hFc := va_free (wc := [(m0, .inr (16, [.int 0, .ref kl, .null, .ref tl])), (kl, .inr (6, [.int 0, .ref (κ 0), .int 0]))]) hD hS hA [1, 2] rfl
      refine va_calli (va_runV (As := [.int (xs 1), .int (chr9 (xs 2)), .int 1]) (rest := []) ⟨hx, hb, hml, hown, hts⟩ (c_X9_rule l κ D (H).size (m0) (kl) (tl) ((xs 1)) ((chr9 (xs 2))) (1) ) (cwV 3 hts gd_law_c_X9_rule rfl rfl rfl (by decide +kernel) ⟨(Nat.le_of_ble_eq_true rfl), (Nat.le_of_ble_eq_true rfl)⟩) (preV hE hK hP hD hS hA [1, 2] rfl (by decide) [] rfl (va_recv hK hP (ci := 16) (q0 := 1) rfl rfl)) rfl rfl hl.1 rfl (lv_room (Nat.le_of_ble_eq_true rfl)) dL_law_370 ⟨(Nat.le_of_ble_eq_true rfl), (Nat.le_of_ble_eq_true rfl)⟩) hS (fun q _ h => hFc q h) hFc (fun r_10 u t H1 locs ht hvm hw hB hz1 hk1 hS => ?_)
      try dsimp only at hw
      obtain ⟨hP, hD, hK⟩ := jn (wc := [(m0, .inr (16, [.int 0, .ref kl, .null, .ref tl])), (kl, .inr (6, [.int 0, .ref (κ 0), .int 0]))]) (wr := [(g0, .inr (8, [.ref g1, .ref g2, .ref g3, .ref g4, .ref g5, .ref g6, .int 0, .int 0, .int 0, .int 0]))]) (w1 := [(m0, .inr (16, [.int 1, .ref kl, .null, .ref tl]))]) (t1 := []) hP hD hK hS0 hA [1, 2] [0] rfl rfl (by decide) (by decide) ht hvm hk1 hB
      generalize H1 = H at hP hS ⊢
      have hP : va_P D vwCl ([(g0, .inr (8, [.ref g1, .ref g2, .ref g3, .ref g4, .ref g5, .ref g6, .int 0, .int 0, .int 0, .int 0])), (m0, .inr (16, [.int 1, .ref kl, .null, .ref tl]))]) H := hP
      have hD : va_D (LA s) ([(g0, .inr (8, [.ref g1, .ref g2, .ref g3, .ref g4, .ref g5, .ref g6, .int 0, .int 0, .int 0, .int 0])), (m0, .inr (16, [.int 1, .ref kl, .null, .ref tl]))]) := hD
      have hK : va_K D vwCl [(cL, .long)] s := hK
      refine W.widen (k := 301) (n := 40006) (Nat.le_of_ble_eq_true rfl) (Nat.le_of_ble_eq_true rfl) ?_
      refine lv_istore (lv' := [(7, .int r_10), (6, .int 1), (0, .ref b), (1, .ref h0), (2, .ref m0), (3, .ref u0), (4, .ref w0), (5, .int 0)]) hx hb dL_law_373 hl (by decide) rfl (fun ls hl => ?_)
      refine lv_aload_n hx hb dL_law_375 rfl (lv_at hl 4 rfl) ?_
      have hS0 := hS
      have hFc := va_free (wc := [(m0, .inr (16, [.int 1, .ref kl, .null, .ref tl]))]) hD hS hA [1] rfl
      refine va_calli (va_runV (As := []) (rest := []) ⟨hx, hb, hml, hown, hts⟩ (c_X9_thrown l κ D (H).size (m0) (kl) (tl) (1) ) (cwV 0 hts gd_law_c_X9_thrown rfl rfl rfl (by decide +kernel) ⟨(Nat.le_of_ble_eq_true rfl), (Nat.le_of_ble_eq_true rfl)⟩) (preV hE hK hP hD hS hA [1] rfl (by decide) [] rfl (va_recv hK hP (ci := 16) (q0 := 1) rfl rfl)) rfl rfl hl.1 rfl (lv_room (Nat.le_of_ble_eq_true rfl)) dL_law_376 ⟨(Nat.le_of_ble_eq_true rfl), (Nat.le_of_ble_eq_true rfl)⟩) hS (fun q _ h => hFc q h) hFc (fun r_11 u t H1 locs ht hvm hw hB hz1 hk1 hS => ?_)
      try dsimp only at hw
      obtain ⟨hP, hD, hK⟩ := jn (wc := [(m0, .inr (16, [.int 1, .ref kl, .null, .ref tl]))]) (wr := [(g0, .inr (8, [.ref g1, .ref g2, .ref g3, .ref g4, .ref g5, .ref g6, .int 0, .int 0, .int 0, .int 0]))]) (w1 := [(m0, .inr (16, [.int 1, .ref kl, .null, .ref tl]))]) (t1 := []) hP hD hK hS0 hA [1] [0] rfl rfl (by decide) (by decide) ht hvm hk1 hB
      generalize H1 = H at hP hS ⊢
      have hP : va_P D vwCl ([(g0, .inr (8, [.ref g1, .ref g2, .ref g3, .ref g4, .ref g5, .ref g6, .int 0, .int 0, .int 0, .int 0])), (m0, .inr (16, [.int 1, .ref kl, .null, .ref tl]))]) H := hP
      have hD : va_D (LA s) ([(g0, .inr (8, [.ref g1, .ref g2, .ref g3, .ref g4, .ref g5, .ref g6, .int 0, .int 0, .int 0, .int 0])), (m0, .inr (16, [.int 1, .ref kl, .null, .ref tl]))]) := hD
      have hK : va_K D vwCl [(cL, .long)] s := hK
      refine W.widen (k := 301) (n := 40006) (Nat.le_of_ble_eq_true rfl) (Nat.le_of_ble_eq_true rfl) ?_
      subst hw
      refine lv_iload hx hb dL_law_379 (lv_at hl 1 rfl) ?_
      refine lv_icmp_eq (tgt := 386) hx hb dL_law_381 (by decide) (fun _ => ?_) (fun c_381 => absurd c_381 (by decide))
      refine lv_iload hx hb dL_law_386 (lv_at hl 1 rfl) ?_
      refine lv_if_ne (tgt := 410) hx hb dL_law_388 (by decide) (fun _ => ?_) (fun c_388 => absurd c_388 (by decide))
      refine lv_goto (tgt := 2351) hx hb dL_law_410 (by decide) ?_
      refine W.widen (k := 400) (n := 41000) (Nat.le_of_ble_eq_true rfl) (Nat.le_of_ble_eq_true rfl) ?_
      exact law_end C1 H locs ls hS (lv_sub hl [7, 2] rfl)
  · refine lv_iconst (v := 1) hx hb dL_law_331 (by decide) ?_
    refine lv_goto (tgt := 336) hx hb dL_law_332 (by decide) ?_
    refine lv_aload_n hx hb dL_law_336 rfl (lv_at hl 3 rfl) ?_
    have hS0 := hS
    have hFc := va_free (wc := [(h0, .inr (12, [.ref o0, .int 0, .ref g0, .ref o2, .ref o3, .ref o4, .ref o5, .int 0, .ref o6])), (u0, .inl (cL, 1, .inr (.inl (fun _ => 0))))]) hD hS hA [0, 4] rfl
    refine va_calli (vx_runSW (As := [.ref h0, .int (xs 1), .int (chr9 (xs 2)), .int 1, .ref u0]) (rest := []) ⟨hx, hb, hml, hown, hts⟩ (c_L_rule l hl0 κ D (H).size (h0) (o0) (g0) (o2) (o3) (o4) (o5) (o6) ((xs 1)) ((chr9 (xs 2))) (1) (u0) (cL) ((fun _ => 0)) ) (vx_cwSW 5 hts gd_law_c_L_rule rfl rfl rfl (by decide +kernel) ⟨(Nat.le_of_ble_eq_true rfl), (Nat.le_of_ble_eq_true rfl)⟩) (preS hE hK hP hD hS hA [0, 4] rfl (by decide) [0] rfl) rfl rfl hl.1 rfl (lv_room (Nat.le_of_ble_eq_true rfl)) dL_law_337 ⟨(Nat.le_of_ble_eq_true rfl), (Nat.le_of_ble_eq_true rfl)⟩) hS (fun q _ h => hFc q h) hFc (fun r_12 u t H1 locs ht hvm hw hB hz1 hk1 hS => ?_)
    try dsimp only at hw
    obtain ⟨hP, hD, hK⟩ := jn (wc := [(h0, .inr (12, [.ref o0, .int 0, .ref g0, .ref o2, .ref o3, .ref o4, .ref o5, .int 0, .ref o6])), (u0, .inl (cL, 1, .inr (.inl (fun _ => 0))))]) (wr := [(g0, .inr (8, [.ref g1, .ref g2, .ref g3, .ref g4, .ref g5, .ref g6, .int 0, .int 0, .int 0, .int 0])), (m0, .inr (16, [.int 0, .ref kl, .null, .ref tl])), (kl, .inr (6, [.int 0, .ref (κ 0), .int 0]))]) (w1 := []) (t1 := []) hP hD hK hS0 hA [0, 4] [1, 2, 3] rfl rfl (by decide) (by decide) ht hvm hk1 hB
    generalize H1 = H at hP hS ⊢
    have hP : va_P D vwCl ([(g0, .inr (8, [.ref g1, .ref g2, .ref g3, .ref g4, .ref g5, .ref g6, .int 0, .int 0, .int 0, .int 0])), (m0, .inr (16, [.int 0, .ref kl, .null, .ref tl])), (kl, .inr (6, [.int 0, .ref (κ 0), .int 0]))]) H := hP
    have hD : va_D (LA s) ([(g0, .inr (8, [.ref g1, .ref g2, .ref g3, .ref g4, .ref g5, .ref g6, .int 0, .int 0, .int 0, .int 0])), (m0, .inr (16, [.int 0, .ref kl, .null, .ref tl])), (kl, .inr (6, [.int 0, .ref (κ 0), .int 0]))]) := hD
    have hK : va_K D vwCl [(cL, .long)] s := hK
    refine W.widen (k := 301) (n := 40006) (Nat.le_of_ble_eq_true rfl) (Nat.le_of_ble_eq_true rfl) ?_
    subst hw
    refine lv_istore (lv' := [(6, .int 1), (0, .ref b), (1, .ref h0), (2, .ref m0), (3, .ref u0), (4, .ref w0), (5, .int 0)]) hx hb dL_law_340 hl (by decide) rfl (fun ls hl => ?_)
    refine lv_aload_n hx hb dL_law_342 rfl (lv_at hl 3 rfl) ?_
    refine lv_aload_n hx hb dL_law_343 rfl (lv_at hl 1 rfl) ?_
    refine lv_iload hx hb dL_law_344 (lv_at hl 6 rfl) ?_
    refine lv_iconst (v := 1) hx hb dL_law_346 (by decide) ?_
    refine lv_iadd hx hb dL_law_347 ?_
    refine lv_topi (fun v_13 ev_13 => ?_)
    have ev_13 : v_13 = 1 := ev_13.trans (by decide)
    subst ev_13
    refine va_sld hx hb hX hbl hbA hS (i := 1) (by unfold vp_in; decide) dL_law_348 ?_
    refine W.eq (g2 := F0 m 349 ls [.int (xs 1), .ref m0]) rfl ?_
    refine lv_aload_n hx hb dL_law_349 rfl (lv_at hl 1 rfl) ?_
    refine lv_iload hx hb dL_law_350 (lv_at hl 6 rfl) ?_
    refine lv_iconst (v := 2) hx hb dL_law_352 (by decide) ?_
    refine lv_iadd hx hb dL_law_353 ?_
    refine lv_topi (fun v_14 ev_14 => ?_)
    have ev_14 : v_14 = 2 := ev_14.trans (by decide)
    subst ev_14
    refine va_sld hx hb hX hbl hbA hS (i := 2) (by unfold vp_in; decide) dL_law_354 ?_
    refine W.eq (g2 := F0 m 355 ls [.int (xs 2), .int (xs 1), .ref m0]) rfl ?_
    refine lv_i2c (v := (chr9 (xs 2))) hx hb dL_law_355 rfl ?_
    refine lv_aload_n hx hb dL_law_356 rfl (lv_at hl 1 rfl) ?_
    refine lv_iload hx hb dL_law_357 (lv_at hl 6 rfl) ?_
    refine lv_iconst (v := 3) hx hb dL_law_359 (by decide) ?_
    refine lv_iadd hx hb dL_law_360 ?_
    refine lv_topi (fun v_15 ev_15 => ?_)
    have ev_15 : v_15 = 3 := ev_15.trans (by decide)
    subst ev_15
    refine va_sld hx hb hX hbl hbA hS (i := 3) (by unfold vp_in; decide) dL_law_361 ?_
    refine W.eq (g2 := F0 m 362 ls [.int (xs 3), .int (chr9 (xs 2)), .int (xs 1), .ref m0]) rfl ?_
    refine lv_if_eq (tgt := 369) hx hb dL_law_362 (by decide) (fun c_362 => ?_) (fun c_362 => ?_)
    · refine lv_iconst (v := 0) hx hb dL_law_369 (by decide) ?_
      have hS0 := hS
      have hFc := va_free (wc := [(m0, .inr (16, [.int 0, .ref kl, .null, .ref tl])), (kl, .inr (6, [.int 0, .ref (κ 0), .int 0]))]) hD hS hA [1, 2] rfl
      refine va_calli (va_runV (As := [.int (xs 1), .int (chr9 (xs 2)), .int 0]) (rest := []) ⟨hx, hb, hml, hown, hts⟩ (c_X9_rule l κ D (H).size (m0) (kl) (tl) ((xs 1)) ((chr9 (xs 2))) (0) ) (cwV 3 hts gd_law_c_X9_rule rfl rfl rfl (by decide +kernel) ⟨(Nat.le_of_ble_eq_true rfl), (Nat.le_of_ble_eq_true rfl)⟩) (preV hE hK hP hD hS hA [1, 2] rfl (by decide) [] rfl (va_recv hK hP (ci := 16) (q0 := 1) rfl rfl)) rfl rfl hl.1 rfl (lv_room (Nat.le_of_ble_eq_true rfl)) dL_law_370 ⟨(Nat.le_of_ble_eq_true rfl), (Nat.le_of_ble_eq_true rfl)⟩) hS (fun q _ h => hFc q h) hFc (fun r_16 u t H1 locs ht hvm hw hB hz1 hk1 hS => ?_)
      try dsimp only at hw
      obtain ⟨hP, hD, hK⟩ := jn (wc := [(m0, .inr (16, [.int 0, .ref kl, .null, .ref tl])), (kl, .inr (6, [.int 0, .ref (κ 0), .int 0]))]) (wr := [(g0, .inr (8, [.ref g1, .ref g2, .ref g3, .ref g4, .ref g5, .ref g6, .int 0, .int 0, .int 0, .int 0]))]) (w1 := [(m0, .inr (16, [.int 1, .ref kl, .null, .ref tl]))]) (t1 := []) hP hD hK hS0 hA [1, 2] [0] rfl rfl (by decide) (by decide) ht hvm hk1 hB
      generalize H1 = H at hP hS ⊢
      have hP : va_P D vwCl ([(g0, .inr (8, [.ref g1, .ref g2, .ref g3, .ref g4, .ref g5, .ref g6, .int 0, .int 0, .int 0, .int 0])), (m0, .inr (16, [.int 1, .ref kl, .null, .ref tl]))]) H := hP
      have hD : va_D (LA s) ([(g0, .inr (8, [.ref g1, .ref g2, .ref g3, .ref g4, .ref g5, .ref g6, .int 0, .int 0, .int 0, .int 0])), (m0, .inr (16, [.int 1, .ref kl, .null, .ref tl]))]) := hD
      have hK : va_K D vwCl [(cL, .long)] s := hK
      refine W.widen (k := 301) (n := 40006) (Nat.le_of_ble_eq_true rfl) (Nat.le_of_ble_eq_true rfl) ?_
      refine lv_istore (lv' := [(7, .int r_16), (6, .int 1), (0, .ref b), (1, .ref h0), (2, .ref m0), (3, .ref u0), (4, .ref w0), (5, .int 0)]) hx hb dL_law_373 hl (by decide) rfl (fun ls hl => ?_)
      refine lv_aload_n hx hb dL_law_375 rfl (lv_at hl 4 rfl) ?_
      have hS0 := hS
      have hFc := va_free (wc := [(m0, .inr (16, [.int 1, .ref kl, .null, .ref tl]))]) hD hS hA [1] rfl
      refine va_calli (va_runV (As := []) (rest := []) ⟨hx, hb, hml, hown, hts⟩ (c_X9_thrown l κ D (H).size (m0) (kl) (tl) (1) ) (cwV 0 hts gd_law_c_X9_thrown rfl rfl rfl (by decide +kernel) ⟨(Nat.le_of_ble_eq_true rfl), (Nat.le_of_ble_eq_true rfl)⟩) (preV hE hK hP hD hS hA [1] rfl (by decide) [] rfl (va_recv hK hP (ci := 16) (q0 := 1) rfl rfl)) rfl rfl hl.1 rfl (lv_room (Nat.le_of_ble_eq_true rfl)) dL_law_376 ⟨(Nat.le_of_ble_eq_true rfl), (Nat.le_of_ble_eq_true rfl)⟩) hS (fun q _ h => hFc q h) hFc (fun r_17 u t H1 locs ht hvm hw hB hz1 hk1 hS => ?_)
      try dsimp only at hw
      obtain ⟨hP, hD, hK⟩ := jn (wc := [(m0, .inr (16, [.int 1, .ref kl, .null, .ref tl]))]) (wr := [(g0, .inr (8, [.ref g1, .ref g2, .ref g3, .ref g4, .ref g5, .ref g6, .int 0, .int 0, .int 0, .int 0]))]) (w1 := [(m0, .inr (16, [.int 1, .ref kl, .null, .ref tl]))]) (t1 := []) hP hD hK hS0 hA [1] [0] rfl rfl (by decide) (by decide) ht hvm hk1 hB
      generalize H1 = H at hP hS ⊢
      have hP : va_P D vwCl ([(g0, .inr (8, [.ref g1, .ref g2, .ref g3, .ref g4, .ref g5, .ref g6, .int 0, .int 0, .int 0, .int 0])), (m0, .inr (16, [.int 1, .ref kl, .null, .ref tl]))]) H := hP
      have hD : va_D (LA s) ([(g0, .inr (8, [.ref g1, .ref g2, .ref g3, .ref g4, .ref g5, .ref g6, .int 0, .int 0, .int 0, .int 0])), (m0, .inr (16, [.int 1, .ref kl, .null, .ref tl]))]) := hD
      have hK : va_K D vwCl [(cL, .long)] s := hK
      refine W.widen (k := 301) (n := 40006) (Nat.le_of_ble_eq_true rfl) (Nat.le_of_ble_eq_true rfl) ?_
      subst hw
      refine lv_iload hx hb dL_law_379 (lv_at hl 1 rfl) ?_
      refine lv_icmp_eq (tgt := 386) hx hb dL_law_381 (by decide) (fun _ => ?_) (fun c_381 => absurd c_381 (by decide))
      refine lv_iload hx hb dL_law_386 (lv_at hl 1 rfl) ?_
      refine lv_if_ne (tgt := 410) hx hb dL_law_388 (by decide) (fun _ => ?_) (fun c_388 => absurd c_388 (by decide))
      refine lv_goto (tgt := 2351) hx hb dL_law_410 (by decide) ?_
      refine W.widen (k := 400) (n := 41000) (Nat.le_of_ble_eq_true rfl) (Nat.le_of_ble_eq_true rfl) ?_
      exact law_end C1 H locs ls hS (lv_sub hl [7, 2] rfl)
    · refine lv_iconst (v := 1) hx hb dL_law_365 (by decide) ?_
      refine lv_goto (tgt := 370) hx hb dL_law_366 (by decide) ?_
      have hS0 := hS
      have hFc := va_free (wc := [(m0, .inr (16, [.int 0, .ref kl, .null, .ref tl])), (kl, .inr (6, [.int 0, .ref (κ 0), .int 0]))]) hD hS hA [1, 2] rfl
      refine va_calli (va_runV (As := [.int (xs 1), .int (chr9 (xs 2)), .int 1]) (rest := []) ⟨hx, hb, hml, hown, hts⟩ (c_X9_rule l κ D (H).size (m0) (kl) (tl) ((xs 1)) ((chr9 (xs 2))) (1) ) (cwV 3 hts gd_law_c_X9_rule rfl rfl rfl (by decide +kernel) ⟨(Nat.le_of_ble_eq_true rfl), (Nat.le_of_ble_eq_true rfl)⟩) (preV hE hK hP hD hS hA [1, 2] rfl (by decide) [] rfl (va_recv hK hP (ci := 16) (q0 := 1) rfl rfl)) rfl rfl hl.1 rfl (lv_room (Nat.le_of_ble_eq_true rfl)) dL_law_370 ⟨(Nat.le_of_ble_eq_true rfl), (Nat.le_of_ble_eq_true rfl)⟩) hS (fun q _ h => hFc q h) hFc (fun r_18 u t H1 locs ht hvm hw hB hz1 hk1 hS => ?_)
      try dsimp only at hw
      obtain ⟨hP, hD, hK⟩ := jn (wc := [(m0, .inr (16, [.int 0, .ref kl, .null, .ref tl])), (kl, .inr (6, [.int 0, .ref (κ 0), .int 0]))]) (wr := [(g0, .inr (8, [.ref g1, .ref g2, .ref g3, .ref g4, .ref g5, .ref g6, .int 0, .int 0, .int 0, .int 0]))]) (w1 := [(m0, .inr (16, [.int 1, .ref kl, .null, .ref tl]))]) (t1 := []) hP hD hK hS0 hA [1, 2] [0] rfl rfl (by decide) (by decide) ht hvm hk1 hB
      generalize H1 = H at hP hS ⊢
      have hP : va_P D vwCl ([(g0, .inr (8, [.ref g1, .ref g2, .ref g3, .ref g4, .ref g5, .ref g6, .int 0, .int 0, .int 0, .int 0])), (m0, .inr (16, [.int 1, .ref kl, .null, .ref tl]))]) H := hP
      have hD : va_D (LA s) ([(g0, .inr (8, [.ref g1, .ref g2, .ref g3, .ref g4, .ref g5, .ref g6, .int 0, .int 0, .int 0, .int 0])), (m0, .inr (16, [.int 1, .ref kl, .null, .ref tl]))]) := hD
      have hK : va_K D vwCl [(cL, .long)] s := hK
      refine W.widen (k := 301) (n := 40006) (Nat.le_of_ble_eq_true rfl) (Nat.le_of_ble_eq_true rfl) ?_
      refine lv_istore (lv' := [(7, .int r_18), (6, .int 1), (0, .ref b), (1, .ref h0), (2, .ref m0), (3, .ref u0), (4, .ref w0), (5, .int 0)]) hx hb dL_law_373 hl (by decide) rfl (fun ls hl => ?_)
      refine lv_aload_n hx hb dL_law_375 rfl (lv_at hl 4 rfl) ?_
      have hS0 := hS
      have hFc := va_free (wc := [(m0, .inr (16, [.int 1, .ref kl, .null, .ref tl]))]) hD hS hA [1] rfl
      refine va_calli (va_runV (As := []) (rest := []) ⟨hx, hb, hml, hown, hts⟩ (c_X9_thrown l κ D (H).size (m0) (kl) (tl) (1) ) (cwV 0 hts gd_law_c_X9_thrown rfl rfl rfl (by decide +kernel) ⟨(Nat.le_of_ble_eq_true rfl), (Nat.le_of_ble_eq_true rfl)⟩) (preV hE hK hP hD hS hA [1] rfl (by decide) [] rfl (va_recv hK hP (ci := 16) (q0 := 1) rfl rfl)) rfl rfl hl.1 rfl (lv_room (Nat.le_of_ble_eq_true rfl)) dL_law_376 ⟨(Nat.le_of_ble_eq_true rfl), (Nat.le_of_ble_eq_true rfl)⟩) hS (fun q _ h => hFc q h) hFc (fun r_19 u t H1 locs ht hvm hw hB hz1 hk1 hS => ?_)
      try dsimp only at hw
      obtain ⟨hP, hD, hK⟩ := jn (wc := [(m0, .inr (16, [.int 1, .ref kl, .null, .ref tl]))]) (wr := [(g0, .inr (8, [.ref g1, .ref g2, .ref g3, .ref g4, .ref g5, .ref g6, .int 0, .int 0, .int 0, .int 0]))]) (w1 := [(m0, .inr (16, [.int 1, .ref kl, .null, .ref tl]))]) (t1 := []) hP hD hK hS0 hA [1] [0] rfl rfl (by decide) (by decide) ht hvm hk1 hB
      generalize H1 = H at hP hS ⊢
      have hP : va_P D vwCl ([(g0, .inr (8, [.ref g1, .ref g2, .ref g3, .ref g4, .ref g5, .ref g6, .int 0, .int 0, .int 0, .int 0])), (m0, .inr (16, [.int 1, .ref kl, .null, .ref tl]))]) H := hP
      have hD : va_D (LA s) ([(g0, .inr (8, [.ref g1, .ref g2, .ref g3, .ref g4, .ref g5, .ref g6, .int 0, .int 0, .int 0, .int 0])), (m0, .inr (16, [.int 1, .ref kl, .null, .ref tl]))]) := hD
      have hK : va_K D vwCl [(cL, .long)] s := hK
      refine W.widen (k := 301) (n := 40006) (Nat.le_of_ble_eq_true rfl) (Nat.le_of_ble_eq_true rfl) ?_
      subst hw
      refine lv_iload hx hb dL_law_379 (lv_at hl 1 rfl) ?_
      refine lv_icmp_eq (tgt := 386) hx hb dL_law_381 (by decide) (fun _ => ?_) (fun c_381 => absurd c_381 (by decide))
      refine lv_iload hx hb dL_law_386 (lv_at hl 1 rfl) ?_
      refine lv_if_ne (tgt := 410) hx hb dL_law_388 (by decide) (fun _ => ?_) (fun c_388 => absurd c_388 (by decide))
      refine lv_goto (tgt := 2351) hx hb dL_law_410 (by decide) ?_
      refine W.widen (k := 400) (n := 41000) (Nat.le_of_ble_eq_true rfl) (Nat.le_of_ble_eq_true rfl) ?_
      exact law_end C1 H locs ls hS (lv_sub hl [7, 2] rfl)

set_option maxHeartbeats 8000000 in
set_option maxRecDepth 100000 in
theorem law_holds {p : Program} {l : Launch} {e : Env} {s : State} {m : MethodId} {below : List Frame} {meth : Method} {c : Code} {b : Nat} {xs : Nat → Int32} {κ : Nat → Nat} (C0 : law_At2 p l s m meth c b xs κ) {D : va_G} {h0 : Nat} {o0 : Nat} {g0 : Nat} {o2 : Nat} {o3 : Nat} {o4 : Nat} {o5 : Nat} {o6 : Nat} {g1 : Nat} {g2 : Nat} {g3 : Nat} {g4 : Nat} {g5 : Nat} {g6 : Nat} {m0 : Nat} {kl : Nat} {tl : Nat} {u0 : Nat} {w0 : Nat} {cL : ClassId}  (H : Heap) (locs : List Loc) (ls : Array Slot) (hK : va_K D vwCl [(cL, .long)] s) (hP : va_P D vwCl [(h0, .inr (12, [.ref o0, .int 0, .ref g0, .ref o2, .ref o3, .ref o4, .ref o5, .int 0, .ref o6])), (g0, .inr (8, [.ref g1, .ref g2, .ref g3, .ref g4, .ref g5, .ref g6, .int 0, .int 0, .int 0, .int 0])), (m0, .inr (16, [.int 0, .ref kl, .null, .ref tl])), (kl, .inr (6, [.int 0, .ref (κ 0), .int 0])), (u0, .inl (cL, 1, .inr (.inl (fun _ => 0))))] H) (hD : va_D (LA s) [(h0, .inr (12, [.ref o0, .int 0, .ref g0, .ref o2, .ref o3, .ref o4, .ref o5, .int 0, .ref o6])), (g0, .inr (8, [.ref g1, .ref g2, .ref g3, .ref g4, .ref g5, .ref g6, .int 0, .int 0, .int 0, .int 0])), (m0, .inr (16, [.int 0, .ref kl, .null, .ref tl])), (kl, .inr (6, [.int 0, .ref (κ 0), .int 0])), (u0, .inl (cL, 1, .inr (.inl (fun _ => 0))))]) (hS : va_S (LA s) s.heap H locs) (hl : lv_has ls 9 [(0, .ref b), (1, .ref h0), (2, .ref m0), (3, .ref u0), (4, .ref w0), (5, .int 0)]) : W p l e room_1 s m #[Value.ref b] below meth c H locs 300 40000 (lw_Z below #[Value.ref b] s) (F0 m 413 ls []) := by
  have C1 := C0
  obtain ⟨hl0, hx, hb, hr, hml, hown, hts, hX, hbl, hlocks, hE⟩ := C0
  have hA : ∀ q : Nat, s.heap.size ≤ q → LA s q := fun _ h => h
  have hbA : ¬ LA s b := Nat.not_le.mpr hbl
  refine lv_aload_n hx hb dL_law_413 rfl (lv_at hl 1 rfl) ?_
  refine lv_aload_n hx hb dL_law_414 rfl (lv_at hl 0 rfl) ?_
  refine lv_iload hx hb dL_law_415 (lv_at hl 5 rfl) ?_
  refine lv_iconst (v := 1) hx hb dL_law_417 (by decide) ?_
  refine lv_iadd hx hb dL_law_418 ?_
  refine lv_topi (fun v_1 ev_1 => ?_)
  have ev_1 : v_1 = 1 := ev_1.trans (by decide)
  subst ev_1
  refine va_sld hx hb hX hbl hbA hS (i := 1) (by unfold vp_in; decide) dL_law_419 ?_
  refine W.eq (g2 := F0 m 420 ls [.int (xs 1), .ref h0]) rfl ?_
  refine lv_aload_n hx hb dL_law_420 rfl (lv_at hl 0 rfl) ?_
  refine lv_iload hx hb dL_law_421 (lv_at hl 5 rfl) ?_
  refine lv_iconst (v := 2) hx hb dL_law_423 (by decide) ?_
  refine lv_iadd hx hb dL_law_424 ?_
  refine lv_topi (fun v_2 ev_2 => ?_)
  have ev_2 : v_2 = 2 := ev_2.trans (by decide)
  subst ev_2
  refine va_sld hx hb hX hbl hbA hS (i := 2) (by unfold vp_in; decide) dL_law_425 ?_
  refine W.eq (g2 := F0 m 426 ls [.int (xs 2), .int (xs 1), .ref h0]) rfl ?_
  refine lv_i2c (v := (chr9 (xs 2))) hx hb dL_law_426 rfl ?_
  refine lv_aload_n hx hb dL_law_427 rfl (lv_at hl 3 rfl) ?_
  have hS0 := hS
  have hFc := va_free (wc := [(h0, .inr (12, [.ref o0, .int 0, .ref g0, .ref o2, .ref o3, .ref o4, .ref o5, .int 0, .ref o6])), (u0, .inl (cL, 1, .inr (.inl (fun _ => 0))))]) hD hS hA [0, 4] rfl
  refine va_calli (vx_runSW (As := [.ref h0, .int (xs 1), .int (chr9 (xs 2)), .ref u0]) (rest := []) ⟨hx, hb, hml, hown, hts⟩ (c_L_holds l hl0 κ D (H).size (h0) (o0) (g0) (o2) (o3) (o4) (o5) (o6) ((xs 1)) ((chr9 (xs 2))) (u0) (cL) ((fun _ => 0)) ) (vx_cwSW 4 hts gd_law_c_L_holds rfl rfl rfl (by decide +kernel) ⟨(Nat.le_of_ble_eq_true rfl), (Nat.le_of_ble_eq_true rfl)⟩) (preS hE hK hP hD hS hA [0, 4] rfl (by decide) [0] rfl) rfl rfl hl.1 rfl (lv_room (Nat.le_of_ble_eq_true rfl)) dL_law_428 ⟨(Nat.le_of_ble_eq_true rfl), (Nat.le_of_ble_eq_true rfl)⟩) hS (fun q _ h => hFc q h) hFc (fun r_3 u t H1 locs ht hvm hw hB hz1 hk1 hS => ?_)
  try dsimp only at hw
  obtain ⟨hP, hD, hK⟩ := jn (wc := [(h0, .inr (12, [.ref o0, .int 0, .ref g0, .ref o2, .ref o3, .ref o4, .ref o5, .int 0, .ref o6])), (u0, .inl (cL, 1, .inr (.inl (fun _ => 0))))]) (wr := [(g0, .inr (8, [.ref g1, .ref g2, .ref g3, .ref g4, .ref g5, .ref g6, .int 0, .int 0, .int 0, .int 0])), (m0, .inr (16, [.int 0, .ref kl, .null, .ref tl])), (kl, .inr (6, [.int 0, .ref (κ 0), .int 0]))]) (w1 := []) (t1 := []) hP hD hK hS0 hA [0, 4] [1, 2, 3] rfl rfl (by decide) (by decide) ht hvm hk1 hB
  generalize H1 = H at hP hS ⊢
  have hP : va_P D vwCl ([(g0, .inr (8, [.ref g1, .ref g2, .ref g3, .ref g4, .ref g5, .ref g6, .int 0, .int 0, .int 0, .int 0])), (m0, .inr (16, [.int 0, .ref kl, .null, .ref tl])), (kl, .inr (6, [.int 0, .ref (κ 0), .int 0]))]) H := hP
  have hD : va_D (LA s) ([(g0, .inr (8, [.ref g1, .ref g2, .ref g3, .ref g4, .ref g5, .ref g6, .int 0, .int 0, .int 0, .int 0])), (m0, .inr (16, [.int 0, .ref kl, .null, .ref tl])), (kl, .inr (6, [.int 0, .ref (κ 0), .int 0]))]) := hD
  have hK : va_K D vwCl [(cL, .long)] s := hK
  refine W.widen (k := 301) (n := 40006) (Nat.le_of_ble_eq_true rfl) (Nat.le_of_ble_eq_true rfl) ?_
  subst hw
  refine lv_istore (lv' := [(6, .int 1), (0, .ref b), (1, .ref h0), (2, .ref m0), (3, .ref u0), (4, .ref w0), (5, .int 0)]) hx hb dL_law_431 hl (by decide) rfl (fun ls hl => ?_)
  refine lv_aload_n hx hb dL_law_433 rfl (lv_at hl 3 rfl) ?_
  refine lv_aload_n hx hb dL_law_434 rfl (lv_at hl 1 rfl) ?_
  refine lv_iload hx hb dL_law_435 (lv_at hl 6 rfl) ?_
  refine lv_iconst (v := 1) hx hb dL_law_437 (by decide) ?_
  refine lv_iadd hx hb dL_law_438 ?_
  refine lv_topi (fun v_4 ev_4 => ?_)
  have ev_4 : v_4 = 1 := ev_4.trans (by decide)
  subst ev_4
  refine va_sld hx hb hX hbl hbA hS (i := 1) (by unfold vp_in; decide) dL_law_439 ?_
  refine W.eq (g2 := F0 m 440 ls [.int (xs 1), .ref m0]) rfl ?_
  refine lv_aload_n hx hb dL_law_440 rfl (lv_at hl 1 rfl) ?_
  refine lv_iload hx hb dL_law_441 (lv_at hl 6 rfl) ?_
  refine lv_iconst (v := 2) hx hb dL_law_443 (by decide) ?_
  refine lv_iadd hx hb dL_law_444 ?_
  refine lv_topi (fun v_5 ev_5 => ?_)
  have ev_5 : v_5 = 2 := ev_5.trans (by decide)
  subst ev_5
  refine va_sld hx hb hX hbl hbA hS (i := 2) (by unfold vp_in; decide) dL_law_445 ?_
  refine W.eq (g2 := F0 m 446 ls [.int (xs 2), .int (xs 1), .ref m0]) rfl ?_
  refine lv_i2c (v := (chr9 (xs 2))) hx hb dL_law_446 rfl ?_
  have hS0 := hS
  have hFc := va_free (wc := [(m0, .inr (16, [.int 0, .ref kl, .null, .ref tl])), (kl, .inr (6, [.int 0, .ref (κ 0), .int 0]))]) hD hS hA [1, 2] rfl
  refine va_calli (va_runV (As := [.int (xs 1), .int (chr9 (xs 2))]) (rest := []) ⟨hx, hb, hml, hown, hts⟩ (c_X9_holds l κ D (H).size (m0) (kl) (tl) ((xs 1)) ((chr9 (xs 2))) ) (cwV 2 hts gd_law_c_X9_holds rfl rfl rfl (by decide +kernel) ⟨(Nat.le_of_ble_eq_true rfl), (Nat.le_of_ble_eq_true rfl)⟩) (preV hE hK hP hD hS hA [1, 2] rfl (by decide) [] rfl (va_recv hK hP (ci := 16) (q0 := 1) rfl rfl)) rfl rfl hl.1 rfl (lv_room (Nat.le_of_ble_eq_true rfl)) dL_law_447 ⟨(Nat.le_of_ble_eq_true rfl), (Nat.le_of_ble_eq_true rfl)⟩) hS (fun q _ h => hFc q h) hFc (fun r_6 u t H1 locs ht hvm hw hB hz1 hk1 hS => ?_)
  try dsimp only at hw
  obtain ⟨hP, hD, hK⟩ := jn (wc := [(m0, .inr (16, [.int 0, .ref kl, .null, .ref tl])), (kl, .inr (6, [.int 0, .ref (κ 0), .int 0]))]) (wr := [(g0, .inr (8, [.ref g1, .ref g2, .ref g3, .ref g4, .ref g5, .ref g6, .int 0, .int 0, .int 0, .int 0]))]) (w1 := [(m0, .inr (16, [.int 1, .ref kl, .null, .ref tl]))]) (t1 := []) hP hD hK hS0 hA [1, 2] [0] rfl rfl (by decide) (by decide) ht hvm hk1 hB
  generalize H1 = H at hP hS ⊢
  have hP : va_P D vwCl ([(g0, .inr (8, [.ref g1, .ref g2, .ref g3, .ref g4, .ref g5, .ref g6, .int 0, .int 0, .int 0, .int 0])), (m0, .inr (16, [.int 1, .ref kl, .null, .ref tl]))]) H := hP
  have hD : va_D (LA s) ([(g0, .inr (8, [.ref g1, .ref g2, .ref g3, .ref g4, .ref g5, .ref g6, .int 0, .int 0, .int 0, .int 0])), (m0, .inr (16, [.int 1, .ref kl, .null, .ref tl]))]) := hD
  have hK : va_K D vwCl [(cL, .long)] s := hK
  refine W.widen (k := 301) (n := 40006) (Nat.le_of_ble_eq_true rfl) (Nat.le_of_ble_eq_true rfl) ?_
  refine lv_istore (lv' := [(7, .int r_6), (6, .int 1), (0, .ref b), (1, .ref h0), (2, .ref m0), (3, .ref u0), (4, .ref w0), (5, .int 0)]) hx hb dL_law_450 hl (by decide) rfl (fun ls hl => ?_)
  refine lv_aload_n hx hb dL_law_452 rfl (lv_at hl 4 rfl) ?_
  have hS0 := hS
  have hFc := va_free (wc := [(m0, .inr (16, [.int 1, .ref kl, .null, .ref tl]))]) hD hS hA [1] rfl
  refine va_calli (va_runV (As := []) (rest := []) ⟨hx, hb, hml, hown, hts⟩ (c_X9_thrown l κ D (H).size (m0) (kl) (tl) (1) ) (cwV 0 hts gd_law_c_X9_thrown rfl rfl rfl (by decide +kernel) ⟨(Nat.le_of_ble_eq_true rfl), (Nat.le_of_ble_eq_true rfl)⟩) (preV hE hK hP hD hS hA [1] rfl (by decide) [] rfl (va_recv hK hP (ci := 16) (q0 := 1) rfl rfl)) rfl rfl hl.1 rfl (lv_room (Nat.le_of_ble_eq_true rfl)) dL_law_453 ⟨(Nat.le_of_ble_eq_true rfl), (Nat.le_of_ble_eq_true rfl)⟩) hS (fun q _ h => hFc q h) hFc (fun r_7 u t H1 locs ht hvm hw hB hz1 hk1 hS => ?_)
  try dsimp only at hw
  obtain ⟨hP, hD, hK⟩ := jn (wc := [(m0, .inr (16, [.int 1, .ref kl, .null, .ref tl]))]) (wr := [(g0, .inr (8, [.ref g1, .ref g2, .ref g3, .ref g4, .ref g5, .ref g6, .int 0, .int 0, .int 0, .int 0]))]) (w1 := [(m0, .inr (16, [.int 1, .ref kl, .null, .ref tl]))]) (t1 := []) hP hD hK hS0 hA [1] [0] rfl rfl (by decide) (by decide) ht hvm hk1 hB
  generalize H1 = H at hP hS ⊢
  have hP : va_P D vwCl ([(g0, .inr (8, [.ref g1, .ref g2, .ref g3, .ref g4, .ref g5, .ref g6, .int 0, .int 0, .int 0, .int 0])), (m0, .inr (16, [.int 1, .ref kl, .null, .ref tl]))]) H := hP
  have hD : va_D (LA s) ([(g0, .inr (8, [.ref g1, .ref g2, .ref g3, .ref g4, .ref g5, .ref g6, .int 0, .int 0, .int 0, .int 0])), (m0, .inr (16, [.int 1, .ref kl, .null, .ref tl]))]) := hD
  have hK : va_K D vwCl [(cL, .long)] s := hK
  refine W.widen (k := 301) (n := 40006) (Nat.le_of_ble_eq_true rfl) (Nat.le_of_ble_eq_true rfl) ?_
  subst hw
  refine lv_iload hx hb dL_law_456 (lv_at hl 1 rfl) ?_
  refine lv_icmp_eq (tgt := 463) hx hb dL_law_458 (by decide) (fun _ => ?_) (fun c_458 => absurd c_458 (by decide))
  refine lv_iload hx hb dL_law_463 (lv_at hl 1 rfl) ?_
  refine lv_if_ne (tgt := 487) hx hb dL_law_465 (by decide) (fun _ => ?_) (fun c_465 => absurd c_465 (by decide))
  refine lv_goto (tgt := 2351) hx hb dL_law_487 (by decide) ?_
  refine W.widen (k := 400) (n := 41000) (Nat.le_of_ble_eq_true rfl) (Nat.le_of_ble_eq_true rfl) ?_
  exact law_end C1 H locs ls hS (lv_sub hl [7, 2] rfl)

set_option maxHeartbeats 8000000 in
set_option maxRecDepth 100000 in
theorem law_copy {p : Program} {l : Launch} {e : Env} {s : State} {m : MethodId} {below : List Frame} {meth : Method} {c : Code} {b : Nat} {xs : Nat → Int32} {κ : Nat → Nat} (C0 : law_At2 p l s m meth c b xs κ) {D : va_G} {h0 : Nat} {o0 : Nat} {g0 : Nat} {o2 : Nat} {o3 : Nat} {o4 : Nat} {o5 : Nat} {o6 : Nat} {g1 : Nat} {g2 : Nat} {g3 : Nat} {g4 : Nat} {g5 : Nat} {g6 : Nat} {m0 : Nat} {kl : Nat} {tl : Nat} {u0 : Nat} {w0 : Nat} {cL : ClassId}  (H : Heap) (locs : List Loc) (ls : Array Slot) (hK : va_K D vwCl [(cL, .long)] s) (hP : va_P D vwCl [(h0, .inr (12, [.ref o0, .int 0, .ref g0, .ref o2, .ref o3, .ref o4, .ref o5, .int 0, .ref o6])), (g0, .inr (8, [.ref g1, .ref g2, .ref g3, .ref g4, .ref g5, .ref g6, .int 0, .int 0, .int 0, .int 0])), (m0, .inr (16, [.int 0, .ref kl, .null, .ref tl])), (kl, .inr (6, [.int 0, .ref (κ 0), .int 0])), (u0, .inl (cL, 1, .inr (.inl (fun _ => 0))))] H) (hD : va_D (LA s) [(h0, .inr (12, [.ref o0, .int 0, .ref g0, .ref o2, .ref o3, .ref o4, .ref o5, .int 0, .ref o6])), (g0, .inr (8, [.ref g1, .ref g2, .ref g3, .ref g4, .ref g5, .ref g6, .int 0, .int 0, .int 0, .int 0])), (m0, .inr (16, [.int 0, .ref kl, .null, .ref tl])), (kl, .inr (6, [.int 0, .ref (κ 0), .int 0])), (u0, .inl (cL, 1, .inr (.inl (fun _ => 0))))]) (hS : va_S (LA s) s.heap H locs) (hl : lv_has ls 9 [(0, .ref b), (1, .ref h0), (2, .ref m0), (3, .ref u0), (4, .ref w0), (5, .int 0)]) : W p l e room_1 s m #[Value.ref b] below meth c H locs 300 40000 (lw_Z below #[Value.ref b] s) (F0 m 490 ls []) := by
  have C1 := C0
  obtain ⟨hl0, hx, hb, hr, hml, hown, hts, hX, hbl, hlocks, hE⟩ := C0
  have hA : ∀ q : Nat, s.heap.size ≤ q → LA s q := fun _ h => h
  have hbA : ¬ LA s b := Nat.not_le.mpr hbl
  refine lv_aload_n hx hb dL_law_490 rfl (lv_at hl 1 rfl) ?_
  refine lv_aload_n hx hb dL_law_491 rfl (lv_at hl 0 rfl) ?_
  refine lv_iload hx hb dL_law_492 (lv_at hl 5 rfl) ?_
  refine lv_iconst (v := 1) hx hb dL_law_494 (by decide) ?_
  refine lv_iadd hx hb dL_law_495 ?_
  refine lv_topi (fun v_1 ev_1 => ?_)
  have ev_1 : v_1 = 1 := ev_1.trans (by decide)
  subst ev_1
  refine va_sld hx hb hX hbl hbA hS (i := 1) (by unfold vp_in; decide) dL_law_496 ?_
  refine W.eq (g2 := F0 m 497 ls [.int (xs 1), .ref h0]) rfl ?_
  refine lv_aload_n hx hb dL_law_497 rfl (lv_at hl 3 rfl) ?_
  have hS0 := hS
  have hFc := va_free (wc := [(h0, .inr (12, [.ref o0, .int 0, .ref g0, .ref o2, .ref o3, .ref o4, .ref o5, .int 0, .ref o6])), (u0, .inl (cL, 1, .inr (.inl (fun _ => 0))))]) hD hS hA [0, 4] rfl
  refine va_calli (vx_runSW (As := [.ref h0, .int (xs 1), .ref u0]) (rest := []) ⟨hx, hb, hml, hown, hts⟩ (c_L_copy l hl0 κ D (H).size (h0) (o0) (g0) (o2) (o3) (o4) (o5) (o6) ((xs 1)) (u0) (cL) ((fun _ => 0)) ) (vx_cwSW 3 hts gd_law_c_L_copy rfl rfl rfl (by decide +kernel) ⟨(Nat.le_of_ble_eq_true rfl), (Nat.le_of_ble_eq_true rfl)⟩) (preS hE hK hP hD hS hA [0, 4] rfl (by decide) [0] rfl) rfl rfl hl.1 rfl (lv_room (Nat.le_of_ble_eq_true rfl)) dL_law_498 ⟨(Nat.le_of_ble_eq_true rfl), (Nat.le_of_ble_eq_true rfl)⟩) hS (fun q _ h => hFc q h) hFc (fun r_2 u t H1 locs ht hvm hw hB hz1 hk1 hS => ?_)
  try dsimp only at hw
  obtain ⟨hP, hD, hK⟩ := jn (wc := [(h0, .inr (12, [.ref o0, .int 0, .ref g0, .ref o2, .ref o3, .ref o4, .ref o5, .int 0, .ref o6])), (u0, .inl (cL, 1, .inr (.inl (fun _ => 0))))]) (wr := [(g0, .inr (8, [.ref g1, .ref g2, .ref g3, .ref g4, .ref g5, .ref g6, .int 0, .int 0, .int 0, .int 0])), (m0, .inr (16, [.int 0, .ref kl, .null, .ref tl])), (kl, .inr (6, [.int 0, .ref (κ 0), .int 0]))]) (w1 := []) (t1 := []) hP hD hK hS0 hA [0, 4] [1, 2, 3] rfl rfl (by decide) (by decide) ht hvm hk1 hB
  generalize H1 = H at hP hS ⊢
  have hP : va_P D vwCl ([(g0, .inr (8, [.ref g1, .ref g2, .ref g3, .ref g4, .ref g5, .ref g6, .int 0, .int 0, .int 0, .int 0])), (m0, .inr (16, [.int 0, .ref kl, .null, .ref tl])), (kl, .inr (6, [.int 0, .ref (κ 0), .int 0]))]) H := hP
  have hD : va_D (LA s) ([(g0, .inr (8, [.ref g1, .ref g2, .ref g3, .ref g4, .ref g5, .ref g6, .int 0, .int 0, .int 0, .int 0])), (m0, .inr (16, [.int 0, .ref kl, .null, .ref tl])), (kl, .inr (6, [.int 0, .ref (κ 0), .int 0]))]) := hD
  have hK : va_K D vwCl [(cL, .long)] s := hK
  refine W.widen (k := 301) (n := 40006) (Nat.le_of_ble_eq_true rfl) (Nat.le_of_ble_eq_true rfl) ?_
  subst hw
  refine lv_istore (lv' := [(6, .int 1), (0, .ref b), (1, .ref h0), (2, .ref m0), (3, .ref u0), (4, .ref w0), (5, .int 0)]) hx hb dL_law_501 hl (by decide) rfl (fun ls hl => ?_)
  refine lv_aload_n hx hb dL_law_503 rfl (lv_at hl 3 rfl) ?_
  refine lv_aload_n hx hb dL_law_504 rfl (lv_at hl 1 rfl) ?_
  refine lv_iload hx hb dL_law_505 (lv_at hl 6 rfl) ?_
  refine lv_iconst (v := 1) hx hb dL_law_507 (by decide) ?_
  refine lv_iadd hx hb dL_law_508 ?_
  refine lv_topi (fun v_3 ev_3 => ?_)
  have ev_3 : v_3 = 1 := ev_3.trans (by decide)
  subst ev_3
  refine va_sld hx hb hX hbl hbA hS (i := 1) (by unfold vp_in; decide) dL_law_509 ?_
  refine W.eq (g2 := F0 m 510 ls [.int (xs 1), .ref m0]) rfl ?_
  have hS0 := hS
  have hFc := va_free (wc := [(m0, .inr (16, [.int 0, .ref kl, .null, .ref tl])), (kl, .inr (6, [.int 0, .ref (κ 0), .int 0]))]) hD hS hA [1, 2] rfl
  refine va_calli (va_runV (As := [.int (xs 1)]) (rest := []) ⟨hx, hb, hml, hown, hts⟩ (c_X9_copy l κ D (H).size (m0) (kl) (tl) ((xs 1)) ) (cwV 1 hts gd_law_c_X9_copy rfl rfl rfl (by decide +kernel) ⟨(Nat.le_of_ble_eq_true rfl), (Nat.le_of_ble_eq_true rfl)⟩) (preV hE hK hP hD hS hA [1, 2] rfl (by decide) [] rfl (va_recv hK hP (ci := 16) (q0 := 1) rfl rfl)) rfl rfl hl.1 rfl (lv_room (Nat.le_of_ble_eq_true rfl)) dL_law_510 ⟨(Nat.le_of_ble_eq_true rfl), (Nat.le_of_ble_eq_true rfl)⟩) hS (fun q _ h => hFc q h) hFc (fun r_4 u t H1 locs ht hvm hw hB hz1 hk1 hS => ?_)
  try dsimp only at hw
  obtain ⟨hP, hD, hK⟩ := jn (wc := [(m0, .inr (16, [.int 0, .ref kl, .null, .ref tl])), (kl, .inr (6, [.int 0, .ref (κ 0), .int 0]))]) (wr := [(g0, .inr (8, [.ref g1, .ref g2, .ref g3, .ref g4, .ref g5, .ref g6, .int 0, .int 0, .int 0, .int 0]))]) (w1 := [(m0, .inr (16, [.int 1, .ref kl, .null, .ref tl]))]) (t1 := []) hP hD hK hS0 hA [1, 2] [0] rfl rfl (by decide) (by decide) ht hvm hk1 hB
  generalize H1 = H at hP hS ⊢
  have hP : va_P D vwCl ([(g0, .inr (8, [.ref g1, .ref g2, .ref g3, .ref g4, .ref g5, .ref g6, .int 0, .int 0, .int 0, .int 0])), (m0, .inr (16, [.int 1, .ref kl, .null, .ref tl]))]) H := hP
  have hD : va_D (LA s) ([(g0, .inr (8, [.ref g1, .ref g2, .ref g3, .ref g4, .ref g5, .ref g6, .int 0, .int 0, .int 0, .int 0])), (m0, .inr (16, [.int 1, .ref kl, .null, .ref tl]))]) := hD
  have hK : va_K D vwCl [(cL, .long)] s := hK
  refine W.widen (k := 301) (n := 40006) (Nat.le_of_ble_eq_true rfl) (Nat.le_of_ble_eq_true rfl) ?_
  refine lv_istore (lv' := [(7, .int r_4), (6, .int 1), (0, .ref b), (1, .ref h0), (2, .ref m0), (3, .ref u0), (4, .ref w0), (5, .int 0)]) hx hb dL_law_513 hl (by decide) rfl (fun ls hl => ?_)
  refine lv_aload_n hx hb dL_law_515 rfl (lv_at hl 4 rfl) ?_
  have hS0 := hS
  have hFc := va_free (wc := [(m0, .inr (16, [.int 1, .ref kl, .null, .ref tl]))]) hD hS hA [1] rfl
  refine va_calli (va_runV (As := []) (rest := []) ⟨hx, hb, hml, hown, hts⟩ (c_X9_thrown l κ D (H).size (m0) (kl) (tl) (1) ) (cwV 0 hts gd_law_c_X9_thrown rfl rfl rfl (by decide +kernel) ⟨(Nat.le_of_ble_eq_true rfl), (Nat.le_of_ble_eq_true rfl)⟩) (preV hE hK hP hD hS hA [1] rfl (by decide) [] rfl (va_recv hK hP (ci := 16) (q0 := 1) rfl rfl)) rfl rfl hl.1 rfl (lv_room (Nat.le_of_ble_eq_true rfl)) dL_law_516 ⟨(Nat.le_of_ble_eq_true rfl), (Nat.le_of_ble_eq_true rfl)⟩) hS (fun q _ h => hFc q h) hFc (fun r_5 u t H1 locs ht hvm hw hB hz1 hk1 hS => ?_)
  try dsimp only at hw
  obtain ⟨hP, hD, hK⟩ := jn (wc := [(m0, .inr (16, [.int 1, .ref kl, .null, .ref tl]))]) (wr := [(g0, .inr (8, [.ref g1, .ref g2, .ref g3, .ref g4, .ref g5, .ref g6, .int 0, .int 0, .int 0, .int 0]))]) (w1 := [(m0, .inr (16, [.int 1, .ref kl, .null, .ref tl]))]) (t1 := []) hP hD hK hS0 hA [1] [0] rfl rfl (by decide) (by decide) ht hvm hk1 hB
  generalize H1 = H at hP hS ⊢
  have hP : va_P D vwCl ([(g0, .inr (8, [.ref g1, .ref g2, .ref g3, .ref g4, .ref g5, .ref g6, .int 0, .int 0, .int 0, .int 0])), (m0, .inr (16, [.int 1, .ref kl, .null, .ref tl]))]) H := hP
  have hD : va_D (LA s) ([(g0, .inr (8, [.ref g1, .ref g2, .ref g3, .ref g4, .ref g5, .ref g6, .int 0, .int 0, .int 0, .int 0])), (m0, .inr (16, [.int 1, .ref kl, .null, .ref tl]))]) := hD
  have hK : va_K D vwCl [(cL, .long)] s := hK
  refine W.widen (k := 301) (n := 40006) (Nat.le_of_ble_eq_true rfl) (Nat.le_of_ble_eq_true rfl) ?_
  subst hw
  refine lv_iload hx hb dL_law_519 (lv_at hl 1 rfl) ?_
  refine lv_icmp_eq (tgt := 526) hx hb dL_law_521 (by decide) (fun _ => ?_) (fun c_521 => absurd c_521 (by decide))
  refine lv_iload hx hb dL_law_526 (lv_at hl 1 rfl) ?_
  refine lv_if_ne (tgt := 543) hx hb dL_law_528 (by decide) (fun _ => ?_) (fun c_528 => absurd c_528 (by decide))
  refine lv_goto (tgt := 2351) hx hb dL_law_543 (by decide) ?_
  refine W.widen (k := 400) (n := 41000) (Nat.le_of_ble_eq_true rfl) (Nat.le_of_ble_eq_true rfl) ?_
  exact law_end C1 H locs ls hS (lv_sub hl [7, 2] rfl)

set_option maxHeartbeats 8000000 in
set_option maxRecDepth 100000 in
theorem law_unlike {p : Program} {l : Launch} {e : Env} {s : State} {m : MethodId} {below : List Frame} {meth : Method} {c : Code} {b : Nat} {xs : Nat → Int32} {κ : Nat → Nat} (C0 : law_At2 p l s m meth c b xs κ) {D : va_G} {h0 : Nat} {o0 : Nat} {g0 : Nat} {o2 : Nat} {o3 : Nat} {o4 : Nat} {o5 : Nat} {o6 : Nat} {g1 : Nat} {g2 : Nat} {g3 : Nat} {g4 : Nat} {g5 : Nat} {g6 : Nat} {m0 : Nat} {kl : Nat} {tl : Nat} {u0 : Nat} {w0 : Nat} {cL : ClassId}  (H : Heap) (locs : List Loc) (ls : Array Slot) (hK : va_K D vwCl [(cL, .long)] s) (hP : va_P D vwCl [(h0, .inr (12, [.ref o0, .int 0, .ref g0, .ref o2, .ref o3, .ref o4, .ref o5, .int 0, .ref o6])), (g0, .inr (8, [.ref g1, .ref g2, .ref g3, .ref g4, .ref g5, .ref g6, .int 0, .int 0, .int 0, .int 0])), (m0, .inr (16, [.int 0, .ref kl, .null, .ref tl])), (kl, .inr (6, [.int 0, .ref (κ 0), .int 0])), (u0, .inl (cL, 1, .inr (.inl (fun _ => 0))))] H) (hD : va_D (LA s) [(h0, .inr (12, [.ref o0, .int 0, .ref g0, .ref o2, .ref o3, .ref o4, .ref o5, .int 0, .ref o6])), (g0, .inr (8, [.ref g1, .ref g2, .ref g3, .ref g4, .ref g5, .ref g6, .int 0, .int 0, .int 0, .int 0])), (m0, .inr (16, [.int 0, .ref kl, .null, .ref tl])), (kl, .inr (6, [.int 0, .ref (κ 0), .int 0])), (u0, .inl (cL, 1, .inr (.inl (fun _ => 0))))]) (hS : va_S (LA s) s.heap H locs) (hl : lv_has ls 9 [(0, .ref b), (1, .ref h0), (2, .ref m0), (3, .ref u0), (4, .ref w0), (5, .int 0)]) : W p l e room_1 s m #[Value.ref b] below meth c H locs 300 40000 (lw_Z below #[Value.ref b] s) (F0 m 546 ls []) := by
  have C1 := C0
  obtain ⟨hl0, hx, hb, hr, hml, hown, hts, hX, hbl, hlocks, hE⟩ := C0
  have hA : ∀ q : Nat, s.heap.size ≤ q → LA s q := fun _ h => h
  have hbA : ¬ LA s b := Nat.not_le.mpr hbl
  refine lv_aload_n hx hb dL_law_546 rfl (lv_at hl 1 rfl) ?_
  refine lv_aload_n hx hb dL_law_547 rfl (lv_at hl 0 rfl) ?_
  refine lv_iload hx hb dL_law_548 (lv_at hl 5 rfl) ?_
  refine lv_iconst (v := 1) hx hb dL_law_550 (by decide) ?_
  refine lv_iadd hx hb dL_law_551 ?_
  refine lv_topi (fun v_1 ev_1 => ?_)
  have ev_1 : v_1 = 1 := ev_1.trans (by decide)
  subst ev_1
  refine va_sld hx hb hX hbl hbA hS (i := 1) (by unfold vp_in; decide) dL_law_552 ?_
  refine W.eq (g2 := F0 m 553 ls [.int (xs 1), .ref h0]) rfl ?_
  refine lv_aload_n hx hb dL_law_553 rfl (lv_at hl 0 rfl) ?_
  refine lv_iload hx hb dL_law_554 (lv_at hl 5 rfl) ?_
  refine lv_iconst (v := 2) hx hb dL_law_556 (by decide) ?_
  refine lv_iadd hx hb dL_law_557 ?_
  refine lv_topi (fun v_2 ev_2 => ?_)
  have ev_2 : v_2 = 2 := ev_2.trans (by decide)
  subst ev_2
  refine va_sld hx hb hX hbl hbA hS (i := 2) (by unfold vp_in; decide) dL_law_558 ?_
  refine W.eq (g2 := F0 m 559 ls [.int (xs 2), .int (xs 1), .ref h0]) rfl ?_
  refine lv_aload_n hx hb dL_law_559 rfl (lv_at hl 3 rfl) ?_
  have hS0 := hS
  have hFc := va_free (wc := [(h0, .inr (12, [.ref o0, .int 0, .ref g0, .ref o2, .ref o3, .ref o4, .ref o5, .int 0, .ref o6])), (u0, .inl (cL, 1, .inr (.inl (fun _ => 0))))]) hD hS hA [0, 4] rfl
  refine va_calli (vx_runSW (As := [.ref h0, .int (xs 1), .int (xs 2), .ref u0]) (rest := []) ⟨hx, hb, hml, hown, hts⟩ (c_L_unlike l hl0 κ D (H).size (h0) (o0) (g0) (o2) (o3) (o4) (o5) (o6) ((xs 1)) ((xs 2)) (u0) (cL) ((fun _ => 0)) ) (vx_cwSW 4 hts gd_law_c_L_unlike rfl rfl rfl (by decide +kernel) ⟨(Nat.le_of_ble_eq_true rfl), (Nat.le_of_ble_eq_true rfl)⟩) (preS hE hK hP hD hS hA [0, 4] rfl (by decide) [0] rfl) rfl rfl hl.1 rfl (lv_room (Nat.le_of_ble_eq_true rfl)) dL_law_560 ⟨(Nat.le_of_ble_eq_true rfl), (Nat.le_of_ble_eq_true rfl)⟩) hS (fun q _ h => hFc q h) hFc (fun r_3 u t H1 locs ht hvm hw hB hz1 hk1 hS => ?_)
  try dsimp only at hw
  obtain ⟨hP, hD, hK⟩ := jn (wc := [(h0, .inr (12, [.ref o0, .int 0, .ref g0, .ref o2, .ref o3, .ref o4, .ref o5, .int 0, .ref o6])), (u0, .inl (cL, 1, .inr (.inl (fun _ => 0))))]) (wr := [(g0, .inr (8, [.ref g1, .ref g2, .ref g3, .ref g4, .ref g5, .ref g6, .int 0, .int 0, .int 0, .int 0])), (m0, .inr (16, [.int 0, .ref kl, .null, .ref tl])), (kl, .inr (6, [.int 0, .ref (κ 0), .int 0]))]) (w1 := []) (t1 := []) hP hD hK hS0 hA [0, 4] [1, 2, 3] rfl rfl (by decide) (by decide) ht hvm hk1 hB
  generalize H1 = H at hP hS ⊢
  have hP : va_P D vwCl ([(g0, .inr (8, [.ref g1, .ref g2, .ref g3, .ref g4, .ref g5, .ref g6, .int 0, .int 0, .int 0, .int 0])), (m0, .inr (16, [.int 0, .ref kl, .null, .ref tl])), (kl, .inr (6, [.int 0, .ref (κ 0), .int 0]))]) H := hP
  have hD : va_D (LA s) ([(g0, .inr (8, [.ref g1, .ref g2, .ref g3, .ref g4, .ref g5, .ref g6, .int 0, .int 0, .int 0, .int 0])), (m0, .inr (16, [.int 0, .ref kl, .null, .ref tl])), (kl, .inr (6, [.int 0, .ref (κ 0), .int 0]))]) := hD
  have hK : va_K D vwCl [(cL, .long)] s := hK
  refine W.widen (k := 301) (n := 40006) (Nat.le_of_ble_eq_true rfl) (Nat.le_of_ble_eq_true rfl) ?_
  subst hw
  refine lv_istore (lv' := [(6, .int 1), (0, .ref b), (1, .ref h0), (2, .ref m0), (3, .ref u0), (4, .ref w0), (5, .int 0)]) hx hb dL_law_563 hl (by decide) rfl (fun ls hl => ?_)
  refine lv_aload_n hx hb dL_law_565 rfl (lv_at hl 3 rfl) ?_
  refine lv_aload_n hx hb dL_law_566 rfl (lv_at hl 1 rfl) ?_
  refine lv_iload hx hb dL_law_567 (lv_at hl 6 rfl) ?_
  refine lv_iconst (v := 1) hx hb dL_law_569 (by decide) ?_
  refine lv_iadd hx hb dL_law_570 ?_
  refine lv_topi (fun v_4 ev_4 => ?_)
  have ev_4 : v_4 = 1 := ev_4.trans (by decide)
  subst ev_4
  refine va_sld hx hb hX hbl hbA hS (i := 1) (by unfold vp_in; decide) dL_law_571 ?_
  refine W.eq (g2 := F0 m 572 ls [.int (xs 1), .ref m0]) rfl ?_
  refine lv_aload_n hx hb dL_law_572 rfl (lv_at hl 1 rfl) ?_
  refine lv_iload hx hb dL_law_573 (lv_at hl 6 rfl) ?_
  refine lv_iconst (v := 2) hx hb dL_law_575 (by decide) ?_
  refine lv_iadd hx hb dL_law_576 ?_
  refine lv_topi (fun v_5 ev_5 => ?_)
  have ev_5 : v_5 = 2 := ev_5.trans (by decide)
  subst ev_5
  refine va_sld hx hb hX hbl hbA hS (i := 2) (by unfold vp_in; decide) dL_law_577 ?_
  refine W.eq (g2 := F0 m 578 ls [.int (xs 2), .int (xs 1), .ref m0]) rfl ?_
  have hS0 := hS
  have hFc := va_free (wc := [(m0, .inr (16, [.int 0, .ref kl, .null, .ref tl])), (kl, .inr (6, [.int 0, .ref (κ 0), .int 0]))]) hD hS hA [1, 2] rfl
  refine va_calli (va_runV (As := [.int (xs 1), .int (xs 2)]) (rest := []) ⟨hx, hb, hml, hown, hts⟩ (c_X9_unlike l κ D (H).size (m0) (kl) (tl) ((xs 1)) ((xs 2)) ) (cwV 2 hts gd_law_c_X9_unlike rfl rfl rfl (by decide +kernel) ⟨(Nat.le_of_ble_eq_true rfl), (Nat.le_of_ble_eq_true rfl)⟩) (preV hE hK hP hD hS hA [1, 2] rfl (by decide) [] rfl (va_recv hK hP (ci := 16) (q0 := 1) rfl rfl)) rfl rfl hl.1 rfl (lv_room (Nat.le_of_ble_eq_true rfl)) dL_law_578 ⟨(Nat.le_of_ble_eq_true rfl), (Nat.le_of_ble_eq_true rfl)⟩) hS (fun q _ h => hFc q h) hFc (fun r_6 u t H1 locs ht hvm hw hB hz1 hk1 hS => ?_)
  try dsimp only at hw
  obtain ⟨hP, hD, hK⟩ := jn (wc := [(m0, .inr (16, [.int 0, .ref kl, .null, .ref tl])), (kl, .inr (6, [.int 0, .ref (κ 0), .int 0]))]) (wr := [(g0, .inr (8, [.ref g1, .ref g2, .ref g3, .ref g4, .ref g5, .ref g6, .int 0, .int 0, .int 0, .int 0]))]) (w1 := [(m0, .inr (16, [.int 1, .ref kl, .null, .ref tl]))]) (t1 := []) hP hD hK hS0 hA [1, 2] [0] rfl rfl (by decide) (by decide) ht hvm hk1 hB
  generalize H1 = H at hP hS ⊢
  have hP : va_P D vwCl ([(g0, .inr (8, [.ref g1, .ref g2, .ref g3, .ref g4, .ref g5, .ref g6, .int 0, .int 0, .int 0, .int 0])), (m0, .inr (16, [.int 1, .ref kl, .null, .ref tl]))]) H := hP
  have hD : va_D (LA s) ([(g0, .inr (8, [.ref g1, .ref g2, .ref g3, .ref g4, .ref g5, .ref g6, .int 0, .int 0, .int 0, .int 0])), (m0, .inr (16, [.int 1, .ref kl, .null, .ref tl]))]) := hD
  have hK : va_K D vwCl [(cL, .long)] s := hK
  refine W.widen (k := 301) (n := 40006) (Nat.le_of_ble_eq_true rfl) (Nat.le_of_ble_eq_true rfl) ?_
  refine lv_istore (lv' := [(7, .int r_6), (6, .int 1), (0, .ref b), (1, .ref h0), (2, .ref m0), (3, .ref u0), (4, .ref w0), (5, .int 0)]) hx hb dL_law_581 hl (by decide) rfl (fun ls hl => ?_)
  refine lv_aload_n hx hb dL_law_583 rfl (lv_at hl 4 rfl) ?_
  have hS0 := hS
  have hFc := va_free (wc := [(m0, .inr (16, [.int 1, .ref kl, .null, .ref tl]))]) hD hS hA [1] rfl
  refine va_calli (va_runV (As := []) (rest := []) ⟨hx, hb, hml, hown, hts⟩ (c_X9_thrown l κ D (H).size (m0) (kl) (tl) (1) ) (cwV 0 hts gd_law_c_X9_thrown rfl rfl rfl (by decide +kernel) ⟨(Nat.le_of_ble_eq_true rfl), (Nat.le_of_ble_eq_true rfl)⟩) (preV hE hK hP hD hS hA [1] rfl (by decide) [] rfl (va_recv hK hP (ci := 16) (q0 := 1) rfl rfl)) rfl rfl hl.1 rfl (lv_room (Nat.le_of_ble_eq_true rfl)) dL_law_584 ⟨(Nat.le_of_ble_eq_true rfl), (Nat.le_of_ble_eq_true rfl)⟩) hS (fun q _ h => hFc q h) hFc (fun r_7 u t H1 locs ht hvm hw hB hz1 hk1 hS => ?_)
  try dsimp only at hw
  obtain ⟨hP, hD, hK⟩ := jn (wc := [(m0, .inr (16, [.int 1, .ref kl, .null, .ref tl]))]) (wr := [(g0, .inr (8, [.ref g1, .ref g2, .ref g3, .ref g4, .ref g5, .ref g6, .int 0, .int 0, .int 0, .int 0]))]) (w1 := [(m0, .inr (16, [.int 1, .ref kl, .null, .ref tl]))]) (t1 := []) hP hD hK hS0 hA [1] [0] rfl rfl (by decide) (by decide) ht hvm hk1 hB
  generalize H1 = H at hP hS ⊢
  have hP : va_P D vwCl ([(g0, .inr (8, [.ref g1, .ref g2, .ref g3, .ref g4, .ref g5, .ref g6, .int 0, .int 0, .int 0, .int 0])), (m0, .inr (16, [.int 1, .ref kl, .null, .ref tl]))]) H := hP
  have hD : va_D (LA s) ([(g0, .inr (8, [.ref g1, .ref g2, .ref g3, .ref g4, .ref g5, .ref g6, .int 0, .int 0, .int 0, .int 0])), (m0, .inr (16, [.int 1, .ref kl, .null, .ref tl]))]) := hD
  have hK : va_K D vwCl [(cL, .long)] s := hK
  refine W.widen (k := 301) (n := 40006) (Nat.le_of_ble_eq_true rfl) (Nat.le_of_ble_eq_true rfl) ?_
  subst hw
  refine lv_iload hx hb dL_law_587 (lv_at hl 1 rfl) ?_
  refine lv_icmp_eq (tgt := 594) hx hb dL_law_589 (by decide) (fun _ => ?_) (fun c_589 => absurd c_589 (by decide))
  refine lv_iload hx hb dL_law_594 (lv_at hl 1 rfl) ?_
  refine lv_if_ne (tgt := 611) hx hb dL_law_596 (by decide) (fun _ => ?_) (fun c_596 => absurd c_596 (by decide))
  refine lv_goto (tgt := 2351) hx hb dL_law_611 (by decide) ?_
  refine W.widen (k := 400) (n := 41000) (Nat.le_of_ble_eq_true rfl) (Nat.le_of_ble_eq_true rfl) ?_
  exact law_end C1 H locs ls hS (lv_sub hl [7, 2] rfl)

set_option maxHeartbeats 8000000 in
set_option maxRecDepth 100000 in
theorem law_parent {p : Program} {l : Launch} {e : Env} {s : State} {m : MethodId} {below : List Frame} {meth : Method} {c : Code} {b : Nat} {xs : Nat → Int32} {κ : Nat → Nat} (C0 : law_At2 p l s m meth c b xs κ) {D : va_G} {h0 : Nat} {o0 : Nat} {g0 : Nat} {o2 : Nat} {o3 : Nat} {o4 : Nat} {o5 : Nat} {o6 : Nat} {g1 : Nat} {g2 : Nat} {g3 : Nat} {g4 : Nat} {g5 : Nat} {g6 : Nat} {m0 : Nat} {kl : Nat} {tl : Nat} {u0 : Nat} {w0 : Nat} {cL : ClassId}  (H : Heap) (locs : List Loc) (ls : Array Slot) (hK : va_K D vwCl [(cL, .long)] s) (hP : va_P D vwCl [(h0, .inr (12, [.ref o0, .int 0, .ref g0, .ref o2, .ref o3, .ref o4, .ref o5, .int 0, .ref o6])), (g0, .inr (8, [.ref g1, .ref g2, .ref g3, .ref g4, .ref g5, .ref g6, .int 0, .int 0, .int 0, .int 0])), (m0, .inr (16, [.int 0, .ref kl, .null, .ref tl])), (kl, .inr (6, [.int 0, .ref (κ 0), .int 0])), (u0, .inl (cL, 1, .inr (.inl (fun _ => 0))))] H) (hD : va_D (LA s) [(h0, .inr (12, [.ref o0, .int 0, .ref g0, .ref o2, .ref o3, .ref o4, .ref o5, .int 0, .ref o6])), (g0, .inr (8, [.ref g1, .ref g2, .ref g3, .ref g4, .ref g5, .ref g6, .int 0, .int 0, .int 0, .int 0])), (m0, .inr (16, [.int 0, .ref kl, .null, .ref tl])), (kl, .inr (6, [.int 0, .ref (κ 0), .int 0])), (u0, .inl (cL, 1, .inr (.inl (fun _ => 0))))]) (hS : va_S (LA s) s.heap H locs) (hl : lv_has ls 9 [(0, .ref b), (1, .ref h0), (2, .ref m0), (3, .ref u0), (4, .ref w0), (5, .int 0)]) : W p l e room_1 s m #[Value.ref b] below meth c H locs 300 40000 (lw_Z below #[Value.ref b] s) (F0 m 614 ls []) := by
  have C1 := C0
  obtain ⟨hl0, hx, hb, hr, hml, hown, hts, hX, hbl, hlocks, hE⟩ := C0
  have hA : ∀ q : Nat, s.heap.size ≤ q → LA s q := fun _ h => h
  have hbA : ¬ LA s b := Nat.not_le.mpr hbl
  refine lv_aload_n hx hb dL_law_614 rfl (lv_at hl 1 rfl) ?_
  refine lv_aload_n hx hb dL_law_615 rfl (lv_at hl 0 rfl) ?_
  refine lv_iload hx hb dL_law_616 (lv_at hl 5 rfl) ?_
  refine lv_iconst (v := 1) hx hb dL_law_618 (by decide) ?_
  refine lv_iadd hx hb dL_law_619 ?_
  refine lv_topi (fun v_1 ev_1 => ?_)
  have ev_1 : v_1 = 1 := ev_1.trans (by decide)
  subst ev_1
  refine va_sld hx hb hX hbl hbA hS (i := 1) (by unfold vp_in; decide) dL_law_620 ?_
  refine W.eq (g2 := F0 m 621 ls [.int (xs 1), .ref h0]) rfl ?_
  refine lv_aload_n hx hb dL_law_621 rfl (lv_at hl 3 rfl) ?_
  have hS0 := hS
  have hFc := va_free (wc := [(h0, .inr (12, [.ref o0, .int 0, .ref g0, .ref o2, .ref o3, .ref o4, .ref o5, .int 0, .ref o6])), (u0, .inl (cL, 1, .inr (.inl (fun _ => 0))))]) hD hS hA [0, 4] rfl
  refine va_calli (vx_runSW (As := [.ref h0, .int (xs 1), .ref u0]) (rest := []) ⟨hx, hb, hml, hown, hts⟩ (c_L_parent l hl0 κ D (H).size (h0) (o0) (g0) (o2) (o3) (o4) (o5) (o6) ((xs 1)) (u0) (cL) ((fun _ => 0)) ) (vx_cwSW 3 hts gd_law_c_L_parent rfl rfl rfl (by decide +kernel) ⟨(Nat.le_of_ble_eq_true rfl), (Nat.le_of_ble_eq_true rfl)⟩) (preS hE hK hP hD hS hA [0, 4] rfl (by decide) [0] rfl) rfl rfl hl.1 rfl (lv_room (Nat.le_of_ble_eq_true rfl)) dL_law_622 ⟨(Nat.le_of_ble_eq_true rfl), (Nat.le_of_ble_eq_true rfl)⟩) hS (fun q _ h => hFc q h) hFc (fun r_2 u t H1 locs ht hvm hw hB hz1 hk1 hS => ?_)
  try dsimp only at hw
  obtain ⟨hP, hD, hK⟩ := jn (wc := [(h0, .inr (12, [.ref o0, .int 0, .ref g0, .ref o2, .ref o3, .ref o4, .ref o5, .int 0, .ref o6])), (u0, .inl (cL, 1, .inr (.inl (fun _ => 0))))]) (wr := [(g0, .inr (8, [.ref g1, .ref g2, .ref g3, .ref g4, .ref g5, .ref g6, .int 0, .int 0, .int 0, .int 0])), (m0, .inr (16, [.int 0, .ref kl, .null, .ref tl])), (kl, .inr (6, [.int 0, .ref (κ 0), .int 0]))]) (w1 := []) (t1 := []) hP hD hK hS0 hA [0, 4] [1, 2, 3] rfl rfl (by decide) (by decide) ht hvm hk1 hB
  generalize H1 = H at hP hS ⊢
  have hP : va_P D vwCl ([(g0, .inr (8, [.ref g1, .ref g2, .ref g3, .ref g4, .ref g5, .ref g6, .int 0, .int 0, .int 0, .int 0])), (m0, .inr (16, [.int 0, .ref kl, .null, .ref tl])), (kl, .inr (6, [.int 0, .ref (κ 0), .int 0]))]) H := hP
  have hD : va_D (LA s) ([(g0, .inr (8, [.ref g1, .ref g2, .ref g3, .ref g4, .ref g5, .ref g6, .int 0, .int 0, .int 0, .int 0])), (m0, .inr (16, [.int 0, .ref kl, .null, .ref tl])), (kl, .inr (6, [.int 0, .ref (κ 0), .int 0]))]) := hD
  have hK : va_K D vwCl [(cL, .long)] s := hK
  refine W.widen (k := 301) (n := 40006) (Nat.le_of_ble_eq_true rfl) (Nat.le_of_ble_eq_true rfl) ?_
  subst hw
  refine lv_istore (lv' := [(6, .int 1), (0, .ref b), (1, .ref h0), (2, .ref m0), (3, .ref u0), (4, .ref w0), (5, .int 0)]) hx hb dL_law_625 hl (by decide) rfl (fun ls hl => ?_)
  refine lv_aload_n hx hb dL_law_627 rfl (lv_at hl 3 rfl) ?_
  refine lv_aload_n hx hb dL_law_628 rfl (lv_at hl 1 rfl) ?_
  refine lv_iload hx hb dL_law_629 (lv_at hl 6 rfl) ?_
  refine lv_iconst (v := 1) hx hb dL_law_631 (by decide) ?_
  refine lv_iadd hx hb dL_law_632 ?_
  refine lv_topi (fun v_3 ev_3 => ?_)
  have ev_3 : v_3 = 1 := ev_3.trans (by decide)
  subst ev_3
  refine va_sld hx hb hX hbl hbA hS (i := 1) (by unfold vp_in; decide) dL_law_633 ?_
  refine W.eq (g2 := F0 m 634 ls [.int (xs 1), .ref m0]) rfl ?_
  have hS0 := hS
  have hFc := va_free (wc := [(m0, .inr (16, [.int 0, .ref kl, .null, .ref tl])), (kl, .inr (6, [.int 0, .ref (κ 0), .int 0]))]) hD hS hA [1, 2] rfl
  refine va_calli (va_runV (As := [.int (xs 1)]) (rest := []) ⟨hx, hb, hml, hown, hts⟩ (c_X9_parent l κ D (H).size (m0) (kl) (tl) ((xs 1)) ) (cwV 1 hts gd_law_c_X9_parent rfl rfl rfl (by decide +kernel) ⟨(Nat.le_of_ble_eq_true rfl), (Nat.le_of_ble_eq_true rfl)⟩) (preV hE hK hP hD hS hA [1, 2] rfl (by decide) [] rfl (va_recv hK hP (ci := 16) (q0 := 1) rfl rfl)) rfl rfl hl.1 rfl (lv_room (Nat.le_of_ble_eq_true rfl)) dL_law_634 ⟨(Nat.le_of_ble_eq_true rfl), (Nat.le_of_ble_eq_true rfl)⟩) hS (fun q _ h => hFc q h) hFc (fun r_4 u t H1 locs ht hvm hw hB hz1 hk1 hS => ?_)
  try dsimp only at hw
  obtain ⟨hP, hD, hK⟩ := jn (wc := [(m0, .inr (16, [.int 0, .ref kl, .null, .ref tl])), (kl, .inr (6, [.int 0, .ref (κ 0), .int 0]))]) (wr := [(g0, .inr (8, [.ref g1, .ref g2, .ref g3, .ref g4, .ref g5, .ref g6, .int 0, .int 0, .int 0, .int 0]))]) (w1 := [(m0, .inr (16, [.int 1, .ref kl, .null, .ref tl]))]) (t1 := []) hP hD hK hS0 hA [1, 2] [0] rfl rfl (by decide) (by decide) ht hvm hk1 hB
  generalize H1 = H at hP hS ⊢
  have hP : va_P D vwCl ([(g0, .inr (8, [.ref g1, .ref g2, .ref g3, .ref g4, .ref g5, .ref g6, .int 0, .int 0, .int 0, .int 0])), (m0, .inr (16, [.int 1, .ref kl, .null, .ref tl]))]) H := hP
  have hD : va_D (LA s) ([(g0, .inr (8, [.ref g1, .ref g2, .ref g3, .ref g4, .ref g5, .ref g6, .int 0, .int 0, .int 0, .int 0])), (m0, .inr (16, [.int 1, .ref kl, .null, .ref tl]))]) := hD
  have hK : va_K D vwCl [(cL, .long)] s := hK
  refine W.widen (k := 301) (n := 40006) (Nat.le_of_ble_eq_true rfl) (Nat.le_of_ble_eq_true rfl) ?_
  refine lv_istore (lv' := [(7, .int r_4), (6, .int 1), (0, .ref b), (1, .ref h0), (2, .ref m0), (3, .ref u0), (4, .ref w0), (5, .int 0)]) hx hb dL_law_637 hl (by decide) rfl (fun ls hl => ?_)
  refine lv_aload_n hx hb dL_law_639 rfl (lv_at hl 4 rfl) ?_
  have hS0 := hS
  have hFc := va_free (wc := [(m0, .inr (16, [.int 1, .ref kl, .null, .ref tl]))]) hD hS hA [1] rfl
  refine va_calli (va_runV (As := []) (rest := []) ⟨hx, hb, hml, hown, hts⟩ (c_X9_thrown l κ D (H).size (m0) (kl) (tl) (1) ) (cwV 0 hts gd_law_c_X9_thrown rfl rfl rfl (by decide +kernel) ⟨(Nat.le_of_ble_eq_true rfl), (Nat.le_of_ble_eq_true rfl)⟩) (preV hE hK hP hD hS hA [1] rfl (by decide) [] rfl (va_recv hK hP (ci := 16) (q0 := 1) rfl rfl)) rfl rfl hl.1 rfl (lv_room (Nat.le_of_ble_eq_true rfl)) dL_law_640 ⟨(Nat.le_of_ble_eq_true rfl), (Nat.le_of_ble_eq_true rfl)⟩) hS (fun q _ h => hFc q h) hFc (fun r_5 u t H1 locs ht hvm hw hB hz1 hk1 hS => ?_)
  try dsimp only at hw
  obtain ⟨hP, hD, hK⟩ := jn (wc := [(m0, .inr (16, [.int 1, .ref kl, .null, .ref tl]))]) (wr := [(g0, .inr (8, [.ref g1, .ref g2, .ref g3, .ref g4, .ref g5, .ref g6, .int 0, .int 0, .int 0, .int 0]))]) (w1 := [(m0, .inr (16, [.int 1, .ref kl, .null, .ref tl]))]) (t1 := []) hP hD hK hS0 hA [1] [0] rfl rfl (by decide) (by decide) ht hvm hk1 hB
  generalize H1 = H at hP hS ⊢
  have hP : va_P D vwCl ([(g0, .inr (8, [.ref g1, .ref g2, .ref g3, .ref g4, .ref g5, .ref g6, .int 0, .int 0, .int 0, .int 0])), (m0, .inr (16, [.int 1, .ref kl, .null, .ref tl]))]) H := hP
  have hD : va_D (LA s) ([(g0, .inr (8, [.ref g1, .ref g2, .ref g3, .ref g4, .ref g5, .ref g6, .int 0, .int 0, .int 0, .int 0])), (m0, .inr (16, [.int 1, .ref kl, .null, .ref tl]))]) := hD
  have hK : va_K D vwCl [(cL, .long)] s := hK
  refine W.widen (k := 301) (n := 40006) (Nat.le_of_ble_eq_true rfl) (Nat.le_of_ble_eq_true rfl) ?_
  subst hw
  refine lv_iload hx hb dL_law_643 (lv_at hl 1 rfl) ?_
  refine lv_icmp_eq (tgt := 650) hx hb dL_law_645 (by decide) (fun _ => ?_) (fun c_645 => absurd c_645 (by decide))
  refine lv_iload hx hb dL_law_650 (lv_at hl 1 rfl) ?_
  refine lv_if_ne (tgt := 667) hx hb dL_law_652 (by decide) (fun _ => ?_) (fun c_652 => absurd c_652 (by decide))
  refine lv_goto (tgt := 2351) hx hb dL_law_667 (by decide) ?_
  refine W.widen (k := 400) (n := 41000) (Nat.le_of_ble_eq_true rfl) (Nat.le_of_ble_eq_true rfl) ?_
  exact law_end C1 H locs ls hS (lv_sub hl [7, 2] rfl)

set_option maxHeartbeats 8000000 in
set_option maxRecDepth 100000 in
theorem law_start {p : Program} {l : Launch} {e : Env} {s : State} {m : MethodId} {below : List Frame} {meth : Method} {c : Code} {b : Nat} {xs : Nat → Int32} {κ : Nat → Nat} (C0 : law_At2 p l s m meth c b xs κ) {D : va_G} {h0 : Nat} {o0 : Nat} {g0 : Nat} {o2 : Nat} {o3 : Nat} {o4 : Nat} {o5 : Nat} {o6 : Nat} {g1 : Nat} {g2 : Nat} {g3 : Nat} {g4 : Nat} {g5 : Nat} {g6 : Nat} {m0 : Nat} {kl : Nat} {tl : Nat} {u0 : Nat} {w0 : Nat} {cL : ClassId}  (H : Heap) (locs : List Loc) (ls : Array Slot) (hK : va_K D vwCl [(cL, .long)] s) (hP : va_P D vwCl [(h0, .inr (12, [.ref o0, .int 0, .ref g0, .ref o2, .ref o3, .ref o4, .ref o5, .int 0, .ref o6])), (g0, .inr (8, [.ref g1, .ref g2, .ref g3, .ref g4, .ref g5, .ref g6, .int 0, .int 0, .int 0, .int 0])), (m0, .inr (16, [.int 0, .ref kl, .null, .ref tl])), (kl, .inr (6, [.int 0, .ref (κ 0), .int 0])), (u0, .inl (cL, 1, .inr (.inl (fun _ => 0))))] H) (hD : va_D (LA s) [(h0, .inr (12, [.ref o0, .int 0, .ref g0, .ref o2, .ref o3, .ref o4, .ref o5, .int 0, .ref o6])), (g0, .inr (8, [.ref g1, .ref g2, .ref g3, .ref g4, .ref g5, .ref g6, .int 0, .int 0, .int 0, .int 0])), (m0, .inr (16, [.int 0, .ref kl, .null, .ref tl])), (kl, .inr (6, [.int 0, .ref (κ 0), .int 0])), (u0, .inl (cL, 1, .inr (.inl (fun _ => 0))))]) (hS : va_S (LA s) s.heap H locs) (hl : lv_has ls 9 [(0, .ref b), (1, .ref h0), (2, .ref m0), (3, .ref u0), (4, .ref w0), (5, .int 0)]) : W p l e room_1 s m #[Value.ref b] below meth c H locs 300 40000 (lw_Z below #[Value.ref b] s) (F0 m 670 ls []) := by
  have C1 := C0
  obtain ⟨hl0, hx, hb, hr, hml, hown, hts, hX, hbl, hlocks, hE⟩ := C0
  have hA : ∀ q : Nat, s.heap.size ≤ q → LA s q := fun _ h => h
  have hbA : ¬ LA s b := Nat.not_le.mpr hbl
  refine lv_aload_n hx hb dL_law_670 rfl (lv_at hl 1 rfl) ?_
  refine lv_aload_n hx hb dL_law_671 rfl (lv_at hl 0 rfl) ?_
  refine lv_iload hx hb dL_law_672 (lv_at hl 5 rfl) ?_
  refine lv_iconst (v := 1) hx hb dL_law_674 (by decide) ?_
  refine lv_iadd hx hb dL_law_675 ?_
  refine lv_topi (fun v_1 ev_1 => ?_)
  have ev_1 : v_1 = 1 := ev_1.trans (by decide)
  subst ev_1
  refine va_sld hx hb hX hbl hbA hS (i := 1) (by unfold vp_in; decide) dL_law_676 ?_
  refine W.eq (g2 := F0 m 677 ls [.int (xs 1), .ref h0]) rfl ?_
  refine lv_aload_n hx hb dL_law_677 rfl (lv_at hl 3 rfl) ?_
  have hS0 := hS
  have hFc := va_free (wc := [(h0, .inr (12, [.ref o0, .int 0, .ref g0, .ref o2, .ref o3, .ref o4, .ref o5, .int 0, .ref o6])), (u0, .inl (cL, 1, .inr (.inl (fun _ => 0))))]) hD hS hA [0, 4] rfl
  refine va_calli (vx_runSW (As := [.ref h0, .int (xs 1), .ref u0]) (rest := []) ⟨hx, hb, hml, hown, hts⟩ (c_L_start l hl0 κ D (H).size (h0) (o0) (g0) (o2) (o3) (o4) (o5) (o6) ((xs 1)) (u0) (cL) ((fun _ => 0)) ) (vx_cwSW 3 hts gd_law_c_L_start rfl rfl rfl (by decide +kernel) ⟨(Nat.le_of_ble_eq_true rfl), (Nat.le_of_ble_eq_true rfl)⟩) (preS hE hK hP hD hS hA [0, 4] rfl (by decide) [0] rfl) rfl rfl hl.1 rfl (lv_room (Nat.le_of_ble_eq_true rfl)) dL_law_678 ⟨(Nat.le_of_ble_eq_true rfl), (Nat.le_of_ble_eq_true rfl)⟩) hS (fun q _ h => hFc q h) hFc (fun r_2 u t H1 locs ht hvm hw hB hz1 hk1 hS => ?_)
  try dsimp only at hw
  obtain ⟨hP, hD, hK⟩ := jn (wc := [(h0, .inr (12, [.ref o0, .int 0, .ref g0, .ref o2, .ref o3, .ref o4, .ref o5, .int 0, .ref o6])), (u0, .inl (cL, 1, .inr (.inl (fun _ => 0))))]) (wr := [(g0, .inr (8, [.ref g1, .ref g2, .ref g3, .ref g4, .ref g5, .ref g6, .int 0, .int 0, .int 0, .int 0])), (m0, .inr (16, [.int 0, .ref kl, .null, .ref tl])), (kl, .inr (6, [.int 0, .ref (κ 0), .int 0]))]) (w1 := []) (t1 := []) hP hD hK hS0 hA [0, 4] [1, 2, 3] rfl rfl (by decide) (by decide) ht hvm hk1 hB
  generalize H1 = H at hP hS ⊢
  have hP : va_P D vwCl ([(g0, .inr (8, [.ref g1, .ref g2, .ref g3, .ref g4, .ref g5, .ref g6, .int 0, .int 0, .int 0, .int 0])), (m0, .inr (16, [.int 0, .ref kl, .null, .ref tl])), (kl, .inr (6, [.int 0, .ref (κ 0), .int 0]))]) H := hP
  have hD : va_D (LA s) ([(g0, .inr (8, [.ref g1, .ref g2, .ref g3, .ref g4, .ref g5, .ref g6, .int 0, .int 0, .int 0, .int 0])), (m0, .inr (16, [.int 0, .ref kl, .null, .ref tl])), (kl, .inr (6, [.int 0, .ref (κ 0), .int 0]))]) := hD
  have hK : va_K D vwCl [(cL, .long)] s := hK
  refine W.widen (k := 301) (n := 40006) (Nat.le_of_ble_eq_true rfl) (Nat.le_of_ble_eq_true rfl) ?_
  subst hw
  refine lv_istore (lv' := [(6, .int 1), (0, .ref b), (1, .ref h0), (2, .ref m0), (3, .ref u0), (4, .ref w0), (5, .int 0)]) hx hb dL_law_681 hl (by decide) rfl (fun ls hl => ?_)
  refine lv_aload_n hx hb dL_law_683 rfl (lv_at hl 3 rfl) ?_
  refine lv_aload_n hx hb dL_law_684 rfl (lv_at hl 1 rfl) ?_
  refine lv_iload hx hb dL_law_685 (lv_at hl 6 rfl) ?_
  refine lv_iconst (v := 1) hx hb dL_law_687 (by decide) ?_
  refine lv_iadd hx hb dL_law_688 ?_
  refine lv_topi (fun v_3 ev_3 => ?_)
  have ev_3 : v_3 = 1 := ev_3.trans (by decide)
  subst ev_3
  refine va_sld hx hb hX hbl hbA hS (i := 1) (by unfold vp_in; decide) dL_law_689 ?_
  refine W.eq (g2 := F0 m 690 ls [.int (xs 1), .ref m0]) rfl ?_
  have hS0 := hS
  have hFc := va_free (wc := [(m0, .inr (16, [.int 0, .ref kl, .null, .ref tl])), (kl, .inr (6, [.int 0, .ref (κ 0), .int 0]))]) hD hS hA [1, 2] rfl
  refine va_calli (va_runV (As := [.int (xs 1)]) (rest := []) ⟨hx, hb, hml, hown, hts⟩ (c_X9_start l κ D (H).size (m0) (kl) (tl) ((xs 1)) ) (cwV 1 hts gd_law_c_X9_start rfl rfl rfl (by decide +kernel) ⟨(Nat.le_of_ble_eq_true rfl), (Nat.le_of_ble_eq_true rfl)⟩) (preV hE hK hP hD hS hA [1, 2] rfl (by decide) [] rfl (va_recv hK hP (ci := 16) (q0 := 1) rfl rfl)) rfl rfl hl.1 rfl (lv_room (Nat.le_of_ble_eq_true rfl)) dL_law_690 ⟨(Nat.le_of_ble_eq_true rfl), (Nat.le_of_ble_eq_true rfl)⟩) hS (fun q _ h => hFc q h) hFc (fun r_4 u t H1 locs ht hvm hw hB hz1 hk1 hS => ?_)
  try dsimp only at hw
  obtain ⟨hP, hD, hK⟩ := jn (wc := [(m0, .inr (16, [.int 0, .ref kl, .null, .ref tl])), (kl, .inr (6, [.int 0, .ref (κ 0), .int 0]))]) (wr := [(g0, .inr (8, [.ref g1, .ref g2, .ref g3, .ref g4, .ref g5, .ref g6, .int 0, .int 0, .int 0, .int 0]))]) (w1 := [(m0, .inr (16, [.int 1, .ref kl, .null, .ref tl]))]) (t1 := []) hP hD hK hS0 hA [1, 2] [0] rfl rfl (by decide) (by decide) ht hvm hk1 hB
  generalize H1 = H at hP hS ⊢
  have hP : va_P D vwCl ([(g0, .inr (8, [.ref g1, .ref g2, .ref g3, .ref g4, .ref g5, .ref g6, .int 0, .int 0, .int 0, .int 0])), (m0, .inr (16, [.int 1, .ref kl, .null, .ref tl]))]) H := hP
  have hD : va_D (LA s) ([(g0, .inr (8, [.ref g1, .ref g2, .ref g3, .ref g4, .ref g5, .ref g6, .int 0, .int 0, .int 0, .int 0])), (m0, .inr (16, [.int 1, .ref kl, .null, .ref tl]))]) := hD
  have hK : va_K D vwCl [(cL, .long)] s := hK
  refine W.widen (k := 301) (n := 40006) (Nat.le_of_ble_eq_true rfl) (Nat.le_of_ble_eq_true rfl) ?_
  refine lv_istore (lv' := [(7, .int r_4), (6, .int 1), (0, .ref b), (1, .ref h0), (2, .ref m0), (3, .ref u0), (4, .ref w0), (5, .int 0)]) hx hb dL_law_693 hl (by decide) rfl (fun ls hl => ?_)
  refine lv_aload_n hx hb dL_law_695 rfl (lv_at hl 4 rfl) ?_
  have hS0 := hS
  have hFc := va_free (wc := [(m0, .inr (16, [.int 1, .ref kl, .null, .ref tl]))]) hD hS hA [1] rfl
  refine va_calli (va_runV (As := []) (rest := []) ⟨hx, hb, hml, hown, hts⟩ (c_X9_thrown l κ D (H).size (m0) (kl) (tl) (1) ) (cwV 0 hts gd_law_c_X9_thrown rfl rfl rfl (by decide +kernel) ⟨(Nat.le_of_ble_eq_true rfl), (Nat.le_of_ble_eq_true rfl)⟩) (preV hE hK hP hD hS hA [1] rfl (by decide) [] rfl (va_recv hK hP (ci := 16) (q0 := 1) rfl rfl)) rfl rfl hl.1 rfl (lv_room (Nat.le_of_ble_eq_true rfl)) dL_law_696 ⟨(Nat.le_of_ble_eq_true rfl), (Nat.le_of_ble_eq_true rfl)⟩) hS (fun q _ h => hFc q h) hFc (fun r_5 u t H1 locs ht hvm hw hB hz1 hk1 hS => ?_)
  try dsimp only at hw
  obtain ⟨hP, hD, hK⟩ := jn (wc := [(m0, .inr (16, [.int 1, .ref kl, .null, .ref tl]))]) (wr := [(g0, .inr (8, [.ref g1, .ref g2, .ref g3, .ref g4, .ref g5, .ref g6, .int 0, .int 0, .int 0, .int 0]))]) (w1 := [(m0, .inr (16, [.int 1, .ref kl, .null, .ref tl]))]) (t1 := []) hP hD hK hS0 hA [1] [0] rfl rfl (by decide) (by decide) ht hvm hk1 hB
  generalize H1 = H at hP hS ⊢
  have hP : va_P D vwCl ([(g0, .inr (8, [.ref g1, .ref g2, .ref g3, .ref g4, .ref g5, .ref g6, .int 0, .int 0, .int 0, .int 0])), (m0, .inr (16, [.int 1, .ref kl, .null, .ref tl]))]) H := hP
  have hD : va_D (LA s) ([(g0, .inr (8, [.ref g1, .ref g2, .ref g3, .ref g4, .ref g5, .ref g6, .int 0, .int 0, .int 0, .int 0])), (m0, .inr (16, [.int 1, .ref kl, .null, .ref tl]))]) := hD
  have hK : va_K D vwCl [(cL, .long)] s := hK
  refine W.widen (k := 301) (n := 40006) (Nat.le_of_ble_eq_true rfl) (Nat.le_of_ble_eq_true rfl) ?_
  subst hw
  refine lv_iload hx hb dL_law_699 (lv_at hl 1 rfl) ?_
  refine lv_icmp_eq (tgt := 706) hx hb dL_law_701 (by decide) (fun _ => ?_) (fun c_701 => absurd c_701 (by decide))
  refine lv_iload hx hb dL_law_706 (lv_at hl 1 rfl) ?_
  refine lv_if_ne (tgt := 723) hx hb dL_law_708 (by decide) (fun _ => ?_) (fun c_708 => absurd c_708 (by decide))
  refine lv_goto (tgt := 2351) hx hb dL_law_723 (by decide) ?_
  refine W.widen (k := 400) (n := 41000) (Nat.le_of_ble_eq_true rfl) (Nat.le_of_ble_eq_true rfl) ?_
  exact law_end C1 H locs ls hS (lv_sub hl [7, 2] rfl)

set_option maxHeartbeats 8000000 in
set_option maxRecDepth 100000 in
theorem law_give {p : Program} {l : Launch} {e : Env} {s : State} {m : MethodId} {below : List Frame} {meth : Method} {c : Code} {b : Nat} {xs : Nat → Int32} {κ : Nat → Nat} (C0 : law_At2 p l s m meth c b xs κ) {D : va_G} {h0 : Nat} {o0 : Nat} {g0 : Nat} {o2 : Nat} {o3 : Nat} {o4 : Nat} {o5 : Nat} {o6 : Nat} {g1 : Nat} {g2 : Nat} {g3 : Nat} {g4 : Nat} {g5 : Nat} {g6 : Nat} {m0 : Nat} {kl : Nat} {tl : Nat} {u0 : Nat} {w0 : Nat} {cL : ClassId}  (H : Heap) (locs : List Loc) (ls : Array Slot) (hK : va_K D vwCl [(cL, .long)] s) (hP : va_P D vwCl [(h0, .inr (12, [.ref o0, .int 0, .ref g0, .ref o2, .ref o3, .ref o4, .ref o5, .int 0, .ref o6])), (g0, .inr (8, [.ref g1, .ref g2, .ref g3, .ref g4, .ref g5, .ref g6, .int 0, .int 0, .int 0, .int 0])), (m0, .inr (16, [.int 0, .ref kl, .null, .ref tl])), (kl, .inr (6, [.int 0, .ref (κ 0), .int 0])), (u0, .inl (cL, 1, .inr (.inl (fun _ => 0))))] H) (hD : va_D (LA s) [(h0, .inr (12, [.ref o0, .int 0, .ref g0, .ref o2, .ref o3, .ref o4, .ref o5, .int 0, .ref o6])), (g0, .inr (8, [.ref g1, .ref g2, .ref g3, .ref g4, .ref g5, .ref g6, .int 0, .int 0, .int 0, .int 0])), (m0, .inr (16, [.int 0, .ref kl, .null, .ref tl])), (kl, .inr (6, [.int 0, .ref (κ 0), .int 0])), (u0, .inl (cL, 1, .inr (.inl (fun _ => 0))))]) (hS : va_S (LA s) s.heap H locs) (hl : lv_has ls 9 [(0, .ref b), (1, .ref h0), (2, .ref m0), (3, .ref u0), (4, .ref w0), (5, .int 0)]) : W p l e room_1 s m #[Value.ref b] below meth c H locs 300 40000 (lw_Z below #[Value.ref b] s) (F0 m 726 ls []) := by
  have C1 := C0
  obtain ⟨hl0, hx, hb, hr, hml, hown, hts, hX, hbl, hlocks, hE⟩ := C0
  have hA : ∀ q : Nat, s.heap.size ≤ q → LA s q := fun _ h => h
  have hbA : ¬ LA s b := Nat.not_le.mpr hbl
  refine lv_aload_n hx hb dL_law_726 rfl (lv_at hl 1 rfl) ?_
  refine lv_aload_n hx hb dL_law_727 rfl (lv_at hl 0 rfl) ?_
  refine lv_iload hx hb dL_law_728 (lv_at hl 5 rfl) ?_
  refine lv_iconst (v := 1) hx hb dL_law_730 (by decide) ?_
  refine lv_iadd hx hb dL_law_731 ?_
  refine lv_topi (fun v_1 ev_1 => ?_)
  have ev_1 : v_1 = 1 := ev_1.trans (by decide)
  subst ev_1
  refine va_sld hx hb hX hbl hbA hS (i := 1) (by unfold vp_in; decide) dL_law_732 ?_
  refine W.eq (g2 := F0 m 733 ls [.int (xs 1), .ref h0]) rfl ?_
  refine lv_aload_n hx hb dL_law_733 rfl (lv_at hl 0 rfl) ?_
  refine lv_iload hx hb dL_law_734 (lv_at hl 5 rfl) ?_
  refine lv_iconst (v := 2) hx hb dL_law_736 (by decide) ?_
  refine lv_iadd hx hb dL_law_737 ?_
  refine lv_topi (fun v_2 ev_2 => ?_)
  have ev_2 : v_2 = 2 := ev_2.trans (by decide)
  subst ev_2
  refine va_sld hx hb hX hbl hbA hS (i := 2) (by unfold vp_in; decide) dL_law_738 ?_
  refine W.eq (g2 := F0 m 739 ls [.int (xs 2), .int (xs 1), .ref h0]) rfl ?_
  refine lv_aload_n hx hb dL_law_739 rfl (lv_at hl 3 rfl) ?_
  have hS0 := hS
  have hFc := va_free (wc := [(h0, .inr (12, [.ref o0, .int 0, .ref g0, .ref o2, .ref o3, .ref o4, .ref o5, .int 0, .ref o6])), (g0, .inr (8, [.ref g1, .ref g2, .ref g3, .ref g4, .ref g5, .ref g6, .int 0, .int 0, .int 0, .int 0])), (u0, .inl (cL, 1, .inr (.inl (fun _ => 0))))]) hD hS hA [0, 1, 4] rfl
  refine va_calli (vx_runSW (As := [.ref h0, .int (xs 1), .int (xs 2), .ref u0]) (rest := []) ⟨hx, hb, hml, hown, hts⟩ (c_L_give l hl0 κ D (H).size (h0) (o0) (g0) (o2) (o3) (o4) (o5) (o6) (g1) (g2) (g3) (g4) (g5) (g6) ((xs 1)) ((xs 2)) (u0) (cL) ((fun _ => 0)) ) (vx_cwSW 4 hts gd_law_c_L_give rfl rfl rfl (by decide +kernel) ⟨(Nat.le_of_ble_eq_true rfl), (Nat.le_of_ble_eq_true rfl)⟩) (preS hE hK hP hD hS hA [0, 1, 4] rfl (by decide) [0] rfl) rfl rfl hl.1 rfl (lv_room (Nat.le_of_ble_eq_true rfl)) dL_law_740 ⟨(Nat.le_of_ble_eq_true rfl), (Nat.le_of_ble_eq_true rfl)⟩) hS (fun q _ h => hFc q h) hFc (fun r_3 u t H1 locs ht hvm hw hB hz1 hk1 hS => ?_)
  try dsimp only at hw
  obtain ⟨hP, hD, hK⟩ := jn (wc := [(h0, .inr (12, [.ref o0, .int 0, .ref g0, .ref o2, .ref o3, .ref o4, .ref o5, .int 0, .ref o6])), (g0, .inr (8, [.ref g1, .ref g2, .ref g3, .ref g4, .ref g5, .ref g6, .int 0, .int 0, .int 0, .int 0])), (u0, .inl (cL, 1, .inr (.inl (fun _ => 0))))]) (wr := [(m0, .inr (16, [.int 0, .ref kl, .null, .ref tl])), (kl, .inr (6, [.int 0, .ref (κ 0), .int 0]))]) (w1 := []) (t1 := []) hP hD hK hS0 hA [0, 1, 4] [2, 3] rfl rfl (by decide) (by decide) ht hvm hk1 hB
  generalize H1 = H at hP hS ⊢
  have hP : va_P D vwCl ([(m0, .inr (16, [.int 0, .ref kl, .null, .ref tl])), (kl, .inr (6, [.int 0, .ref (κ 0), .int 0]))]) H := hP
  have hD : va_D (LA s) ([(m0, .inr (16, [.int 0, .ref kl, .null, .ref tl])), (kl, .inr (6, [.int 0, .ref (κ 0), .int 0]))]) := hD
  have hK : va_K D vwCl [(cL, .long)] s := hK
  refine W.widen (k := 301) (n := 40006) (Nat.le_of_ble_eq_true rfl) (Nat.le_of_ble_eq_true rfl) ?_
  subst hw
  refine lv_istore (lv' := [(6, .int 1), (0, .ref b), (1, .ref h0), (2, .ref m0), (3, .ref u0), (4, .ref w0), (5, .int 0)]) hx hb dL_law_743 hl (by decide) rfl (fun ls hl => ?_)
  refine lv_aload_n hx hb dL_law_745 rfl (lv_at hl 3 rfl) ?_
  refine lv_aload_n hx hb dL_law_746 rfl (lv_at hl 1 rfl) ?_
  refine lv_iload hx hb dL_law_747 (lv_at hl 6 rfl) ?_
  refine lv_iconst (v := 1) hx hb dL_law_749 (by decide) ?_
  refine lv_iadd hx hb dL_law_750 ?_
  refine lv_topi (fun v_4 ev_4 => ?_)
  have ev_4 : v_4 = 1 := ev_4.trans (by decide)
  subst ev_4
  refine va_sld hx hb hX hbl hbA hS (i := 1) (by unfold vp_in; decide) dL_law_751 ?_
  refine W.eq (g2 := F0 m 752 ls [.int (xs 1), .ref m0]) rfl ?_
  refine lv_aload_n hx hb dL_law_752 rfl (lv_at hl 1 rfl) ?_
  refine lv_iload hx hb dL_law_753 (lv_at hl 6 rfl) ?_
  refine lv_iconst (v := 2) hx hb dL_law_755 (by decide) ?_
  refine lv_iadd hx hb dL_law_756 ?_
  refine lv_topi (fun v_5 ev_5 => ?_)
  have ev_5 : v_5 = 2 := ev_5.trans (by decide)
  subst ev_5
  refine va_sld hx hb hX hbl hbA hS (i := 2) (by unfold vp_in; decide) dL_law_757 ?_
  refine W.eq (g2 := F0 m 758 ls [.int (xs 2), .int (xs 1), .ref m0]) rfl ?_
  have hS0 := hS
  have hFc := va_free (wc := [(m0, .inr (16, [.int 0, .ref kl, .null, .ref tl]))]) hD hS hA [0] rfl
  refine va_calli (va_runV (As := [.int (xs 1), .int (xs 2)]) (rest := []) ⟨hx, hb, hml, hown, hts⟩ (c_X9_give l κ D (H).size (m0) (kl) (tl) ((xs 1)) ((xs 2)) ) (cwV 2 hts gd_law_c_X9_give rfl rfl rfl (by decide +kernel) ⟨(Nat.le_of_ble_eq_true rfl), (Nat.le_of_ble_eq_true rfl)⟩) (preV hE hK hP hD hS hA [0] rfl (by decide) [] rfl (va_recv hK hP (ci := 16) (q0 := 0) rfl rfl)) rfl rfl hl.1 rfl (lv_room (Nat.le_of_ble_eq_true rfl)) dL_law_758 ⟨(Nat.le_of_ble_eq_true rfl), (Nat.le_of_ble_eq_true rfl)⟩) hS (fun q _ h => hFc q h) hFc (fun r_6 u t H1 locs ht hvm hw hB hz1 hk1 hS => ?_)
  try dsimp only at hw
  obtain ⟨hP, hD, hK⟩ := jn (wc := [(m0, .inr (16, [.int 0, .ref kl, .null, .ref tl]))]) (wr := [(kl, .inr (6, [.int 0, .ref (κ 0), .int 0]))]) (w1 := [(m0, .inr (16, [.int 1, .ref kl, .null, .ref tl]))]) (t1 := []) hP hD hK hS0 hA [0] [1] rfl rfl (by decide) (by decide) ht hvm hk1 hB
  generalize H1 = H at hP hS ⊢
  have hP : va_P D vwCl ([(kl, .inr (6, [.int 0, .ref (κ 0), .int 0])), (m0, .inr (16, [.int 1, .ref kl, .null, .ref tl]))]) H := hP
  have hD : va_D (LA s) ([(kl, .inr (6, [.int 0, .ref (κ 0), .int 0])), (m0, .inr (16, [.int 1, .ref kl, .null, .ref tl]))]) := hD
  have hK : va_K D vwCl [(cL, .long)] s := hK
  refine W.widen (k := 301) (n := 40006) (Nat.le_of_ble_eq_true rfl) (Nat.le_of_ble_eq_true rfl) ?_
  refine lv_istore (lv' := [(7, .int r_6), (6, .int 1), (0, .ref b), (1, .ref h0), (2, .ref m0), (3, .ref u0), (4, .ref w0), (5, .int 0)]) hx hb dL_law_761 hl (by decide) rfl (fun ls hl => ?_)
  refine lv_aload_n hx hb dL_law_763 rfl (lv_at hl 4 rfl) ?_
  have hS0 := hS
  have hFc := va_free (wc := [(m0, .inr (16, [.int 1, .ref kl, .null, .ref tl]))]) hD hS hA [1] rfl
  refine va_calli (va_runV (As := []) (rest := []) ⟨hx, hb, hml, hown, hts⟩ (c_X9_thrown l κ D (H).size (m0) (kl) (tl) (1) ) (cwV 0 hts gd_law_c_X9_thrown rfl rfl rfl (by decide +kernel) ⟨(Nat.le_of_ble_eq_true rfl), (Nat.le_of_ble_eq_true rfl)⟩) (preV hE hK hP hD hS hA [1] rfl (by decide) [] rfl (va_recv hK hP (ci := 16) (q0 := 1) rfl rfl)) rfl rfl hl.1 rfl (lv_room (Nat.le_of_ble_eq_true rfl)) dL_law_764 ⟨(Nat.le_of_ble_eq_true rfl), (Nat.le_of_ble_eq_true rfl)⟩) hS (fun q _ h => hFc q h) hFc (fun r_7 u t H1 locs ht hvm hw hB hz1 hk1 hS => ?_)
  try dsimp only at hw
  obtain ⟨hP, hD, hK⟩ := jn (wc := [(m0, .inr (16, [.int 1, .ref kl, .null, .ref tl]))]) (wr := [(kl, .inr (6, [.int 0, .ref (κ 0), .int 0]))]) (w1 := [(m0, .inr (16, [.int 1, .ref kl, .null, .ref tl]))]) (t1 := []) hP hD hK hS0 hA [1] [0] rfl rfl (by decide) (by decide) ht hvm hk1 hB
  generalize H1 = H at hP hS ⊢
  have hP : va_P D vwCl ([(kl, .inr (6, [.int 0, .ref (κ 0), .int 0])), (m0, .inr (16, [.int 1, .ref kl, .null, .ref tl]))]) H := hP
  have hD : va_D (LA s) ([(kl, .inr (6, [.int 0, .ref (κ 0), .int 0])), (m0, .inr (16, [.int 1, .ref kl, .null, .ref tl]))]) := hD
  have hK : va_K D vwCl [(cL, .long)] s := hK
  refine W.widen (k := 301) (n := 40006) (Nat.le_of_ble_eq_true rfl) (Nat.le_of_ble_eq_true rfl) ?_
  subst hw
  refine lv_iload hx hb dL_law_767 (lv_at hl 1 rfl) ?_
  refine lv_icmp_eq (tgt := 774) hx hb dL_law_769 (by decide) (fun _ => ?_) (fun c_769 => absurd c_769 (by decide))
  refine lv_iload hx hb dL_law_774 (lv_at hl 1 rfl) ?_
  refine lv_if_ne (tgt := 791) hx hb dL_law_776 (by decide) (fun _ => ?_) (fun c_776 => absurd c_776 (by decide))
  refine lv_goto (tgt := 2351) hx hb dL_law_791 (by decide) ?_
  refine W.widen (k := 400) (n := 41000) (Nat.le_of_ble_eq_true rfl) (Nat.le_of_ble_eq_true rfl) ?_
  exact law_end C1 H locs ls hS (lv_sub hl [7, 2] rfl)

set_option maxHeartbeats 8000000 in
set_option maxRecDepth 100000 in
theorem law_move {p : Program} {l : Launch} {e : Env} {s : State} {m : MethodId} {below : List Frame} {meth : Method} {c : Code} {b : Nat} {xs : Nat → Int32} {κ : Nat → Nat} (C0 : law_At2 p l s m meth c b xs κ) {D : va_G} {h0 : Nat} {o0 : Nat} {g0 : Nat} {o2 : Nat} {o3 : Nat} {o4 : Nat} {o5 : Nat} {o6 : Nat} {g1 : Nat} {g2 : Nat} {g3 : Nat} {g4 : Nat} {g5 : Nat} {g6 : Nat} {m0 : Nat} {kl : Nat} {tl : Nat} {u0 : Nat} {w0 : Nat} {cL : ClassId}  (H : Heap) (locs : List Loc) (ls : Array Slot) (hK : va_K D vwCl [(cL, .long)] s) (hP : va_P D vwCl [(h0, .inr (12, [.ref o0, .int 0, .ref g0, .ref o2, .ref o3, .ref o4, .ref o5, .int 0, .ref o6])), (g0, .inr (8, [.ref g1, .ref g2, .ref g3, .ref g4, .ref g5, .ref g6, .int 0, .int 0, .int 0, .int 0])), (m0, .inr (16, [.int 0, .ref kl, .null, .ref tl])), (kl, .inr (6, [.int 0, .ref (κ 0), .int 0])), (u0, .inl (cL, 1, .inr (.inl (fun _ => 0))))] H) (hD : va_D (LA s) [(h0, .inr (12, [.ref o0, .int 0, .ref g0, .ref o2, .ref o3, .ref o4, .ref o5, .int 0, .ref o6])), (g0, .inr (8, [.ref g1, .ref g2, .ref g3, .ref g4, .ref g5, .ref g6, .int 0, .int 0, .int 0, .int 0])), (m0, .inr (16, [.int 0, .ref kl, .null, .ref tl])), (kl, .inr (6, [.int 0, .ref (κ 0), .int 0])), (u0, .inl (cL, 1, .inr (.inl (fun _ => 0))))]) (hS : va_S (LA s) s.heap H locs) (hl : lv_has ls 9 [(0, .ref b), (1, .ref h0), (2, .ref m0), (3, .ref u0), (4, .ref w0), (5, .int 0)]) : W p l e room_1 s m #[Value.ref b] below meth c H locs 300 40000 (lw_Z below #[Value.ref b] s) (F0 m 794 ls []) := by
  have C1 := C0
  obtain ⟨hl0, hx, hb, hr, hml, hown, hts, hX, hbl, hlocks, hE⟩ := C0
  have hA : ∀ q : Nat, s.heap.size ≤ q → LA s q := fun _ h => h
  have hbA : ¬ LA s b := Nat.not_le.mpr hbl
  refine lv_aload_n hx hb dL_law_794 rfl (lv_at hl 1 rfl) ?_
  refine lv_aload_n hx hb dL_law_795 rfl (lv_at hl 0 rfl) ?_
  refine lv_iload hx hb dL_law_796 (lv_at hl 5 rfl) ?_
  refine lv_iconst (v := 1) hx hb dL_law_798 (by decide) ?_
  refine lv_iadd hx hb dL_law_799 ?_
  refine lv_topi (fun v_1 ev_1 => ?_)
  have ev_1 : v_1 = 1 := ev_1.trans (by decide)
  subst ev_1
  refine va_sld hx hb hX hbl hbA hS (i := 1) (by unfold vp_in; decide) dL_law_800 ?_
  refine W.eq (g2 := F0 m 801 ls [.int (xs 1), .ref h0]) rfl ?_
  refine lv_aload_n hx hb dL_law_801 rfl (lv_at hl 3 rfl) ?_
  have hS0 := hS
  have hFc := va_free (wc := [(h0, .inr (12, [.ref o0, .int 0, .ref g0, .ref o2, .ref o3, .ref o4, .ref o5, .int 0, .ref o6])), (g0, .inr (8, [.ref g1, .ref g2, .ref g3, .ref g4, .ref g5, .ref g6, .int 0, .int 0, .int 0, .int 0])), (u0, .inl (cL, 1, .inr (.inl (fun _ => 0))))]) hD hS hA [0, 1, 4] rfl
  refine va_calli (vx_runSW (As := [.ref h0, .int (xs 1), .ref u0]) (rest := []) ⟨hx, hb, hml, hown, hts⟩ (c_L_move l hl0 κ D (H).size (h0) (o0) (g0) (o2) (o3) (o4) (o5) (o6) (g1) (g2) (g3) (g4) (g5) (g6) ((xs 1)) (u0) (cL) ((fun _ => 0)) ) (vx_cwSW 3 hts gd_law_c_L_move rfl rfl rfl (by decide +kernel) ⟨(Nat.le_of_ble_eq_true rfl), (Nat.le_of_ble_eq_true rfl)⟩) (preS hE hK hP hD hS hA [0, 1, 4] rfl (by decide) [0] rfl) rfl rfl hl.1 rfl (lv_room (Nat.le_of_ble_eq_true rfl)) dL_law_802 ⟨(Nat.le_of_ble_eq_true rfl), (Nat.le_of_ble_eq_true rfl)⟩) hS (fun q _ h => hFc q h) hFc (fun r_2 u t H1 locs ht hvm hw hB hz1 hk1 hS => ?_)
  try dsimp only at hw
  obtain ⟨hP, hD, hK⟩ := jn (wc := [(h0, .inr (12, [.ref o0, .int 0, .ref g0, .ref o2, .ref o3, .ref o4, .ref o5, .int 0, .ref o6])), (g0, .inr (8, [.ref g1, .ref g2, .ref g3, .ref g4, .ref g5, .ref g6, .int 0, .int 0, .int 0, .int 0])), (u0, .inl (cL, 1, .inr (.inl (fun _ => 0))))]) (wr := [(m0, .inr (16, [.int 0, .ref kl, .null, .ref tl])), (kl, .inr (6, [.int 0, .ref (κ 0), .int 0]))]) (w1 := []) (t1 := []) hP hD hK hS0 hA [0, 1, 4] [2, 3] rfl rfl (by decide) (by decide) ht hvm hk1 hB
  generalize H1 = H at hP hS ⊢
  have hP : va_P D vwCl ([(m0, .inr (16, [.int 0, .ref kl, .null, .ref tl])), (kl, .inr (6, [.int 0, .ref (κ 0), .int 0]))]) H := hP
  have hD : va_D (LA s) ([(m0, .inr (16, [.int 0, .ref kl, .null, .ref tl])), (kl, .inr (6, [.int 0, .ref (κ 0), .int 0]))]) := hD
  have hK : va_K D vwCl [(cL, .long)] s := hK
  refine W.widen (k := 301) (n := 40006) (Nat.le_of_ble_eq_true rfl) (Nat.le_of_ble_eq_true rfl) ?_
  subst hw
  refine lv_istore (lv' := [(6, .int 1), (0, .ref b), (1, .ref h0), (2, .ref m0), (3, .ref u0), (4, .ref w0), (5, .int 0)]) hx hb dL_law_805 hl (by decide) rfl (fun ls hl => ?_)
  refine lv_aload_n hx hb dL_law_807 rfl (lv_at hl 3 rfl) ?_
  refine lv_aload_n hx hb dL_law_808 rfl (lv_at hl 1 rfl) ?_
  refine lv_iload hx hb dL_law_809 (lv_at hl 6 rfl) ?_
  refine lv_iconst (v := 1) hx hb dL_law_811 (by decide) ?_
  refine lv_iadd hx hb dL_law_812 ?_
  refine lv_topi (fun v_3 ev_3 => ?_)
  have ev_3 : v_3 = 1 := ev_3.trans (by decide)
  subst ev_3
  refine va_sld hx hb hX hbl hbA hS (i := 1) (by unfold vp_in; decide) dL_law_813 ?_
  refine W.eq (g2 := F0 m 814 ls [.int (xs 1), .ref m0]) rfl ?_
  have hS0 := hS
  have hFc := va_free (wc := [(m0, .inr (16, [.int 0, .ref kl, .null, .ref tl]))]) hD hS hA [0] rfl
  refine va_calli (va_runV (As := [.int (xs 1)]) (rest := []) ⟨hx, hb, hml, hown, hts⟩ (c_X9_move l κ D (H).size (m0) (kl) (tl) ((xs 1)) ) (cwV 1 hts gd_law_c_X9_move rfl rfl rfl (by decide +kernel) ⟨(Nat.le_of_ble_eq_true rfl), (Nat.le_of_ble_eq_true rfl)⟩) (preV hE hK hP hD hS hA [0] rfl (by decide) [] rfl (va_recv hK hP (ci := 16) (q0 := 0) rfl rfl)) rfl rfl hl.1 rfl (lv_room (Nat.le_of_ble_eq_true rfl)) dL_law_814 ⟨(Nat.le_of_ble_eq_true rfl), (Nat.le_of_ble_eq_true rfl)⟩) hS (fun q _ h => hFc q h) hFc (fun r_4 u t H1 locs ht hvm hw hB hz1 hk1 hS => ?_)
  try dsimp only at hw
  obtain ⟨hP, hD, hK⟩ := jn (wc := [(m0, .inr (16, [.int 0, .ref kl, .null, .ref tl]))]) (wr := [(kl, .inr (6, [.int 0, .ref (κ 0), .int 0]))]) (w1 := [(m0, .inr (16, [.int 1, .ref kl, .null, .ref tl]))]) (t1 := []) hP hD hK hS0 hA [0] [1] rfl rfl (by decide) (by decide) ht hvm hk1 hB
  generalize H1 = H at hP hS ⊢
  have hP : va_P D vwCl ([(kl, .inr (6, [.int 0, .ref (κ 0), .int 0])), (m0, .inr (16, [.int 1, .ref kl, .null, .ref tl]))]) H := hP
  have hD : va_D (LA s) ([(kl, .inr (6, [.int 0, .ref (κ 0), .int 0])), (m0, .inr (16, [.int 1, .ref kl, .null, .ref tl]))]) := hD
  have hK : va_K D vwCl [(cL, .long)] s := hK
  refine W.widen (k := 301) (n := 40006) (Nat.le_of_ble_eq_true rfl) (Nat.le_of_ble_eq_true rfl) ?_
  refine lv_istore (lv' := [(7, .int r_4), (6, .int 1), (0, .ref b), (1, .ref h0), (2, .ref m0), (3, .ref u0), (4, .ref w0), (5, .int 0)]) hx hb dL_law_817 hl (by decide) rfl (fun ls hl => ?_)
  refine lv_aload_n hx hb dL_law_819 rfl (lv_at hl 4 rfl) ?_
  have hS0 := hS
  have hFc := va_free (wc := [(m0, .inr (16, [.int 1, .ref kl, .null, .ref tl]))]) hD hS hA [1] rfl
  refine va_calli (va_runV (As := []) (rest := []) ⟨hx, hb, hml, hown, hts⟩ (c_X9_thrown l κ D (H).size (m0) (kl) (tl) (1) ) (cwV 0 hts gd_law_c_X9_thrown rfl rfl rfl (by decide +kernel) ⟨(Nat.le_of_ble_eq_true rfl), (Nat.le_of_ble_eq_true rfl)⟩) (preV hE hK hP hD hS hA [1] rfl (by decide) [] rfl (va_recv hK hP (ci := 16) (q0 := 1) rfl rfl)) rfl rfl hl.1 rfl (lv_room (Nat.le_of_ble_eq_true rfl)) dL_law_820 ⟨(Nat.le_of_ble_eq_true rfl), (Nat.le_of_ble_eq_true rfl)⟩) hS (fun q _ h => hFc q h) hFc (fun r_5 u t H1 locs ht hvm hw hB hz1 hk1 hS => ?_)
  try dsimp only at hw
  obtain ⟨hP, hD, hK⟩ := jn (wc := [(m0, .inr (16, [.int 1, .ref kl, .null, .ref tl]))]) (wr := [(kl, .inr (6, [.int 0, .ref (κ 0), .int 0]))]) (w1 := [(m0, .inr (16, [.int 1, .ref kl, .null, .ref tl]))]) (t1 := []) hP hD hK hS0 hA [1] [0] rfl rfl (by decide) (by decide) ht hvm hk1 hB
  generalize H1 = H at hP hS ⊢
  have hP : va_P D vwCl ([(kl, .inr (6, [.int 0, .ref (κ 0), .int 0])), (m0, .inr (16, [.int 1, .ref kl, .null, .ref tl]))]) H := hP
  have hD : va_D (LA s) ([(kl, .inr (6, [.int 0, .ref (κ 0), .int 0])), (m0, .inr (16, [.int 1, .ref kl, .null, .ref tl]))]) := hD
  have hK : va_K D vwCl [(cL, .long)] s := hK
  refine W.widen (k := 301) (n := 40006) (Nat.le_of_ble_eq_true rfl) (Nat.le_of_ble_eq_true rfl) ?_
  subst hw
  refine lv_iload hx hb dL_law_823 (lv_at hl 1 rfl) ?_
  refine lv_icmp_eq (tgt := 830) hx hb dL_law_825 (by decide) (fun _ => ?_) (fun c_825 => absurd c_825 (by decide))
  refine lv_iload hx hb dL_law_830 (lv_at hl 1 rfl) ?_
  refine lv_if_ne (tgt := 847) hx hb dL_law_832 (by decide) (fun _ => ?_) (fun c_832 => absurd c_832 (by decide))
  refine lv_goto (tgt := 2351) hx hb dL_law_847 (by decide) ?_
  refine W.widen (k := 400) (n := 41000) (Nat.le_of_ble_eq_true rfl) (Nat.le_of_ble_eq_true rfl) ?_
  exact law_end C1 H locs ls hS (lv_sub hl [7, 2] rfl)

set_option maxHeartbeats 8000000 in
set_option maxRecDepth 100000 in
theorem law_barred {p : Program} {l : Launch} {e : Env} {s : State} {m : MethodId} {below : List Frame} {meth : Method} {c : Code} {b : Nat} {xs : Nat → Int32} {κ : Nat → Nat} (C0 : law_At2 p l s m meth c b xs κ) {D : va_G} {h0 : Nat} {o0 : Nat} {g0 : Nat} {o2 : Nat} {o3 : Nat} {o4 : Nat} {o5 : Nat} {o6 : Nat} {g1 : Nat} {g2 : Nat} {g3 : Nat} {g4 : Nat} {g5 : Nat} {g6 : Nat} {m0 : Nat} {kl : Nat} {tl : Nat} {u0 : Nat} {w0 : Nat} {cL : ClassId}  (H : Heap) (locs : List Loc) (ls : Array Slot) (hK : va_K D vwCl [(cL, .long)] s) (hP : va_P D vwCl [(h0, .inr (12, [.ref o0, .int 0, .ref g0, .ref o2, .ref o3, .ref o4, .ref o5, .int 0, .ref o6])), (g0, .inr (8, [.ref g1, .ref g2, .ref g3, .ref g4, .ref g5, .ref g6, .int 0, .int 0, .int 0, .int 0])), (m0, .inr (16, [.int 0, .ref kl, .null, .ref tl])), (kl, .inr (6, [.int 0, .ref (κ 0), .int 0])), (u0, .inl (cL, 1, .inr (.inl (fun _ => 0))))] H) (hD : va_D (LA s) [(h0, .inr (12, [.ref o0, .int 0, .ref g0, .ref o2, .ref o3, .ref o4, .ref o5, .int 0, .ref o6])), (g0, .inr (8, [.ref g1, .ref g2, .ref g3, .ref g4, .ref g5, .ref g6, .int 0, .int 0, .int 0, .int 0])), (m0, .inr (16, [.int 0, .ref kl, .null, .ref tl])), (kl, .inr (6, [.int 0, .ref (κ 0), .int 0])), (u0, .inl (cL, 1, .inr (.inl (fun _ => 0))))]) (hS : va_S (LA s) s.heap H locs) (hl : lv_has ls 9 [(0, .ref b), (1, .ref h0), (2, .ref m0), (3, .ref u0), (4, .ref w0), (5, .int 0)]) : W p l e room_1 s m #[Value.ref b] below meth c H locs 300 40000 (lw_Z below #[Value.ref b] s) (F0 m 850 ls []) := by
  have C1 := C0
  obtain ⟨hl0, hx, hb, hr, hml, hown, hts, hX, hbl, hlocks, hE⟩ := C0
  have hA : ∀ q : Nat, s.heap.size ≤ q → LA s q := fun _ h => h
  have hbA : ¬ LA s b := Nat.not_le.mpr hbl
  refine lv_aload_n hx hb dL_law_850 rfl (lv_at hl 1 rfl) ?_
  refine lv_aload_n hx hb dL_law_851 rfl (lv_at hl 0 rfl) ?_
  refine lv_iload hx hb dL_law_852 (lv_at hl 5 rfl) ?_
  refine lv_iconst (v := 1) hx hb dL_law_854 (by decide) ?_
  refine lv_iadd hx hb dL_law_855 ?_
  refine lv_topi (fun v_1 ev_1 => ?_)
  have ev_1 : v_1 = 1 := ev_1.trans (by decide)
  subst ev_1
  refine va_sld hx hb hX hbl hbA hS (i := 1) (by unfold vp_in; decide) dL_law_856 ?_
  refine W.eq (g2 := F0 m 857 ls [.int (xs 1), .ref h0]) rfl ?_
  refine lv_aload_n hx hb dL_law_857 rfl (lv_at hl 3 rfl) ?_
  have hS0 := hS
  have hFc := va_free (wc := [(h0, .inr (12, [.ref o0, .int 0, .ref g0, .ref o2, .ref o3, .ref o4, .ref o5, .int 0, .ref o6])), (g0, .inr (8, [.ref g1, .ref g2, .ref g3, .ref g4, .ref g5, .ref g6, .int 0, .int 0, .int 0, .int 0])), (u0, .inl (cL, 1, .inr (.inl (fun _ => 0))))]) hD hS hA [0, 1, 4] rfl
  refine va_calli (vx_runSW (As := [.ref h0, .int (xs 1), .ref u0]) (rest := []) ⟨hx, hb, hml, hown, hts⟩ (c_L_barred l hl0 κ D (H).size (h0) (o0) (g0) (o2) (o3) (o4) (o5) (o6) (g1) (g2) (g3) (g4) (g5) (g6) ((xs 1)) (u0) (cL) ((fun _ => 0)) ) (vx_cwSW 3 hts gd_law_c_L_barred rfl rfl rfl (by decide +kernel) ⟨(Nat.le_of_ble_eq_true rfl), (Nat.le_of_ble_eq_true rfl)⟩) (preS hE hK hP hD hS hA [0, 1, 4] rfl (by decide) [0] rfl) rfl rfl hl.1 rfl (lv_room (Nat.le_of_ble_eq_true rfl)) dL_law_858 ⟨(Nat.le_of_ble_eq_true rfl), (Nat.le_of_ble_eq_true rfl)⟩) hS (fun q _ h => hFc q h) hFc (fun r_2 u t H1 locs ht hvm hw hB hz1 hk1 hS => ?_)
  try dsimp only at hw
  obtain ⟨hP, hD, hK⟩ := jn (wc := [(h0, .inr (12, [.ref o0, .int 0, .ref g0, .ref o2, .ref o3, .ref o4, .ref o5, .int 0, .ref o6])), (g0, .inr (8, [.ref g1, .ref g2, .ref g3, .ref g4, .ref g5, .ref g6, .int 0, .int 0, .int 0, .int 0])), (u0, .inl (cL, 1, .inr (.inl (fun _ => 0))))]) (wr := [(m0, .inr (16, [.int 0, .ref kl, .null, .ref tl])), (kl, .inr (6, [.int 0, .ref (κ 0), .int 0]))]) (w1 := []) (t1 := []) hP hD hK hS0 hA [0, 1, 4] [2, 3] rfl rfl (by decide) (by decide) ht hvm hk1 hB
  generalize H1 = H at hP hS ⊢
  have hP : va_P D vwCl ([(m0, .inr (16, [.int 0, .ref kl, .null, .ref tl])), (kl, .inr (6, [.int 0, .ref (κ 0), .int 0]))]) H := hP
  have hD : va_D (LA s) ([(m0, .inr (16, [.int 0, .ref kl, .null, .ref tl])), (kl, .inr (6, [.int 0, .ref (κ 0), .int 0]))]) := hD
  have hK : va_K D vwCl [(cL, .long)] s := hK
  refine W.widen (k := 301) (n := 40006) (Nat.le_of_ble_eq_true rfl) (Nat.le_of_ble_eq_true rfl) ?_
  subst hw
  refine lv_istore (lv' := [(6, .int 1), (0, .ref b), (1, .ref h0), (2, .ref m0), (3, .ref u0), (4, .ref w0), (5, .int 0)]) hx hb dL_law_861 hl (by decide) rfl (fun ls hl => ?_)
  refine lv_aload_n hx hb dL_law_863 rfl (lv_at hl 3 rfl) ?_
  refine lv_aload_n hx hb dL_law_864 rfl (lv_at hl 1 rfl) ?_
  refine lv_iload hx hb dL_law_865 (lv_at hl 6 rfl) ?_
  refine lv_iconst (v := 1) hx hb dL_law_867 (by decide) ?_
  refine lv_iadd hx hb dL_law_868 ?_
  refine lv_topi (fun v_3 ev_3 => ?_)
  have ev_3 : v_3 = 1 := ev_3.trans (by decide)
  subst ev_3
  refine va_sld hx hb hX hbl hbA hS (i := 1) (by unfold vp_in; decide) dL_law_869 ?_
  refine W.eq (g2 := F0 m 870 ls [.int (xs 1), .ref m0]) rfl ?_
  have hS0 := hS
  have hFc := va_free (wc := [(m0, .inr (16, [.int 0, .ref kl, .null, .ref tl]))]) hD hS hA [0] rfl
  refine va_calli (va_runV (As := [.int (xs 1)]) (rest := []) ⟨hx, hb, hml, hown, hts⟩ (c_X9_barred l κ D (H).size (m0) (kl) (tl) ((xs 1)) ) (cwV 1 hts gd_law_c_X9_barred rfl rfl rfl (by decide +kernel) ⟨(Nat.le_of_ble_eq_true rfl), (Nat.le_of_ble_eq_true rfl)⟩) (preV hE hK hP hD hS hA [0] rfl (by decide) [] rfl (va_recv hK hP (ci := 16) (q0 := 0) rfl rfl)) rfl rfl hl.1 rfl (lv_room (Nat.le_of_ble_eq_true rfl)) dL_law_870 ⟨(Nat.le_of_ble_eq_true rfl), (Nat.le_of_ble_eq_true rfl)⟩) hS (fun q _ h => hFc q h) hFc (fun r_4 u t H1 locs ht hvm hw hB hz1 hk1 hS => ?_)
  try dsimp only at hw
  obtain ⟨hP, hD, hK⟩ := jn (wc := [(m0, .inr (16, [.int 0, .ref kl, .null, .ref tl]))]) (wr := [(kl, .inr (6, [.int 0, .ref (κ 0), .int 0]))]) (w1 := [(m0, .inr (16, [.int 1, .ref kl, .null, .ref tl]))]) (t1 := []) hP hD hK hS0 hA [0] [1] rfl rfl (by decide) (by decide) ht hvm hk1 hB
  generalize H1 = H at hP hS ⊢
  have hP : va_P D vwCl ([(kl, .inr (6, [.int 0, .ref (κ 0), .int 0])), (m0, .inr (16, [.int 1, .ref kl, .null, .ref tl]))]) H := hP
  have hD : va_D (LA s) ([(kl, .inr (6, [.int 0, .ref (κ 0), .int 0])), (m0, .inr (16, [.int 1, .ref kl, .null, .ref tl]))]) := hD
  have hK : va_K D vwCl [(cL, .long)] s := hK
  refine W.widen (k := 301) (n := 40006) (Nat.le_of_ble_eq_true rfl) (Nat.le_of_ble_eq_true rfl) ?_
  refine lv_istore (lv' := [(7, .int r_4), (6, .int 1), (0, .ref b), (1, .ref h0), (2, .ref m0), (3, .ref u0), (4, .ref w0), (5, .int 0)]) hx hb dL_law_873 hl (by decide) rfl (fun ls hl => ?_)
  refine lv_aload_n hx hb dL_law_875 rfl (lv_at hl 4 rfl) ?_
  have hS0 := hS
  have hFc := va_free (wc := [(m0, .inr (16, [.int 1, .ref kl, .null, .ref tl]))]) hD hS hA [1] rfl
  refine va_calli (va_runV (As := []) (rest := []) ⟨hx, hb, hml, hown, hts⟩ (c_X9_thrown l κ D (H).size (m0) (kl) (tl) (1) ) (cwV 0 hts gd_law_c_X9_thrown rfl rfl rfl (by decide +kernel) ⟨(Nat.le_of_ble_eq_true rfl), (Nat.le_of_ble_eq_true rfl)⟩) (preV hE hK hP hD hS hA [1] rfl (by decide) [] rfl (va_recv hK hP (ci := 16) (q0 := 1) rfl rfl)) rfl rfl hl.1 rfl (lv_room (Nat.le_of_ble_eq_true rfl)) dL_law_876 ⟨(Nat.le_of_ble_eq_true rfl), (Nat.le_of_ble_eq_true rfl)⟩) hS (fun q _ h => hFc q h) hFc (fun r_5 u t H1 locs ht hvm hw hB hz1 hk1 hS => ?_)
  try dsimp only at hw
  obtain ⟨hP, hD, hK⟩ := jn (wc := [(m0, .inr (16, [.int 1, .ref kl, .null, .ref tl]))]) (wr := [(kl, .inr (6, [.int 0, .ref (κ 0), .int 0]))]) (w1 := [(m0, .inr (16, [.int 1, .ref kl, .null, .ref tl]))]) (t1 := []) hP hD hK hS0 hA [1] [0] rfl rfl (by decide) (by decide) ht hvm hk1 hB
  generalize H1 = H at hP hS ⊢
  have hP : va_P D vwCl ([(kl, .inr (6, [.int 0, .ref (κ 0), .int 0])), (m0, .inr (16, [.int 1, .ref kl, .null, .ref tl]))]) H := hP
  have hD : va_D (LA s) ([(kl, .inr (6, [.int 0, .ref (κ 0), .int 0])), (m0, .inr (16, [.int 1, .ref kl, .null, .ref tl]))]) := hD
  have hK : va_K D vwCl [(cL, .long)] s := hK
  refine W.widen (k := 301) (n := 40006) (Nat.le_of_ble_eq_true rfl) (Nat.le_of_ble_eq_true rfl) ?_
  subst hw
  refine lv_iload hx hb dL_law_879 (lv_at hl 1 rfl) ?_
  refine lv_icmp_eq (tgt := 886) hx hb dL_law_881 (by decide) (fun _ => ?_) (fun c_881 => absurd c_881 (by decide))
  refine lv_iload hx hb dL_law_886 (lv_at hl 1 rfl) ?_
  refine lv_if_ne (tgt := 903) hx hb dL_law_888 (by decide) (fun _ => ?_) (fun c_888 => absurd c_888 (by decide))
  refine lv_goto (tgt := 2351) hx hb dL_law_903 (by decide) ?_
  refine W.widen (k := 400) (n := 41000) (Nat.le_of_ble_eq_true rfl) (Nat.le_of_ble_eq_true rfl) ?_
  exact law_end C1 H locs ls hS (lv_sub hl [7, 2] rfl)

set_option maxHeartbeats 8000000 in
set_option maxRecDepth 100000 in
theorem law_moves {p : Program} {l : Launch} {e : Env} {s : State} {m : MethodId} {below : List Frame} {meth : Method} {c : Code} {b : Nat} {xs : Nat → Int32} {κ : Nat → Nat} (C0 : law_At2 p l s m meth c b xs κ) {D : va_G} {h0 : Nat} {o0 : Nat} {g0 : Nat} {o2 : Nat} {o3 : Nat} {o4 : Nat} {o5 : Nat} {o6 : Nat} {g1 : Nat} {g2 : Nat} {g3 : Nat} {g4 : Nat} {g5 : Nat} {g6 : Nat} {m0 : Nat} {kl : Nat} {tl : Nat} {u0 : Nat} {w0 : Nat} {cL : ClassId}  (H : Heap) (locs : List Loc) (ls : Array Slot) (hK : va_K D vwCl [(cL, .long)] s) (hP : va_P D vwCl [(h0, .inr (12, [.ref o0, .int 0, .ref g0, .ref o2, .ref o3, .ref o4, .ref o5, .int 0, .ref o6])), (g0, .inr (8, [.ref g1, .ref g2, .ref g3, .ref g4, .ref g5, .ref g6, .int 0, .int 0, .int 0, .int 0])), (m0, .inr (16, [.int 0, .ref kl, .null, .ref tl])), (kl, .inr (6, [.int 0, .ref (κ 0), .int 0])), (u0, .inl (cL, 1, .inr (.inl (fun _ => 0))))] H) (hD : va_D (LA s) [(h0, .inr (12, [.ref o0, .int 0, .ref g0, .ref o2, .ref o3, .ref o4, .ref o5, .int 0, .ref o6])), (g0, .inr (8, [.ref g1, .ref g2, .ref g3, .ref g4, .ref g5, .ref g6, .int 0, .int 0, .int 0, .int 0])), (m0, .inr (16, [.int 0, .ref kl, .null, .ref tl])), (kl, .inr (6, [.int 0, .ref (κ 0), .int 0])), (u0, .inl (cL, 1, .inr (.inl (fun _ => 0))))]) (hS : va_S (LA s) s.heap H locs) (hl : lv_has ls 9 [(0, .ref b), (1, .ref h0), (2, .ref m0), (3, .ref u0), (4, .ref w0), (5, .int 0)]) : W p l e room_1 s m #[Value.ref b] below meth c H locs 300 40000 (lw_Z below #[Value.ref b] s) (F0 m 906 ls []) := by
  have C1 := C0
  obtain ⟨hl0, hx, hb, hr, hml, hown, hts, hX, hbl, hlocks, hE⟩ := C0
  have hA : ∀ q : Nat, s.heap.size ≤ q → LA s q := fun _ h => h
  have hbA : ¬ LA s b := Nat.not_le.mpr hbl
  refine lv_aload_n hx hb dL_law_906 rfl (lv_at hl 1 rfl) ?_
  refine lv_aload_n hx hb dL_law_907 rfl (lv_at hl 3 rfl) ?_
  have hS0 := hS
  have hFc := va_free (wc := [(h0, .inr (12, [.ref o0, .int 0, .ref g0, .ref o2, .ref o3, .ref o4, .ref o5, .int 0, .ref o6])), (g0, .inr (8, [.ref g1, .ref g2, .ref g3, .ref g4, .ref g5, .ref g6, .int 0, .int 0, .int 0, .int 0])), (u0, .inl (cL, 1, .inr (.inl (fun _ => 0))))]) hD hS hA [0, 1, 4] rfl
  refine va_calli (vx_runSW (As := [.ref h0, .ref u0]) (rest := []) ⟨hx, hb, hml, hown, hts⟩ (c_L_moves l hl0 κ D (H).size (h0) (o0) (g0) (o2) (o3) (o4) (o5) (o6) (g1) (g2) (g3) (g4) (g5) (g6) (u0) (cL) ((fun _ => 0)) ) (vx_cwSW 2 hts gd_law_c_L_moves rfl rfl rfl (by decide +kernel) ⟨(Nat.le_of_ble_eq_true rfl), (Nat.le_of_ble_eq_true rfl)⟩) (preS hE hK hP hD hS hA [0, 1, 4] rfl (by decide) [0] rfl) rfl rfl hl.1 rfl (lv_room (Nat.le_of_ble_eq_true rfl)) dL_law_908 ⟨(Nat.le_of_ble_eq_true rfl), (Nat.le_of_ble_eq_true rfl)⟩) hS (fun q _ h => hFc q h) hFc (fun r_1 u t H1 locs ht hvm hw hB hz1 hk1 hS => ?_)
  try dsimp only at hw
  obtain ⟨hP, hD, hK⟩ := jn (wc := [(h0, .inr (12, [.ref o0, .int 0, .ref g0, .ref o2, .ref o3, .ref o4, .ref o5, .int 0, .ref o6])), (g0, .inr (8, [.ref g1, .ref g2, .ref g3, .ref g4, .ref g5, .ref g6, .int 0, .int 0, .int 0, .int 0])), (u0, .inl (cL, 1, .inr (.inl (fun _ => 0))))]) (wr := [(m0, .inr (16, [.int 0, .ref kl, .null, .ref tl])), (kl, .inr (6, [.int 0, .ref (κ 0), .int 0]))]) (w1 := []) (t1 := []) hP hD hK hS0 hA [0, 1, 4] [2, 3] rfl rfl (by decide) (by decide) ht hvm hk1 hB
  generalize H1 = H at hP hS ⊢
  have hP : va_P D vwCl ([(m0, .inr (16, [.int 0, .ref kl, .null, .ref tl])), (kl, .inr (6, [.int 0, .ref (κ 0), .int 0]))]) H := hP
  have hD : va_D (LA s) ([(m0, .inr (16, [.int 0, .ref kl, .null, .ref tl])), (kl, .inr (6, [.int 0, .ref (κ 0), .int 0]))]) := hD
  have hK : va_K D vwCl [(cL, .long)] s := hK
  refine W.widen (k := 301) (n := 40006) (Nat.le_of_ble_eq_true rfl) (Nat.le_of_ble_eq_true rfl) ?_
  subst hw
  refine lv_istore (lv' := [(6, .int 1), (0, .ref b), (1, .ref h0), (2, .ref m0), (3, .ref u0), (4, .ref w0), (5, .int 0)]) hx hb dL_law_911 hl (by decide) rfl (fun ls hl => ?_)
  refine lv_aload_n hx hb dL_law_913 rfl (lv_at hl 3 rfl) ?_
  have hS0 := hS
  have hFc := va_free (wc := [(m0, .inr (16, [.int 0, .ref kl, .null, .ref tl]))]) hD hS hA [0] rfl
  refine va_calli (va_runV (As := []) (rest := []) ⟨hx, hb, hml, hown, hts⟩ (c_X9_moves l κ D (H).size (m0) (kl) (tl) ) (cwV 0 hts gd_law_c_X9_moves rfl rfl rfl (by decide +kernel) ⟨(Nat.le_of_ble_eq_true rfl), (Nat.le_of_ble_eq_true rfl)⟩) (preV hE hK hP hD hS hA [0] rfl (by decide) [] rfl (va_recv hK hP (ci := 16) (q0 := 0) rfl rfl)) rfl rfl hl.1 rfl (lv_room (Nat.le_of_ble_eq_true rfl)) dL_law_914 ⟨(Nat.le_of_ble_eq_true rfl), (Nat.le_of_ble_eq_true rfl)⟩) hS (fun q _ h => hFc q h) hFc (fun r_2 u t H1 locs ht hvm hw hB hz1 hk1 hS => ?_)
  try dsimp only at hw
  obtain ⟨hP, hD, hK⟩ := jn (wc := [(m0, .inr (16, [.int 0, .ref kl, .null, .ref tl]))]) (wr := [(kl, .inr (6, [.int 0, .ref (κ 0), .int 0]))]) (w1 := [(m0, .inr (16, [.int 1, .ref kl, .null, .ref tl]))]) (t1 := []) hP hD hK hS0 hA [0] [1] rfl rfl (by decide) (by decide) ht hvm hk1 hB
  generalize H1 = H at hP hS ⊢
  have hP : va_P D vwCl ([(kl, .inr (6, [.int 0, .ref (κ 0), .int 0])), (m0, .inr (16, [.int 1, .ref kl, .null, .ref tl]))]) H := hP
  have hD : va_D (LA s) ([(kl, .inr (6, [.int 0, .ref (κ 0), .int 0])), (m0, .inr (16, [.int 1, .ref kl, .null, .ref tl]))]) := hD
  have hK : va_K D vwCl [(cL, .long)] s := hK
  refine W.widen (k := 301) (n := 40006) (Nat.le_of_ble_eq_true rfl) (Nat.le_of_ble_eq_true rfl) ?_
  refine lv_istore (lv' := [(7, .int r_2), (6, .int 1), (0, .ref b), (1, .ref h0), (2, .ref m0), (3, .ref u0), (4, .ref w0), (5, .int 0)]) hx hb dL_law_917 hl (by decide) rfl (fun ls hl => ?_)
  refine lv_aload_n hx hb dL_law_919 rfl (lv_at hl 4 rfl) ?_
  have hS0 := hS
  have hFc := va_free (wc := [(m0, .inr (16, [.int 1, .ref kl, .null, .ref tl]))]) hD hS hA [1] rfl
  refine va_calli (va_runV (As := []) (rest := []) ⟨hx, hb, hml, hown, hts⟩ (c_X9_thrown l κ D (H).size (m0) (kl) (tl) (1) ) (cwV 0 hts gd_law_c_X9_thrown rfl rfl rfl (by decide +kernel) ⟨(Nat.le_of_ble_eq_true rfl), (Nat.le_of_ble_eq_true rfl)⟩) (preV hE hK hP hD hS hA [1] rfl (by decide) [] rfl (va_recv hK hP (ci := 16) (q0 := 1) rfl rfl)) rfl rfl hl.1 rfl (lv_room (Nat.le_of_ble_eq_true rfl)) dL_law_920 ⟨(Nat.le_of_ble_eq_true rfl), (Nat.le_of_ble_eq_true rfl)⟩) hS (fun q _ h => hFc q h) hFc (fun r_3 u t H1 locs ht hvm hw hB hz1 hk1 hS => ?_)
  try dsimp only at hw
  obtain ⟨hP, hD, hK⟩ := jn (wc := [(m0, .inr (16, [.int 1, .ref kl, .null, .ref tl]))]) (wr := [(kl, .inr (6, [.int 0, .ref (κ 0), .int 0]))]) (w1 := [(m0, .inr (16, [.int 1, .ref kl, .null, .ref tl]))]) (t1 := []) hP hD hK hS0 hA [1] [0] rfl rfl (by decide) (by decide) ht hvm hk1 hB
  generalize H1 = H at hP hS ⊢
  have hP : va_P D vwCl ([(kl, .inr (6, [.int 0, .ref (κ 0), .int 0])), (m0, .inr (16, [.int 1, .ref kl, .null, .ref tl]))]) H := hP
  have hD : va_D (LA s) ([(kl, .inr (6, [.int 0, .ref (κ 0), .int 0])), (m0, .inr (16, [.int 1, .ref kl, .null, .ref tl]))]) := hD
  have hK : va_K D vwCl [(cL, .long)] s := hK
  refine W.widen (k := 301) (n := 40006) (Nat.le_of_ble_eq_true rfl) (Nat.le_of_ble_eq_true rfl) ?_
  subst hw
  refine lv_iload hx hb dL_law_923 (lv_at hl 1 rfl) ?_
  refine lv_icmp_eq (tgt := 930) hx hb dL_law_925 (by decide) (fun _ => ?_) (fun c_925 => absurd c_925 (by decide))
  refine lv_iload hx hb dL_law_930 (lv_at hl 1 rfl) ?_
  refine lv_if_ne (tgt := 947) hx hb dL_law_932 (by decide) (fun _ => ?_) (fun c_932 => absurd c_932 (by decide))
  refine lv_goto (tgt := 2351) hx hb dL_law_947 (by decide) ?_
  refine W.widen (k := 400) (n := 41000) (Nat.le_of_ble_eq_true rfl) (Nat.le_of_ble_eq_true rfl) ?_
  exact law_end C1 H locs ls hS (lv_sub hl [7, 2] rfl)

set_option maxHeartbeats 8000000 in
set_option maxRecDepth 100000 in
theorem law_undo {p : Program} {l : Launch} {e : Env} {s : State} {m : MethodId} {below : List Frame} {meth : Method} {c : Code} {b : Nat} {xs : Nat → Int32} {κ : Nat → Nat} (C0 : law_At2 p l s m meth c b xs κ) {D : va_G} {h0 : Nat} {o0 : Nat} {g0 : Nat} {o2 : Nat} {o3 : Nat} {o4 : Nat} {o5 : Nat} {o6 : Nat} {g1 : Nat} {g2 : Nat} {g3 : Nat} {g4 : Nat} {g5 : Nat} {g6 : Nat} {m0 : Nat} {kl : Nat} {tl : Nat} {u0 : Nat} {w0 : Nat} {cL : ClassId}  (H : Heap) (locs : List Loc) (ls : Array Slot) (hK : va_K D vwCl [(cL, .long)] s) (hP : va_P D vwCl [(h0, .inr (12, [.ref o0, .int 0, .ref g0, .ref o2, .ref o3, .ref o4, .ref o5, .int 0, .ref o6])), (g0, .inr (8, [.ref g1, .ref g2, .ref g3, .ref g4, .ref g5, .ref g6, .int 0, .int 0, .int 0, .int 0])), (m0, .inr (16, [.int 0, .ref kl, .null, .ref tl])), (kl, .inr (6, [.int 0, .ref (κ 0), .int 0])), (u0, .inl (cL, 1, .inr (.inl (fun _ => 0))))] H) (hD : va_D (LA s) [(h0, .inr (12, [.ref o0, .int 0, .ref g0, .ref o2, .ref o3, .ref o4, .ref o5, .int 0, .ref o6])), (g0, .inr (8, [.ref g1, .ref g2, .ref g3, .ref g4, .ref g5, .ref g6, .int 0, .int 0, .int 0, .int 0])), (m0, .inr (16, [.int 0, .ref kl, .null, .ref tl])), (kl, .inr (6, [.int 0, .ref (κ 0), .int 0])), (u0, .inl (cL, 1, .inr (.inl (fun _ => 0))))]) (hS : va_S (LA s) s.heap H locs) (hl : lv_has ls 9 [(0, .ref b), (1, .ref h0), (2, .ref m0), (3, .ref u0), (4, .ref w0), (5, .int 0)]) : W p l e room_1 s m #[Value.ref b] below meth c H locs 300 40000 (lw_Z below #[Value.ref b] s) (F0 m 950 ls []) := by
  have C1 := C0
  obtain ⟨hl0, hx, hb, hr, hml, hown, hts, hX, hbl, hlocks, hE⟩ := C0
  have hA : ∀ q : Nat, s.heap.size ≤ q → LA s q := fun _ h => h
  have hbA : ¬ LA s b := Nat.not_le.mpr hbl
  refine lv_aload_n hx hb dL_law_950 rfl (lv_at hl 1 rfl) ?_
  refine lv_aload_n hx hb dL_law_951 rfl (lv_at hl 3 rfl) ?_
  have hS0 := hS
  have hFc := va_free (wc := [(h0, .inr (12, [.ref o0, .int 0, .ref g0, .ref o2, .ref o3, .ref o4, .ref o5, .int 0, .ref o6])), (g0, .inr (8, [.ref g1, .ref g2, .ref g3, .ref g4, .ref g5, .ref g6, .int 0, .int 0, .int 0, .int 0])), (u0, .inl (cL, 1, .inr (.inl (fun _ => 0))))]) hD hS hA [0, 1, 4] rfl
  refine va_calli (vx_runSW (As := [.ref h0, .ref u0]) (rest := []) ⟨hx, hb, hml, hown, hts⟩ (c_L_undo l hl0 κ D (H).size (h0) (o0) (g0) (o2) (o3) (o4) (o5) (o6) (g1) (g2) (g3) (g4) (g5) (g6) (u0) (cL) ((fun _ => 0)) ) (vx_cwSW 2 hts gd_law_c_L_undo rfl rfl rfl (by decide +kernel) ⟨(Nat.le_of_ble_eq_true rfl), (Nat.le_of_ble_eq_true rfl)⟩) (preS hE hK hP hD hS hA [0, 1, 4] rfl (by decide) [0] rfl) rfl rfl hl.1 rfl (lv_room (Nat.le_of_ble_eq_true rfl)) dL_law_952 ⟨(Nat.le_of_ble_eq_true rfl), (Nat.le_of_ble_eq_true rfl)⟩) hS (fun q _ h => hFc q h) hFc (fun r_1 u t H1 locs ht hvm hw hB hz1 hk1 hS => ?_)
  try dsimp only at hw
  obtain ⟨hP, hD, hK⟩ := jn (wc := [(h0, .inr (12, [.ref o0, .int 0, .ref g0, .ref o2, .ref o3, .ref o4, .ref o5, .int 0, .ref o6])), (g0, .inr (8, [.ref g1, .ref g2, .ref g3, .ref g4, .ref g5, .ref g6, .int 0, .int 0, .int 0, .int 0])), (u0, .inl (cL, 1, .inr (.inl (fun _ => 0))))]) (wr := [(m0, .inr (16, [.int 0, .ref kl, .null, .ref tl])), (kl, .inr (6, [.int 0, .ref (κ 0), .int 0]))]) (w1 := []) (t1 := []) hP hD hK hS0 hA [0, 1, 4] [2, 3] rfl rfl (by decide) (by decide) ht hvm hk1 hB
  generalize H1 = H at hP hS ⊢
  have hP : va_P D vwCl ([(m0, .inr (16, [.int 0, .ref kl, .null, .ref tl])), (kl, .inr (6, [.int 0, .ref (κ 0), .int 0]))]) H := hP
  have hD : va_D (LA s) ([(m0, .inr (16, [.int 0, .ref kl, .null, .ref tl])), (kl, .inr (6, [.int 0, .ref (κ 0), .int 0]))]) := hD
  have hK : va_K D vwCl [(cL, .long)] s := hK
  refine W.widen (k := 301) (n := 40006) (Nat.le_of_ble_eq_true rfl) (Nat.le_of_ble_eq_true rfl) ?_
  subst hw
  refine lv_istore (lv' := [(6, .int 1), (0, .ref b), (1, .ref h0), (2, .ref m0), (3, .ref u0), (4, .ref w0), (5, .int 0)]) hx hb dL_law_955 hl (by decide) rfl (fun ls hl => ?_)
  refine lv_aload_n hx hb dL_law_957 rfl (lv_at hl 3 rfl) ?_
  have hS0 := hS
  have hFc := va_free (wc := [(m0, .inr (16, [.int 0, .ref kl, .null, .ref tl]))]) hD hS hA [0] rfl
  refine va_calli (va_runV (As := []) (rest := []) ⟨hx, hb, hml, hown, hts⟩ (c_X9_undo l κ D (H).size (m0) (kl) (tl) ) (cwV 0 hts gd_law_c_X9_undo rfl rfl rfl (by decide +kernel) ⟨(Nat.le_of_ble_eq_true rfl), (Nat.le_of_ble_eq_true rfl)⟩) (preV hE hK hP hD hS hA [0] rfl (by decide) [] rfl (va_recv hK hP (ci := 16) (q0 := 0) rfl rfl)) rfl rfl hl.1 rfl (lv_room (Nat.le_of_ble_eq_true rfl)) dL_law_958 ⟨(Nat.le_of_ble_eq_true rfl), (Nat.le_of_ble_eq_true rfl)⟩) hS (fun q _ h => hFc q h) hFc (fun r_2 u t H1 locs ht hvm hw hB hz1 hk1 hS => ?_)
  try dsimp only at hw
  obtain ⟨hP, hD, hK⟩ := jn (wc := [(m0, .inr (16, [.int 0, .ref kl, .null, .ref tl]))]) (wr := [(kl, .inr (6, [.int 0, .ref (κ 0), .int 0]))]) (w1 := [(m0, .inr (16, [.int 1, .ref kl, .null, .ref tl]))]) (t1 := []) hP hD hK hS0 hA [0] [1] rfl rfl (by decide) (by decide) ht hvm hk1 hB
  generalize H1 = H at hP hS ⊢
  have hP : va_P D vwCl ([(kl, .inr (6, [.int 0, .ref (κ 0), .int 0])), (m0, .inr (16, [.int 1, .ref kl, .null, .ref tl]))]) H := hP
  have hD : va_D (LA s) ([(kl, .inr (6, [.int 0, .ref (κ 0), .int 0])), (m0, .inr (16, [.int 1, .ref kl, .null, .ref tl]))]) := hD
  have hK : va_K D vwCl [(cL, .long)] s := hK
  refine W.widen (k := 301) (n := 40006) (Nat.le_of_ble_eq_true rfl) (Nat.le_of_ble_eq_true rfl) ?_
  refine lv_istore (lv' := [(7, .int r_2), (6, .int 1), (0, .ref b), (1, .ref h0), (2, .ref m0), (3, .ref u0), (4, .ref w0), (5, .int 0)]) hx hb dL_law_961 hl (by decide) rfl (fun ls hl => ?_)
  refine lv_aload_n hx hb dL_law_963 rfl (lv_at hl 4 rfl) ?_
  have hS0 := hS
  have hFc := va_free (wc := [(m0, .inr (16, [.int 1, .ref kl, .null, .ref tl]))]) hD hS hA [1] rfl
  refine va_calli (va_runV (As := []) (rest := []) ⟨hx, hb, hml, hown, hts⟩ (c_X9_thrown l κ D (H).size (m0) (kl) (tl) (1) ) (cwV 0 hts gd_law_c_X9_thrown rfl rfl rfl (by decide +kernel) ⟨(Nat.le_of_ble_eq_true rfl), (Nat.le_of_ble_eq_true rfl)⟩) (preV hE hK hP hD hS hA [1] rfl (by decide) [] rfl (va_recv hK hP (ci := 16) (q0 := 1) rfl rfl)) rfl rfl hl.1 rfl (lv_room (Nat.le_of_ble_eq_true rfl)) dL_law_964 ⟨(Nat.le_of_ble_eq_true rfl), (Nat.le_of_ble_eq_true rfl)⟩) hS (fun q _ h => hFc q h) hFc (fun r_3 u t H1 locs ht hvm hw hB hz1 hk1 hS => ?_)
  try dsimp only at hw
  obtain ⟨hP, hD, hK⟩ := jn (wc := [(m0, .inr (16, [.int 1, .ref kl, .null, .ref tl]))]) (wr := [(kl, .inr (6, [.int 0, .ref (κ 0), .int 0]))]) (w1 := [(m0, .inr (16, [.int 1, .ref kl, .null, .ref tl]))]) (t1 := []) hP hD hK hS0 hA [1] [0] rfl rfl (by decide) (by decide) ht hvm hk1 hB
  generalize H1 = H at hP hS ⊢
  have hP : va_P D vwCl ([(kl, .inr (6, [.int 0, .ref (κ 0), .int 0])), (m0, .inr (16, [.int 1, .ref kl, .null, .ref tl]))]) H := hP
  have hD : va_D (LA s) ([(kl, .inr (6, [.int 0, .ref (κ 0), .int 0])), (m0, .inr (16, [.int 1, .ref kl, .null, .ref tl]))]) := hD
  have hK : va_K D vwCl [(cL, .long)] s := hK
  refine W.widen (k := 301) (n := 40006) (Nat.le_of_ble_eq_true rfl) (Nat.le_of_ble_eq_true rfl) ?_
  subst hw
  refine lv_iload hx hb dL_law_967 (lv_at hl 1 rfl) ?_
  refine lv_icmp_eq (tgt := 974) hx hb dL_law_969 (by decide) (fun _ => ?_) (fun c_969 => absurd c_969 (by decide))
  refine lv_iload hx hb dL_law_974 (lv_at hl 1 rfl) ?_
  refine lv_if_ne (tgt := 991) hx hb dL_law_976 (by decide) (fun _ => ?_) (fun c_976 => absurd c_976 (by decide))
  refine lv_goto (tgt := 2351) hx hb dL_law_991 (by decide) ?_
  refine W.widen (k := 400) (n := 41000) (Nat.le_of_ble_eq_true rfl) (Nat.le_of_ble_eq_true rfl) ?_
  exact law_end C1 H locs ls hS (lv_sub hl [7, 2] rfl)

set_option maxHeartbeats 8000000 in
set_option maxRecDepth 100000 in
theorem law_seeds {p : Program} {l : Launch} {e : Env} {s : State} {m : MethodId} {below : List Frame} {meth : Method} {c : Code} {b : Nat} {xs : Nat → Int32} {κ : Nat → Nat} (C0 : law_At2 p l s m meth c b xs κ) {D : va_G} {h0 : Nat} {o0 : Nat} {g0 : Nat} {o2 : Nat} {o3 : Nat} {o4 : Nat} {o5 : Nat} {o6 : Nat} {g1 : Nat} {g2 : Nat} {g3 : Nat} {g4 : Nat} {g5 : Nat} {g6 : Nat} {m0 : Nat} {kl : Nat} {tl : Nat} {u0 : Nat} {w0 : Nat} {cL : ClassId}  (H : Heap) (locs : List Loc) (ls : Array Slot) (hK : va_K D vwCl [(cL, .long)] s) (hP : va_P D vwCl [(h0, .inr (12, [.ref o0, .int 0, .ref g0, .ref o2, .ref o3, .ref o4, .ref o5, .int 0, .ref o6])), (g0, .inr (8, [.ref g1, .ref g2, .ref g3, .ref g4, .ref g5, .ref g6, .int 0, .int 0, .int 0, .int 0])), (m0, .inr (16, [.int 0, .ref kl, .null, .ref tl])), (kl, .inr (6, [.int 0, .ref (κ 0), .int 0])), (u0, .inl (cL, 1, .inr (.inl (fun _ => 0))))] H) (hD : va_D (LA s) [(h0, .inr (12, [.ref o0, .int 0, .ref g0, .ref o2, .ref o3, .ref o4, .ref o5, .int 0, .ref o6])), (g0, .inr (8, [.ref g1, .ref g2, .ref g3, .ref g4, .ref g5, .ref g6, .int 0, .int 0, .int 0, .int 0])), (m0, .inr (16, [.int 0, .ref kl, .null, .ref tl])), (kl, .inr (6, [.int 0, .ref (κ 0), .int 0])), (u0, .inl (cL, 1, .inr (.inl (fun _ => 0))))]) (hS : va_S (LA s) s.heap H locs) (hl : lv_has ls 9 [(0, .ref b), (1, .ref h0), (2, .ref m0), (3, .ref u0), (4, .ref w0), (5, .int 0)]) : W p l e room_1 s m #[Value.ref b] below meth c H locs 300 40000 (lw_Z below #[Value.ref b] s) (F0 m 994 ls []) := by
  have C1 := C0
  obtain ⟨hl0, hx, hb, hr, hml, hown, hts, hX, hbl, hlocks, hE⟩ := C0
  have hA : ∀ q : Nat, s.heap.size ≤ q → LA s q := fun _ h => h
  have hbA : ¬ LA s b := Nat.not_le.mpr hbl
  refine lv_aload_n hx hb dL_law_994 rfl (lv_at hl 1 rfl) ?_
  refine lv_aload_n hx hb dL_law_995 rfl (lv_at hl 0 rfl) ?_
  refine lv_iload hx hb dL_law_996 (lv_at hl 5 rfl) ?_
  refine lv_iconst (v := 1) hx hb dL_law_998 (by decide) ?_
  refine lv_iadd hx hb dL_law_999 ?_
  refine lv_topi (fun v_1 ev_1 => ?_)
  have ev_1 : v_1 = 1 := ev_1.trans (by decide)
  subst ev_1
  refine va_sld hx hb hX hbl hbA hS (i := 1) (by unfold vp_in; decide) dL_law_1000 ?_
  refine W.eq (g2 := F0 m 1001 ls [.int (xs 1), .ref h0]) rfl ?_
  refine lv_aload_n hx hb dL_law_1001 rfl (lv_at hl 3 rfl) ?_
  have hS0 := hS
  have hFc := va_free (wc := [(h0, .inr (12, [.ref o0, .int 0, .ref g0, .ref o2, .ref o3, .ref o4, .ref o5, .int 0, .ref o6])), (g0, .inr (8, [.ref g1, .ref g2, .ref g3, .ref g4, .ref g5, .ref g6, .int 0, .int 0, .int 0, .int 0])), (u0, .inl (cL, 1, .inr (.inl (fun _ => 0))))]) hD hS hA [0, 1, 4] rfl
  refine va_calli (vx_runSW (As := [.ref h0, .int (xs 1), .ref u0]) (rest := []) ⟨hx, hb, hml, hown, hts⟩ (c_L_seeds l hl0 κ D (H).size (h0) (o0) (g0) (o2) (o3) (o4) (o5) (o6) (g1) (g2) (g3) (g4) (g5) (g6) ((xs 1)) (u0) (cL) ((fun _ => 0)) ) (vx_cwSW 3 hts gd_law_c_L_seeds rfl rfl rfl (by decide +kernel) ⟨(Nat.le_of_ble_eq_true rfl), (Nat.le_of_ble_eq_true rfl)⟩) (preS hE hK hP hD hS hA [0, 1, 4] rfl (by decide) [0] rfl) rfl rfl hl.1 rfl (lv_room (Nat.le_of_ble_eq_true rfl)) dL_law_1002 ⟨(Nat.le_of_ble_eq_true rfl), (Nat.le_of_ble_eq_true rfl)⟩) hS (fun q _ h => hFc q h) hFc (fun r_2 u t H1 locs ht hvm hw hB hz1 hk1 hS => ?_)
  try dsimp only at hw
  obtain ⟨hP, hD, hK⟩ := jn (wc := [(h0, .inr (12, [.ref o0, .int 0, .ref g0, .ref o2, .ref o3, .ref o4, .ref o5, .int 0, .ref o6])), (g0, .inr (8, [.ref g1, .ref g2, .ref g3, .ref g4, .ref g5, .ref g6, .int 0, .int 0, .int 0, .int 0])), (u0, .inl (cL, 1, .inr (.inl (fun _ => 0))))]) (wr := [(m0, .inr (16, [.int 0, .ref kl, .null, .ref tl])), (kl, .inr (6, [.int 0, .ref (κ 0), .int 0]))]) (w1 := []) (t1 := []) hP hD hK hS0 hA [0, 1, 4] [2, 3] rfl rfl (by decide) (by decide) ht hvm hk1 hB
  generalize H1 = H at hP hS ⊢
  have hP : va_P D vwCl ([(m0, .inr (16, [.int 0, .ref kl, .null, .ref tl])), (kl, .inr (6, [.int 0, .ref (κ 0), .int 0]))]) H := hP
  have hD : va_D (LA s) ([(m0, .inr (16, [.int 0, .ref kl, .null, .ref tl])), (kl, .inr (6, [.int 0, .ref (κ 0), .int 0]))]) := hD
  have hK : va_K D vwCl [(cL, .long)] s := hK
  refine W.widen (k := 301) (n := 40006) (Nat.le_of_ble_eq_true rfl) (Nat.le_of_ble_eq_true rfl) ?_
  subst hw
  refine lv_istore (lv' := [(6, .int 1), (0, .ref b), (1, .ref h0), (2, .ref m0), (3, .ref u0), (4, .ref w0), (5, .int 0)]) hx hb dL_law_1005 hl (by decide) rfl (fun ls hl => ?_)
  refine lv_aload_n hx hb dL_law_1007 rfl (lv_at hl 3 rfl) ?_
  refine lv_aload_n hx hb dL_law_1008 rfl (lv_at hl 1 rfl) ?_
  refine lv_iload hx hb dL_law_1009 (lv_at hl 6 rfl) ?_
  refine lv_iconst (v := 1) hx hb dL_law_1011 (by decide) ?_
  refine lv_iadd hx hb dL_law_1012 ?_
  refine lv_topi (fun v_3 ev_3 => ?_)
  have ev_3 : v_3 = 1 := ev_3.trans (by decide)
  subst ev_3
  refine va_sld hx hb hX hbl hbA hS (i := 1) (by unfold vp_in; decide) dL_law_1013 ?_
  refine W.eq (g2 := F0 m 1014 ls [.int (xs 1), .ref m0]) rfl ?_
  have hS0 := hS
  have hFc := va_free (wc := [(m0, .inr (16, [.int 0, .ref kl, .null, .ref tl]))]) hD hS hA [0] rfl
  refine va_calli (va_runV (As := [.int (xs 1)]) (rest := []) ⟨hx, hb, hml, hown, hts⟩ (c_X9_seeds l κ D (H).size (m0) (kl) (tl) ((xs 1)) ) (cwV 1 hts gd_law_c_X9_seeds rfl rfl rfl (by decide +kernel) ⟨(Nat.le_of_ble_eq_true rfl), (Nat.le_of_ble_eq_true rfl)⟩) (preV hE hK hP hD hS hA [0] rfl (by decide) [] rfl (va_recv hK hP (ci := 16) (q0 := 0) rfl rfl)) rfl rfl hl.1 rfl (lv_room (Nat.le_of_ble_eq_true rfl)) dL_law_1014 ⟨(Nat.le_of_ble_eq_true rfl), (Nat.le_of_ble_eq_true rfl)⟩) hS (fun q _ h => hFc q h) hFc (fun r_4 u t H1 locs ht hvm hw hB hz1 hk1 hS => ?_)
  try dsimp only at hw
  obtain ⟨hP, hD, hK⟩ := jn (wc := [(m0, .inr (16, [.int 0, .ref kl, .null, .ref tl]))]) (wr := [(kl, .inr (6, [.int 0, .ref (κ 0), .int 0]))]) (w1 := [(m0, .inr (16, [.int 1, .ref kl, .null, .ref tl]))]) (t1 := []) hP hD hK hS0 hA [0] [1] rfl rfl (by decide) (by decide) ht hvm hk1 hB
  generalize H1 = H at hP hS ⊢
  have hP : va_P D vwCl ([(kl, .inr (6, [.int 0, .ref (κ 0), .int 0])), (m0, .inr (16, [.int 1, .ref kl, .null, .ref tl]))]) H := hP
  have hD : va_D (LA s) ([(kl, .inr (6, [.int 0, .ref (κ 0), .int 0])), (m0, .inr (16, [.int 1, .ref kl, .null, .ref tl]))]) := hD
  have hK : va_K D vwCl [(cL, .long)] s := hK
  refine W.widen (k := 301) (n := 40006) (Nat.le_of_ble_eq_true rfl) (Nat.le_of_ble_eq_true rfl) ?_
  refine lv_istore (lv' := [(7, .int r_4), (6, .int 1), (0, .ref b), (1, .ref h0), (2, .ref m0), (3, .ref u0), (4, .ref w0), (5, .int 0)]) hx hb dL_law_1017 hl (by decide) rfl (fun ls hl => ?_)
  refine lv_aload_n hx hb dL_law_1019 rfl (lv_at hl 4 rfl) ?_
  have hS0 := hS
  have hFc := va_free (wc := [(m0, .inr (16, [.int 1, .ref kl, .null, .ref tl]))]) hD hS hA [1] rfl
  refine va_calli (va_runV (As := []) (rest := []) ⟨hx, hb, hml, hown, hts⟩ (c_X9_thrown l κ D (H).size (m0) (kl) (tl) (1) ) (cwV 0 hts gd_law_c_X9_thrown rfl rfl rfl (by decide +kernel) ⟨(Nat.le_of_ble_eq_true rfl), (Nat.le_of_ble_eq_true rfl)⟩) (preV hE hK hP hD hS hA [1] rfl (by decide) [] rfl (va_recv hK hP (ci := 16) (q0 := 1) rfl rfl)) rfl rfl hl.1 rfl (lv_room (Nat.le_of_ble_eq_true rfl)) dL_law_1020 ⟨(Nat.le_of_ble_eq_true rfl), (Nat.le_of_ble_eq_true rfl)⟩) hS (fun q _ h => hFc q h) hFc (fun r_5 u t H1 locs ht hvm hw hB hz1 hk1 hS => ?_)
  try dsimp only at hw
  obtain ⟨hP, hD, hK⟩ := jn (wc := [(m0, .inr (16, [.int 1, .ref kl, .null, .ref tl]))]) (wr := [(kl, .inr (6, [.int 0, .ref (κ 0), .int 0]))]) (w1 := [(m0, .inr (16, [.int 1, .ref kl, .null, .ref tl]))]) (t1 := []) hP hD hK hS0 hA [1] [0] rfl rfl (by decide) (by decide) ht hvm hk1 hB
  generalize H1 = H at hP hS ⊢
  have hP : va_P D vwCl ([(kl, .inr (6, [.int 0, .ref (κ 0), .int 0])), (m0, .inr (16, [.int 1, .ref kl, .null, .ref tl]))]) H := hP
  have hD : va_D (LA s) ([(kl, .inr (6, [.int 0, .ref (κ 0), .int 0])), (m0, .inr (16, [.int 1, .ref kl, .null, .ref tl]))]) := hD
  have hK : va_K D vwCl [(cL, .long)] s := hK
  refine W.widen (k := 301) (n := 40006) (Nat.le_of_ble_eq_true rfl) (Nat.le_of_ble_eq_true rfl) ?_
  subst hw
  refine lv_iload hx hb dL_law_1023 (lv_at hl 1 rfl) ?_
  refine lv_icmp_eq (tgt := 1030) hx hb dL_law_1025 (by decide) (fun _ => ?_) (fun c_1025 => absurd c_1025 (by decide))
  refine lv_iload hx hb dL_law_1030 (lv_at hl 1 rfl) ?_
  refine lv_if_ne (tgt := 1047) hx hb dL_law_1032 (by decide) (fun _ => ?_) (fun c_1032 => absurd c_1032 (by decide))
  refine lv_goto (tgt := 2351) hx hb dL_law_1047 (by decide) ?_
  refine W.widen (k := 400) (n := 41000) (Nat.le_of_ble_eq_true rfl) (Nat.le_of_ble_eq_true rfl) ?_
  exact law_end C1 H locs ls hS (lv_sub hl [7, 2] rfl)

set_option maxHeartbeats 8000000 in
set_option maxRecDepth 100000 in
theorem law_store {p : Program} {l : Launch} {e : Env} {s : State} {m : MethodId} {below : List Frame} {meth : Method} {c : Code} {b : Nat} {xs : Nat → Int32} {κ : Nat → Nat} (C0 : law_At2 p l s m meth c b xs κ) {D : va_G} {h0 : Nat} {o0 : Nat} {g0 : Nat} {o2 : Nat} {o3 : Nat} {o4 : Nat} {o5 : Nat} {o6 : Nat} {g1 : Nat} {g2 : Nat} {g3 : Nat} {g4 : Nat} {g5 : Nat} {g6 : Nat} {m0 : Nat} {kl : Nat} {tl : Nat} {u0 : Nat} {w0 : Nat} {cL : ClassId}  (H : Heap) (locs : List Loc) (ls : Array Slot) (hK : va_K D vwCl [(cL, .long)] s) (hP : va_P D vwCl [(h0, .inr (12, [.ref o0, .int 0, .ref g0, .ref o2, .ref o3, .ref o4, .ref o5, .int 0, .ref o6])), (g0, .inr (8, [.ref g1, .ref g2, .ref g3, .ref g4, .ref g5, .ref g6, .int 0, .int 0, .int 0, .int 0])), (m0, .inr (16, [.int 0, .ref kl, .null, .ref tl])), (kl, .inr (6, [.int 0, .ref (κ 0), .int 0])), (u0, .inl (cL, 1, .inr (.inl (fun _ => 0))))] H) (hD : va_D (LA s) [(h0, .inr (12, [.ref o0, .int 0, .ref g0, .ref o2, .ref o3, .ref o4, .ref o5, .int 0, .ref o6])), (g0, .inr (8, [.ref g1, .ref g2, .ref g3, .ref g4, .ref g5, .ref g6, .int 0, .int 0, .int 0, .int 0])), (m0, .inr (16, [.int 0, .ref kl, .null, .ref tl])), (kl, .inr (6, [.int 0, .ref (κ 0), .int 0])), (u0, .inl (cL, 1, .inr (.inl (fun _ => 0))))]) (hS : va_S (LA s) s.heap H locs) (hl : lv_has ls 9 [(0, .ref b), (1, .ref h0), (2, .ref m0), (3, .ref u0), (4, .ref w0), (5, .int 0)]) : W p l e room_1 s m #[Value.ref b] below meth c H locs 300 40000 (lw_Z below #[Value.ref b] s) (F0 m 1050 ls []) := by
  have C1 := C0
  obtain ⟨hl0, hx, hb, hr, hml, hown, hts, hX, hbl, hlocks, hE⟩ := C0
  have hA : ∀ q : Nat, s.heap.size ≤ q → LA s q := fun _ h => h
  have hbA : ¬ LA s b := Nat.not_le.mpr hbl
  refine lv_aload_n hx hb dL_law_1050 rfl (lv_at hl 1 rfl) ?_
  refine lv_aload_n hx hb dL_law_1051 rfl (lv_at hl 0 rfl) ?_
  refine lv_iload hx hb dL_law_1052 (lv_at hl 5 rfl) ?_
  refine lv_iconst (v := 1) hx hb dL_law_1054 (by decide) ?_
  refine lv_iadd hx hb dL_law_1055 ?_
  refine lv_topi (fun v_1 ev_1 => ?_)
  have ev_1 : v_1 = 1 := ev_1.trans (by decide)
  subst ev_1
  refine va_sld hx hb hX hbl hbA hS (i := 1) (by unfold vp_in; decide) dL_law_1056 ?_
  refine W.eq (g2 := F0 m 1057 ls [.int (xs 1), .ref h0]) rfl ?_
  refine lv_aload_n hx hb dL_law_1057 rfl (lv_at hl 3 rfl) ?_
  have hS0 := hS
  have hFc := va_free (wc := [(h0, .inr (12, [.ref o0, .int 0, .ref g0, .ref o2, .ref o3, .ref o4, .ref o5, .int 0, .ref o6])), (g0, .inr (8, [.ref g1, .ref g2, .ref g3, .ref g4, .ref g5, .ref g6, .int 0, .int 0, .int 0, .int 0])), (u0, .inl (cL, 1, .inr (.inl (fun _ => 0))))]) hD hS hA [0, 1, 4] rfl
  refine va_calli (vx_runSW (As := [.ref h0, .int (xs 1), .ref u0]) (rest := []) ⟨hx, hb, hml, hown, hts⟩ (c_L_store l hl0 κ D (H).size (h0) (o0) (g0) (o2) (o3) (o4) (o5) (o6) (g1) (g2) (g3) (g4) (g5) (g6) ((xs 1)) (u0) (cL) ((fun _ => 0)) ) (vx_cwSW 3 hts gd_law_c_L_store rfl rfl rfl (by decide +kernel) ⟨(Nat.le_of_ble_eq_true rfl), (Nat.le_of_ble_eq_true rfl)⟩) (preS hE hK hP hD hS hA [0, 1, 4] rfl (by decide) [0] rfl) rfl rfl hl.1 rfl (lv_room (Nat.le_of_ble_eq_true rfl)) dL_law_1058 ⟨(Nat.le_of_ble_eq_true rfl), (Nat.le_of_ble_eq_true rfl)⟩) hS (fun q _ h => hFc q h) hFc (fun r_2 u t H1 locs ht hvm hw hB hz1 hk1 hS => ?_)
  try dsimp only at hw
  obtain ⟨hP, hD, hK⟩ := jn (wc := [(h0, .inr (12, [.ref o0, .int 0, .ref g0, .ref o2, .ref o3, .ref o4, .ref o5, .int 0, .ref o6])), (g0, .inr (8, [.ref g1, .ref g2, .ref g3, .ref g4, .ref g5, .ref g6, .int 0, .int 0, .int 0, .int 0])), (u0, .inl (cL, 1, .inr (.inl (fun _ => 0))))]) (wr := [(m0, .inr (16, [.int 0, .ref kl, .null, .ref tl])), (kl, .inr (6, [.int 0, .ref (κ 0), .int 0]))]) (w1 := []) (t1 := []) hP hD hK hS0 hA [0, 1, 4] [2, 3] rfl rfl (by decide) (by decide) ht hvm hk1 hB
  generalize H1 = H at hP hS ⊢
  have hP : va_P D vwCl ([(m0, .inr (16, [.int 0, .ref kl, .null, .ref tl])), (kl, .inr (6, [.int 0, .ref (κ 0), .int 0]))]) H := hP
  have hD : va_D (LA s) ([(m0, .inr (16, [.int 0, .ref kl, .null, .ref tl])), (kl, .inr (6, [.int 0, .ref (κ 0), .int 0]))]) := hD
  have hK : va_K D vwCl [(cL, .long)] s := hK
  refine W.widen (k := 301) (n := 40006) (Nat.le_of_ble_eq_true rfl) (Nat.le_of_ble_eq_true rfl) ?_
  subst hw
  refine lv_istore (lv' := [(6, .int 1), (0, .ref b), (1, .ref h0), (2, .ref m0), (3, .ref u0), (4, .ref w0), (5, .int 0)]) hx hb dL_law_1061 hl (by decide) rfl (fun ls hl => ?_)
  refine lv_aload_n hx hb dL_law_1063 rfl (lv_at hl 3 rfl) ?_
  refine lv_aload_n hx hb dL_law_1064 rfl (lv_at hl 1 rfl) ?_
  refine lv_iload hx hb dL_law_1065 (lv_at hl 6 rfl) ?_
  refine lv_iconst (v := 1) hx hb dL_law_1067 (by decide) ?_
  refine lv_iadd hx hb dL_law_1068 ?_
  refine lv_topi (fun v_3 ev_3 => ?_)
  have ev_3 : v_3 = 1 := ev_3.trans (by decide)
  subst ev_3
  refine va_sld hx hb hX hbl hbA hS (i := 1) (by unfold vp_in; decide) dL_law_1069 ?_
  refine W.eq (g2 := F0 m 1070 ls [.int (xs 1), .ref m0]) rfl ?_
  have hS0 := hS
  have hFc := va_free (wc := [(m0, .inr (16, [.int 0, .ref kl, .null, .ref tl]))]) hD hS hA [0] rfl
  refine va_calli (va_runV (As := [.int (xs 1)]) (rest := []) ⟨hx, hb, hml, hown, hts⟩ (c_X9_store l κ D (H).size (m0) (kl) (tl) ((xs 1)) ) (cwV 1 hts gd_law_c_X9_store rfl rfl rfl (by decide +kernel) ⟨(Nat.le_of_ble_eq_true rfl), (Nat.le_of_ble_eq_true rfl)⟩) (preV hE hK hP hD hS hA [0] rfl (by decide) [] rfl (va_recv hK hP (ci := 16) (q0 := 0) rfl rfl)) rfl rfl hl.1 rfl (lv_room (Nat.le_of_ble_eq_true rfl)) dL_law_1070 ⟨(Nat.le_of_ble_eq_true rfl), (Nat.le_of_ble_eq_true rfl)⟩) hS (fun q _ h => hFc q h) hFc (fun r_4 u t H1 locs ht hvm hw hB hz1 hk1 hS => ?_)
  try dsimp only at hw
  obtain ⟨hP, hD, hK⟩ := jn (wc := [(m0, .inr (16, [.int 0, .ref kl, .null, .ref tl]))]) (wr := [(kl, .inr (6, [.int 0, .ref (κ 0), .int 0]))]) (w1 := [(m0, .inr (16, [.int 1, .ref kl, .null, .ref tl]))]) (t1 := []) hP hD hK hS0 hA [0] [1] rfl rfl (by decide) (by decide) ht hvm hk1 hB
  generalize H1 = H at hP hS ⊢
  have hP : va_P D vwCl ([(kl, .inr (6, [.int 0, .ref (κ 0), .int 0])), (m0, .inr (16, [.int 1, .ref kl, .null, .ref tl]))]) H := hP
  have hD : va_D (LA s) ([(kl, .inr (6, [.int 0, .ref (κ 0), .int 0])), (m0, .inr (16, [.int 1, .ref kl, .null, .ref tl]))]) := hD
  have hK : va_K D vwCl [(cL, .long)] s := hK
  refine W.widen (k := 301) (n := 40006) (Nat.le_of_ble_eq_true rfl) (Nat.le_of_ble_eq_true rfl) ?_
  refine lv_istore (lv' := [(7, .int r_4), (6, .int 1), (0, .ref b), (1, .ref h0), (2, .ref m0), (3, .ref u0), (4, .ref w0), (5, .int 0)]) hx hb dL_law_1073 hl (by decide) rfl (fun ls hl => ?_)
  refine lv_aload_n hx hb dL_law_1075 rfl (lv_at hl 4 rfl) ?_
  have hS0 := hS
  have hFc := va_free (wc := [(m0, .inr (16, [.int 1, .ref kl, .null, .ref tl]))]) hD hS hA [1] rfl
  refine va_calli (va_runV (As := []) (rest := []) ⟨hx, hb, hml, hown, hts⟩ (c_X9_thrown l κ D (H).size (m0) (kl) (tl) (1) ) (cwV 0 hts gd_law_c_X9_thrown rfl rfl rfl (by decide +kernel) ⟨(Nat.le_of_ble_eq_true rfl), (Nat.le_of_ble_eq_true rfl)⟩) (preV hE hK hP hD hS hA [1] rfl (by decide) [] rfl (va_recv hK hP (ci := 16) (q0 := 1) rfl rfl)) rfl rfl hl.1 rfl (lv_room (Nat.le_of_ble_eq_true rfl)) dL_law_1076 ⟨(Nat.le_of_ble_eq_true rfl), (Nat.le_of_ble_eq_true rfl)⟩) hS (fun q _ h => hFc q h) hFc (fun r_5 u t H1 locs ht hvm hw hB hz1 hk1 hS => ?_)
  try dsimp only at hw
  obtain ⟨hP, hD, hK⟩ := jn (wc := [(m0, .inr (16, [.int 1, .ref kl, .null, .ref tl]))]) (wr := [(kl, .inr (6, [.int 0, .ref (κ 0), .int 0]))]) (w1 := [(m0, .inr (16, [.int 1, .ref kl, .null, .ref tl]))]) (t1 := []) hP hD hK hS0 hA [1] [0] rfl rfl (by decide) (by decide) ht hvm hk1 hB
  generalize H1 = H at hP hS ⊢
  have hP : va_P D vwCl ([(kl, .inr (6, [.int 0, .ref (κ 0), .int 0])), (m0, .inr (16, [.int 1, .ref kl, .null, .ref tl]))]) H := hP
  have hD : va_D (LA s) ([(kl, .inr (6, [.int 0, .ref (κ 0), .int 0])), (m0, .inr (16, [.int 1, .ref kl, .null, .ref tl]))]) := hD
  have hK : va_K D vwCl [(cL, .long)] s := hK
  refine W.widen (k := 301) (n := 40006) (Nat.le_of_ble_eq_true rfl) (Nat.le_of_ble_eq_true rfl) ?_
  subst hw
  refine lv_iload hx hb dL_law_1079 (lv_at hl 1 rfl) ?_
  refine lv_icmp_eq (tgt := 1086) hx hb dL_law_1081 (by decide) (fun _ => ?_) (fun c_1081 => absurd c_1081 (by decide))
  refine lv_iload hx hb dL_law_1086 (lv_at hl 1 rfl) ?_
  refine lv_if_ne (tgt := 1103) hx hb dL_law_1088 (by decide) (fun _ => ?_) (fun c_1088 => absurd c_1088 (by decide))
  refine lv_goto (tgt := 2351) hx hb dL_law_1103 (by decide) ?_
  refine W.widen (k := 400) (n := 41000) (Nat.le_of_ble_eq_true rfl) (Nat.le_of_ble_eq_true rfl) ?_
  exact law_end C1 H locs ls hS (lv_sub hl [7, 2] rfl)

set_option maxHeartbeats 8000000 in
set_option maxRecDepth 100000 in
theorem law_turn {p : Program} {l : Launch} {e : Env} {s : State} {m : MethodId} {below : List Frame} {meth : Method} {c : Code} {b : Nat} {xs : Nat → Int32} {κ : Nat → Nat} (C0 : law_At2 p l s m meth c b xs κ) {D : va_G} {h0 : Nat} {o0 : Nat} {g0 : Nat} {o2 : Nat} {o3 : Nat} {o4 : Nat} {o5 : Nat} {o6 : Nat} {g1 : Nat} {g2 : Nat} {g3 : Nat} {g4 : Nat} {g5 : Nat} {g6 : Nat} {m0 : Nat} {kl : Nat} {tl : Nat} {u0 : Nat} {w0 : Nat} {cL : ClassId}  (H : Heap) (locs : List Loc) (ls : Array Slot) (hK : va_K D vwCl [(cL, .long)] s) (hP : va_P D vwCl [(h0, .inr (12, [.ref o0, .int 0, .ref g0, .ref o2, .ref o3, .ref o4, .ref o5, .int 0, .ref o6])), (g0, .inr (8, [.ref g1, .ref g2, .ref g3, .ref g4, .ref g5, .ref g6, .int 0, .int 0, .int 0, .int 0])), (m0, .inr (16, [.int 0, .ref kl, .null, .ref tl])), (kl, .inr (6, [.int 0, .ref (κ 0), .int 0])), (u0, .inl (cL, 1, .inr (.inl (fun _ => 0))))] H) (hD : va_D (LA s) [(h0, .inr (12, [.ref o0, .int 0, .ref g0, .ref o2, .ref o3, .ref o4, .ref o5, .int 0, .ref o6])), (g0, .inr (8, [.ref g1, .ref g2, .ref g3, .ref g4, .ref g5, .ref g6, .int 0, .int 0, .int 0, .int 0])), (m0, .inr (16, [.int 0, .ref kl, .null, .ref tl])), (kl, .inr (6, [.int 0, .ref (κ 0), .int 0])), (u0, .inl (cL, 1, .inr (.inl (fun _ => 0))))]) (hS : va_S (LA s) s.heap H locs) (hl : lv_has ls 9 [(0, .ref b), (1, .ref h0), (2, .ref m0), (3, .ref u0), (4, .ref w0), (5, .int 0)]) : W p l e room_1 s m #[Value.ref b] below meth c H locs 300 40000 (lw_Z below #[Value.ref b] s) (F0 m 1106 ls []) := by
  have C1 := C0
  obtain ⟨hl0, hx, hb, hr, hml, hown, hts, hX, hbl, hlocks, hE⟩ := C0
  have hA : ∀ q : Nat, s.heap.size ≤ q → LA s q := fun _ h => h
  have hbA : ¬ LA s b := Nat.not_le.mpr hbl
  refine lv_aload_n hx hb dL_law_1106 rfl (lv_at hl 1 rfl) ?_
  refine lv_aload_n hx hb dL_law_1107 rfl (lv_at hl 3 rfl) ?_
  have hS0 := hS
  have hFc := va_free (wc := [(h0, .inr (12, [.ref o0, .int 0, .ref g0, .ref o2, .ref o3, .ref o4, .ref o5, .int 0, .ref o6])), (g0, .inr (8, [.ref g1, .ref g2, .ref g3, .ref g4, .ref g5, .ref g6, .int 0, .int 0, .int 0, .int 0])), (u0, .inl (cL, 1, .inr (.inl (fun _ => 0))))]) hD hS hA [0, 1, 4] rfl
  refine va_calli (vx_runSW (As := [.ref h0, .ref u0]) (rest := []) ⟨hx, hb, hml, hown, hts⟩ (c_L_turn l hl0 κ D (H).size (h0) (o0) (g0) (o2) (o3) (o4) (o5) (o6) (g1) (g2) (g3) (g4) (g5) (g6) (u0) (cL) ((fun _ => 0)) ) (vx_cwSW 2 hts gd_law_c_L_turn rfl rfl rfl (by decide +kernel) ⟨(Nat.le_of_ble_eq_true rfl), (Nat.le_of_ble_eq_true rfl)⟩) (preS hE hK hP hD hS hA [0, 1, 4] rfl (by decide) [0] rfl) rfl rfl hl.1 rfl (lv_room (Nat.le_of_ble_eq_true rfl)) dL_law_1108 ⟨(Nat.le_of_ble_eq_true rfl), (Nat.le_of_ble_eq_true rfl)⟩) hS (fun q _ h => hFc q h) hFc (fun r_1 u t H1 locs ht hvm hw hB hz1 hk1 hS => ?_)
  try dsimp only at hw
  obtain ⟨hP, hD, hK⟩ := jn (wc := [(h0, .inr (12, [.ref o0, .int 0, .ref g0, .ref o2, .ref o3, .ref o4, .ref o5, .int 0, .ref o6])), (g0, .inr (8, [.ref g1, .ref g2, .ref g3, .ref g4, .ref g5, .ref g6, .int 0, .int 0, .int 0, .int 0])), (u0, .inl (cL, 1, .inr (.inl (fun _ => 0))))]) (wr := [(m0, .inr (16, [.int 0, .ref kl, .null, .ref tl])), (kl, .inr (6, [.int 0, .ref (κ 0), .int 0]))]) (w1 := []) (t1 := []) hP hD hK hS0 hA [0, 1, 4] [2, 3] rfl rfl (by decide) (by decide) ht hvm hk1 hB
  generalize H1 = H at hP hS ⊢
  have hP : va_P D vwCl ([(m0, .inr (16, [.int 0, .ref kl, .null, .ref tl])), (kl, .inr (6, [.int 0, .ref (κ 0), .int 0]))]) H := hP
  have hD : va_D (LA s) ([(m0, .inr (16, [.int 0, .ref kl, .null, .ref tl])), (kl, .inr (6, [.int 0, .ref (κ 0), .int 0]))]) := hD
  have hK : va_K D vwCl [(cL, .long)] s := hK
  refine W.widen (k := 301) (n := 40006) (Nat.le_of_ble_eq_true rfl) (Nat.le_of_ble_eq_true rfl) ?_
  subst hw
  refine lv_istore (lv' := [(6, .int 1), (0, .ref b), (1, .ref h0), (2, .ref m0), (3, .ref u0), (4, .ref w0), (5, .int 0)]) hx hb dL_law_1111 hl (by decide) rfl (fun ls hl => ?_)
  refine lv_aload_n hx hb dL_law_1113 rfl (lv_at hl 3 rfl) ?_
  have hS0 := hS
  have hFc := va_free (wc := [(m0, .inr (16, [.int 0, .ref kl, .null, .ref tl]))]) hD hS hA [0] rfl
  refine va_calli (va_runV (As := []) (rest := []) ⟨hx, hb, hml, hown, hts⟩ (c_X9_turn l κ D (H).size (m0) (kl) (tl) ) (cwV 0 hts gd_law_c_X9_turn rfl rfl rfl (by decide +kernel) ⟨(Nat.le_of_ble_eq_true rfl), (Nat.le_of_ble_eq_true rfl)⟩) (preV hE hK hP hD hS hA [0] rfl (by decide) [] rfl (va_recv hK hP (ci := 16) (q0 := 0) rfl rfl)) rfl rfl hl.1 rfl (lv_room (Nat.le_of_ble_eq_true rfl)) dL_law_1114 ⟨(Nat.le_of_ble_eq_true rfl), (Nat.le_of_ble_eq_true rfl)⟩) hS (fun q _ h => hFc q h) hFc (fun r_2 u t H1 locs ht hvm hw hB hz1 hk1 hS => ?_)
  try dsimp only at hw
  obtain ⟨hP, hD, hK⟩ := jn (wc := [(m0, .inr (16, [.int 0, .ref kl, .null, .ref tl]))]) (wr := [(kl, .inr (6, [.int 0, .ref (κ 0), .int 0]))]) (w1 := [(m0, .inr (16, [.int 1, .ref kl, .null, .ref tl]))]) (t1 := []) hP hD hK hS0 hA [0] [1] rfl rfl (by decide) (by decide) ht hvm hk1 hB
  generalize H1 = H at hP hS ⊢
  have hP : va_P D vwCl ([(kl, .inr (6, [.int 0, .ref (κ 0), .int 0])), (m0, .inr (16, [.int 1, .ref kl, .null, .ref tl]))]) H := hP
  have hD : va_D (LA s) ([(kl, .inr (6, [.int 0, .ref (κ 0), .int 0])), (m0, .inr (16, [.int 1, .ref kl, .null, .ref tl]))]) := hD
  have hK : va_K D vwCl [(cL, .long)] s := hK
  refine W.widen (k := 301) (n := 40006) (Nat.le_of_ble_eq_true rfl) (Nat.le_of_ble_eq_true rfl) ?_
  refine lv_istore (lv' := [(7, .int r_2), (6, .int 1), (0, .ref b), (1, .ref h0), (2, .ref m0), (3, .ref u0), (4, .ref w0), (5, .int 0)]) hx hb dL_law_1117 hl (by decide) rfl (fun ls hl => ?_)
  refine lv_aload_n hx hb dL_law_1119 rfl (lv_at hl 4 rfl) ?_
  have hS0 := hS
  have hFc := va_free (wc := [(m0, .inr (16, [.int 1, .ref kl, .null, .ref tl]))]) hD hS hA [1] rfl
  refine va_calli (va_runV (As := []) (rest := []) ⟨hx, hb, hml, hown, hts⟩ (c_X9_thrown l κ D (H).size (m0) (kl) (tl) (1) ) (cwV 0 hts gd_law_c_X9_thrown rfl rfl rfl (by decide +kernel) ⟨(Nat.le_of_ble_eq_true rfl), (Nat.le_of_ble_eq_true rfl)⟩) (preV hE hK hP hD hS hA [1] rfl (by decide) [] rfl (va_recv hK hP (ci := 16) (q0 := 1) rfl rfl)) rfl rfl hl.1 rfl (lv_room (Nat.le_of_ble_eq_true rfl)) dL_law_1120 ⟨(Nat.le_of_ble_eq_true rfl), (Nat.le_of_ble_eq_true rfl)⟩) hS (fun q _ h => hFc q h) hFc (fun r_3 u t H1 locs ht hvm hw hB hz1 hk1 hS => ?_)
  try dsimp only at hw
  obtain ⟨hP, hD, hK⟩ := jn (wc := [(m0, .inr (16, [.int 1, .ref kl, .null, .ref tl]))]) (wr := [(kl, .inr (6, [.int 0, .ref (κ 0), .int 0]))]) (w1 := [(m0, .inr (16, [.int 1, .ref kl, .null, .ref tl]))]) (t1 := []) hP hD hK hS0 hA [1] [0] rfl rfl (by decide) (by decide) ht hvm hk1 hB
  generalize H1 = H at hP hS ⊢
  have hP : va_P D vwCl ([(kl, .inr (6, [.int 0, .ref (κ 0), .int 0])), (m0, .inr (16, [.int 1, .ref kl, .null, .ref tl]))]) H := hP
  have hD : va_D (LA s) ([(kl, .inr (6, [.int 0, .ref (κ 0), .int 0])), (m0, .inr (16, [.int 1, .ref kl, .null, .ref tl]))]) := hD
  have hK : va_K D vwCl [(cL, .long)] s := hK
  refine W.widen (k := 301) (n := 40006) (Nat.le_of_ble_eq_true rfl) (Nat.le_of_ble_eq_true rfl) ?_
  subst hw
  refine lv_iload hx hb dL_law_1123 (lv_at hl 1 rfl) ?_
  refine lv_icmp_eq (tgt := 1130) hx hb dL_law_1125 (by decide) (fun _ => ?_) (fun c_1125 => absurd c_1125 (by decide))
  refine lv_iload hx hb dL_law_1130 (lv_at hl 1 rfl) ?_
  refine lv_if_ne (tgt := 1147) hx hb dL_law_1132 (by decide) (fun _ => ?_) (fun c_1132 => absurd c_1132 (by decide))
  refine lv_goto (tgt := 2351) hx hb dL_law_1147 (by decide) ?_
  refine W.widen (k := 400) (n := 41000) (Nat.le_of_ble_eq_true rfl) (Nat.le_of_ble_eq_true rfl) ?_
  exact law_end C1 H locs ls hS (lv_sub hl [7, 2] rfl)

set_option maxHeartbeats 8000000 in
set_option maxRecDepth 100000 in
theorem law_isOver {p : Program} {l : Launch} {e : Env} {s : State} {m : MethodId} {below : List Frame} {meth : Method} {c : Code} {b : Nat} {xs : Nat → Int32} {κ : Nat → Nat} (C0 : law_At2 p l s m meth c b xs κ) {D : va_G} {h0 : Nat} {o0 : Nat} {g0 : Nat} {o2 : Nat} {o3 : Nat} {o4 : Nat} {o5 : Nat} {o6 : Nat} {g1 : Nat} {g2 : Nat} {g3 : Nat} {g4 : Nat} {g5 : Nat} {g6 : Nat} {m0 : Nat} {kl : Nat} {tl : Nat} {u0 : Nat} {w0 : Nat} {cL : ClassId}  (H : Heap) (locs : List Loc) (ls : Array Slot) (hK : va_K D vwCl [(cL, .long)] s) (hP : va_P D vwCl [(h0, .inr (12, [.ref o0, .int 0, .ref g0, .ref o2, .ref o3, .ref o4, .ref o5, .int 0, .ref o6])), (g0, .inr (8, [.ref g1, .ref g2, .ref g3, .ref g4, .ref g5, .ref g6, .int 0, .int 0, .int 0, .int 0])), (m0, .inr (16, [.int 0, .ref kl, .null, .ref tl])), (kl, .inr (6, [.int 0, .ref (κ 0), .int 0])), (u0, .inl (cL, 1, .inr (.inl (fun _ => 0))))] H) (hD : va_D (LA s) [(h0, .inr (12, [.ref o0, .int 0, .ref g0, .ref o2, .ref o3, .ref o4, .ref o5, .int 0, .ref o6])), (g0, .inr (8, [.ref g1, .ref g2, .ref g3, .ref g4, .ref g5, .ref g6, .int 0, .int 0, .int 0, .int 0])), (m0, .inr (16, [.int 0, .ref kl, .null, .ref tl])), (kl, .inr (6, [.int 0, .ref (κ 0), .int 0])), (u0, .inl (cL, 1, .inr (.inl (fun _ => 0))))]) (hS : va_S (LA s) s.heap H locs) (hl : lv_has ls 9 [(0, .ref b), (1, .ref h0), (2, .ref m0), (3, .ref u0), (4, .ref w0), (5, .int 0)]) : W p l e room_1 s m #[Value.ref b] below meth c H locs 300 40000 (lw_Z below #[Value.ref b] s) (F0 m 1150 ls []) := by
  have C1 := C0
  obtain ⟨hl0, hx, hb, hr, hml, hown, hts, hX, hbl, hlocks, hE⟩ := C0
  have hA : ∀ q : Nat, s.heap.size ≤ q → LA s q := fun _ h => h
  have hbA : ¬ LA s b := Nat.not_le.mpr hbl
  refine lv_aload_n hx hb dL_law_1150 rfl (lv_at hl 1 rfl) ?_
  refine lv_aload_n hx hb dL_law_1151 rfl (lv_at hl 3 rfl) ?_
  have hS0 := hS
  have hFc := va_free (wc := [(h0, .inr (12, [.ref o0, .int 0, .ref g0, .ref o2, .ref o3, .ref o4, .ref o5, .int 0, .ref o6])), (g0, .inr (8, [.ref g1, .ref g2, .ref g3, .ref g4, .ref g5, .ref g6, .int 0, .int 0, .int 0, .int 0])), (u0, .inl (cL, 1, .inr (.inl (fun _ => 0))))]) hD hS hA [0, 1, 4] rfl
  refine va_calli (vx_runSW (As := [.ref h0, .ref u0]) (rest := []) ⟨hx, hb, hml, hown, hts⟩ (c_L_isOver l hl0 κ D (H).size (h0) (o0) (g0) (o2) (o3) (o4) (o5) (o6) (g1) (g2) (g3) (g4) (g5) (g6) (u0) (cL) ((fun _ => 0)) ) (vx_cwSW 2 hts gd_law_c_L_isOver rfl rfl rfl (by decide +kernel) ⟨(Nat.le_of_ble_eq_true rfl), (Nat.le_of_ble_eq_true rfl)⟩) (preS hE hK hP hD hS hA [0, 1, 4] rfl (by decide) [0] rfl) rfl rfl hl.1 rfl (lv_room (Nat.le_of_ble_eq_true rfl)) dL_law_1152 ⟨(Nat.le_of_ble_eq_true rfl), (Nat.le_of_ble_eq_true rfl)⟩) hS (fun q _ h => hFc q h) hFc (fun r_1 u t H1 locs ht hvm hw hB hz1 hk1 hS => ?_)
  try dsimp only at hw
  obtain ⟨hP, hD, hK⟩ := jn (wc := [(h0, .inr (12, [.ref o0, .int 0, .ref g0, .ref o2, .ref o3, .ref o4, .ref o5, .int 0, .ref o6])), (g0, .inr (8, [.ref g1, .ref g2, .ref g3, .ref g4, .ref g5, .ref g6, .int 0, .int 0, .int 0, .int 0])), (u0, .inl (cL, 1, .inr (.inl (fun _ => 0))))]) (wr := [(m0, .inr (16, [.int 0, .ref kl, .null, .ref tl])), (kl, .inr (6, [.int 0, .ref (κ 0), .int 0]))]) (w1 := []) (t1 := []) hP hD hK hS0 hA [0, 1, 4] [2, 3] rfl rfl (by decide) (by decide) ht hvm hk1 hB
  generalize H1 = H at hP hS ⊢
  have hP : va_P D vwCl ([(m0, .inr (16, [.int 0, .ref kl, .null, .ref tl])), (kl, .inr (6, [.int 0, .ref (κ 0), .int 0]))]) H := hP
  have hD : va_D (LA s) ([(m0, .inr (16, [.int 0, .ref kl, .null, .ref tl])), (kl, .inr (6, [.int 0, .ref (κ 0), .int 0]))]) := hD
  have hK : va_K D vwCl [(cL, .long)] s := hK
  refine W.widen (k := 301) (n := 40006) (Nat.le_of_ble_eq_true rfl) (Nat.le_of_ble_eq_true rfl) ?_
  subst hw
  refine lv_istore (lv' := [(6, .int 1), (0, .ref b), (1, .ref h0), (2, .ref m0), (3, .ref u0), (4, .ref w0), (5, .int 0)]) hx hb dL_law_1155 hl (by decide) rfl (fun ls hl => ?_)
  refine lv_aload_n hx hb dL_law_1157 rfl (lv_at hl 3 rfl) ?_
  have hS0 := hS
  have hFc := va_free (wc := [(m0, .inr (16, [.int 0, .ref kl, .null, .ref tl]))]) hD hS hA [0] rfl
  refine va_calli (va_runV (As := []) (rest := []) ⟨hx, hb, hml, hown, hts⟩ (c_X9_isOver l κ D (H).size (m0) (kl) (tl) ) (cwV 0 hts gd_law_c_X9_isOver rfl rfl rfl (by decide +kernel) ⟨(Nat.le_of_ble_eq_true rfl), (Nat.le_of_ble_eq_true rfl)⟩) (preV hE hK hP hD hS hA [0] rfl (by decide) [] rfl (va_recv hK hP (ci := 16) (q0 := 0) rfl rfl)) rfl rfl hl.1 rfl (lv_room (Nat.le_of_ble_eq_true rfl)) dL_law_1158 ⟨(Nat.le_of_ble_eq_true rfl), (Nat.le_of_ble_eq_true rfl)⟩) hS (fun q _ h => hFc q h) hFc (fun r_2 u t H1 locs ht hvm hw hB hz1 hk1 hS => ?_)
  try dsimp only at hw
  obtain ⟨hP, hD, hK⟩ := jn (wc := [(m0, .inr (16, [.int 0, .ref kl, .null, .ref tl]))]) (wr := [(kl, .inr (6, [.int 0, .ref (κ 0), .int 0]))]) (w1 := [(m0, .inr (16, [.int 1, .ref kl, .null, .ref tl]))]) (t1 := []) hP hD hK hS0 hA [0] [1] rfl rfl (by decide) (by decide) ht hvm hk1 hB
  generalize H1 = H at hP hS ⊢
  have hP : va_P D vwCl ([(kl, .inr (6, [.int 0, .ref (κ 0), .int 0])), (m0, .inr (16, [.int 1, .ref kl, .null, .ref tl]))]) H := hP
  have hD : va_D (LA s) ([(kl, .inr (6, [.int 0, .ref (κ 0), .int 0])), (m0, .inr (16, [.int 1, .ref kl, .null, .ref tl]))]) := hD
  have hK : va_K D vwCl [(cL, .long)] s := hK
  refine W.widen (k := 301) (n := 40006) (Nat.le_of_ble_eq_true rfl) (Nat.le_of_ble_eq_true rfl) ?_
  refine lv_istore (lv' := [(7, .int r_2), (6, .int 1), (0, .ref b), (1, .ref h0), (2, .ref m0), (3, .ref u0), (4, .ref w0), (5, .int 0)]) hx hb dL_law_1161 hl (by decide) rfl (fun ls hl => ?_)
  refine lv_aload_n hx hb dL_law_1163 rfl (lv_at hl 4 rfl) ?_
  have hS0 := hS
  have hFc := va_free (wc := [(m0, .inr (16, [.int 1, .ref kl, .null, .ref tl]))]) hD hS hA [1] rfl
  refine va_calli (va_runV (As := []) (rest := []) ⟨hx, hb, hml, hown, hts⟩ (c_X9_thrown l κ D (H).size (m0) (kl) (tl) (1) ) (cwV 0 hts gd_law_c_X9_thrown rfl rfl rfl (by decide +kernel) ⟨(Nat.le_of_ble_eq_true rfl), (Nat.le_of_ble_eq_true rfl)⟩) (preV hE hK hP hD hS hA [1] rfl (by decide) [] rfl (va_recv hK hP (ci := 16) (q0 := 1) rfl rfl)) rfl rfl hl.1 rfl (lv_room (Nat.le_of_ble_eq_true rfl)) dL_law_1164 ⟨(Nat.le_of_ble_eq_true rfl), (Nat.le_of_ble_eq_true rfl)⟩) hS (fun q _ h => hFc q h) hFc (fun r_3 u t H1 locs ht hvm hw hB hz1 hk1 hS => ?_)
  try dsimp only at hw
  obtain ⟨hP, hD, hK⟩ := jn (wc := [(m0, .inr (16, [.int 1, .ref kl, .null, .ref tl]))]) (wr := [(kl, .inr (6, [.int 0, .ref (κ 0), .int 0]))]) (w1 := [(m0, .inr (16, [.int 1, .ref kl, .null, .ref tl]))]) (t1 := []) hP hD hK hS0 hA [1] [0] rfl rfl (by decide) (by decide) ht hvm hk1 hB
  generalize H1 = H at hP hS ⊢
  have hP : va_P D vwCl ([(kl, .inr (6, [.int 0, .ref (κ 0), .int 0])), (m0, .inr (16, [.int 1, .ref kl, .null, .ref tl]))]) H := hP
  have hD : va_D (LA s) ([(kl, .inr (6, [.int 0, .ref (κ 0), .int 0])), (m0, .inr (16, [.int 1, .ref kl, .null, .ref tl]))]) := hD
  have hK : va_K D vwCl [(cL, .long)] s := hK
  refine W.widen (k := 301) (n := 40006) (Nat.le_of_ble_eq_true rfl) (Nat.le_of_ble_eq_true rfl) ?_
  subst hw
  refine lv_iload hx hb dL_law_1167 (lv_at hl 1 rfl) ?_
  refine lv_icmp_eq (tgt := 1174) hx hb dL_law_1169 (by decide) (fun _ => ?_) (fun c_1169 => absurd c_1169 (by decide))
  refine lv_iload hx hb dL_law_1174 (lv_at hl 1 rfl) ?_
  refine lv_if_ne (tgt := 1198) hx hb dL_law_1176 (by decide) (fun _ => ?_) (fun c_1176 => absurd c_1176 (by decide))
  refine lv_goto (tgt := 2351) hx hb dL_law_1198 (by decide) ?_
  refine W.widen (k := 400) (n := 41000) (Nat.le_of_ble_eq_true rfl) (Nat.le_of_ble_eq_true rfl) ?_
  exact law_end C1 H locs ls hS (lv_sub hl [7, 2] rfl)

set_option maxHeartbeats 8000000 in
set_option maxRecDepth 100000 in
theorem law_winner {p : Program} {l : Launch} {e : Env} {s : State} {m : MethodId} {below : List Frame} {meth : Method} {c : Code} {b : Nat} {xs : Nat → Int32} {κ : Nat → Nat} (C0 : law_At2 p l s m meth c b xs κ) {D : va_G} {h0 : Nat} {o0 : Nat} {g0 : Nat} {o2 : Nat} {o3 : Nat} {o4 : Nat} {o5 : Nat} {o6 : Nat} {g1 : Nat} {g2 : Nat} {g3 : Nat} {g4 : Nat} {g5 : Nat} {g6 : Nat} {m0 : Nat} {kl : Nat} {tl : Nat} {u0 : Nat} {w0 : Nat} {cL : ClassId}  (H : Heap) (locs : List Loc) (ls : Array Slot) (hK : va_K D vwCl [(cL, .long)] s) (hP : va_P D vwCl [(h0, .inr (12, [.ref o0, .int 0, .ref g0, .ref o2, .ref o3, .ref o4, .ref o5, .int 0, .ref o6])), (g0, .inr (8, [.ref g1, .ref g2, .ref g3, .ref g4, .ref g5, .ref g6, .int 0, .int 0, .int 0, .int 0])), (m0, .inr (16, [.int 0, .ref kl, .null, .ref tl])), (kl, .inr (6, [.int 0, .ref (κ 0), .int 0])), (u0, .inl (cL, 1, .inr (.inl (fun _ => 0))))] H) (hD : va_D (LA s) [(h0, .inr (12, [.ref o0, .int 0, .ref g0, .ref o2, .ref o3, .ref o4, .ref o5, .int 0, .ref o6])), (g0, .inr (8, [.ref g1, .ref g2, .ref g3, .ref g4, .ref g5, .ref g6, .int 0, .int 0, .int 0, .int 0])), (m0, .inr (16, [.int 0, .ref kl, .null, .ref tl])), (kl, .inr (6, [.int 0, .ref (κ 0), .int 0])), (u0, .inl (cL, 1, .inr (.inl (fun _ => 0))))]) (hS : va_S (LA s) s.heap H locs) (hl : lv_has ls 9 [(0, .ref b), (1, .ref h0), (2, .ref m0), (3, .ref u0), (4, .ref w0), (5, .int 0)]) : W p l e room_1 s m #[Value.ref b] below meth c H locs 300 40000 (lw_Z below #[Value.ref b] s) (F0 m 1201 ls []) := by
  have C1 := C0
  obtain ⟨hl0, hx, hb, hr, hml, hown, hts, hX, hbl, hlocks, hE⟩ := C0
  have hA : ∀ q : Nat, s.heap.size ≤ q → LA s q := fun _ h => h
  have hbA : ¬ LA s b := Nat.not_le.mpr hbl
  refine lv_aload_n hx hb dL_law_1201 rfl (lv_at hl 1 rfl) ?_
  refine lv_aload_n hx hb dL_law_1202 rfl (lv_at hl 3 rfl) ?_
  have hS0 := hS
  have hFc := va_free (wc := [(h0, .inr (12, [.ref o0, .int 0, .ref g0, .ref o2, .ref o3, .ref o4, .ref o5, .int 0, .ref o6])), (g0, .inr (8, [.ref g1, .ref g2, .ref g3, .ref g4, .ref g5, .ref g6, .int 0, .int 0, .int 0, .int 0])), (u0, .inl (cL, 1, .inr (.inl (fun _ => 0))))]) hD hS hA [0, 1, 4] rfl
  refine va_calli (vx_runSW (As := [.ref h0, .ref u0]) (rest := []) ⟨hx, hb, hml, hown, hts⟩ (c_L_winner l hl0 κ D (H).size (h0) (o0) (g0) (o2) (o3) (o4) (o5) (o6) (g1) (g2) (g3) (g4) (g5) (g6) (u0) (cL) ((fun _ => 0)) ) (vx_cwSW 2 hts gd_law_c_L_winner rfl rfl rfl (by decide +kernel) ⟨(Nat.le_of_ble_eq_true rfl), (Nat.le_of_ble_eq_true rfl)⟩) (preS hE hK hP hD hS hA [0, 1, 4] rfl (by decide) [0] rfl) rfl rfl hl.1 rfl (lv_room (Nat.le_of_ble_eq_true rfl)) dL_law_1203 ⟨(Nat.le_of_ble_eq_true rfl), (Nat.le_of_ble_eq_true rfl)⟩) hS (fun q _ h => hFc q h) hFc (fun r_1 u t H1 locs ht hvm hw hB hz1 hk1 hS => ?_)
  try dsimp only at hw
  obtain ⟨hP, hD, hK⟩ := jn (wc := [(h0, .inr (12, [.ref o0, .int 0, .ref g0, .ref o2, .ref o3, .ref o4, .ref o5, .int 0, .ref o6])), (g0, .inr (8, [.ref g1, .ref g2, .ref g3, .ref g4, .ref g5, .ref g6, .int 0, .int 0, .int 0, .int 0])), (u0, .inl (cL, 1, .inr (.inl (fun _ => 0))))]) (wr := [(m0, .inr (16, [.int 0, .ref kl, .null, .ref tl])), (kl, .inr (6, [.int 0, .ref (κ 0), .int 0]))]) (w1 := []) (t1 := []) hP hD hK hS0 hA [0, 1, 4] [2, 3] rfl rfl (by decide) (by decide) ht hvm hk1 hB
  generalize H1 = H at hP hS ⊢
  have hP : va_P D vwCl ([(m0, .inr (16, [.int 0, .ref kl, .null, .ref tl])), (kl, .inr (6, [.int 0, .ref (κ 0), .int 0]))]) H := hP
  have hD : va_D (LA s) ([(m0, .inr (16, [.int 0, .ref kl, .null, .ref tl])), (kl, .inr (6, [.int 0, .ref (κ 0), .int 0]))]) := hD
  have hK : va_K D vwCl [(cL, .long)] s := hK
  refine W.widen (k := 301) (n := 40006) (Nat.le_of_ble_eq_true rfl) (Nat.le_of_ble_eq_true rfl) ?_
  subst hw
  refine lv_istore (lv' := [(6, .int 1), (0, .ref b), (1, .ref h0), (2, .ref m0), (3, .ref u0), (4, .ref w0), (5, .int 0)]) hx hb dL_law_1206 hl (by decide) rfl (fun ls hl => ?_)
  refine lv_aload_n hx hb dL_law_1208 rfl (lv_at hl 3 rfl) ?_
  have hS0 := hS
  have hFc := va_free (wc := [(m0, .inr (16, [.int 0, .ref kl, .null, .ref tl]))]) hD hS hA [0] rfl
  refine va_calli (va_runV (As := []) (rest := []) ⟨hx, hb, hml, hown, hts⟩ (c_X9_winner l κ D (H).size (m0) (kl) (tl) ) (cwV 0 hts gd_law_c_X9_winner rfl rfl rfl (by decide +kernel) ⟨(Nat.le_of_ble_eq_true rfl), (Nat.le_of_ble_eq_true rfl)⟩) (preV hE hK hP hD hS hA [0] rfl (by decide) [] rfl (va_recv hK hP (ci := 16) (q0 := 0) rfl rfl)) rfl rfl hl.1 rfl (lv_room (Nat.le_of_ble_eq_true rfl)) dL_law_1209 ⟨(Nat.le_of_ble_eq_true rfl), (Nat.le_of_ble_eq_true rfl)⟩) hS (fun q _ h => hFc q h) hFc (fun r_2 u t H1 locs ht hvm hw hB hz1 hk1 hS => ?_)
  try dsimp only at hw
  obtain ⟨hP, hD, hK⟩ := jn (wc := [(m0, .inr (16, [.int 0, .ref kl, .null, .ref tl]))]) (wr := [(kl, .inr (6, [.int 0, .ref (κ 0), .int 0]))]) (w1 := [(m0, .inr (16, [.int 1, .ref kl, .null, .ref tl]))]) (t1 := []) hP hD hK hS0 hA [0] [1] rfl rfl (by decide) (by decide) ht hvm hk1 hB
  generalize H1 = H at hP hS ⊢
  have hP : va_P D vwCl ([(kl, .inr (6, [.int 0, .ref (κ 0), .int 0])), (m0, .inr (16, [.int 1, .ref kl, .null, .ref tl]))]) H := hP
  have hD : va_D (LA s) ([(kl, .inr (6, [.int 0, .ref (κ 0), .int 0])), (m0, .inr (16, [.int 1, .ref kl, .null, .ref tl]))]) := hD
  have hK : va_K D vwCl [(cL, .long)] s := hK
  refine W.widen (k := 301) (n := 40006) (Nat.le_of_ble_eq_true rfl) (Nat.le_of_ble_eq_true rfl) ?_
  refine lv_istore (lv' := [(7, .int r_2), (6, .int 1), (0, .ref b), (1, .ref h0), (2, .ref m0), (3, .ref u0), (4, .ref w0), (5, .int 0)]) hx hb dL_law_1212 hl (by decide) rfl (fun ls hl => ?_)
  refine lv_aload_n hx hb dL_law_1214 rfl (lv_at hl 4 rfl) ?_
  have hS0 := hS
  have hFc := va_free (wc := [(m0, .inr (16, [.int 1, .ref kl, .null, .ref tl]))]) hD hS hA [1] rfl
  refine va_calli (va_runV (As := []) (rest := []) ⟨hx, hb, hml, hown, hts⟩ (c_X9_thrown l κ D (H).size (m0) (kl) (tl) (1) ) (cwV 0 hts gd_law_c_X9_thrown rfl rfl rfl (by decide +kernel) ⟨(Nat.le_of_ble_eq_true rfl), (Nat.le_of_ble_eq_true rfl)⟩) (preV hE hK hP hD hS hA [1] rfl (by decide) [] rfl (va_recv hK hP (ci := 16) (q0 := 1) rfl rfl)) rfl rfl hl.1 rfl (lv_room (Nat.le_of_ble_eq_true rfl)) dL_law_1215 ⟨(Nat.le_of_ble_eq_true rfl), (Nat.le_of_ble_eq_true rfl)⟩) hS (fun q _ h => hFc q h) hFc (fun r_3 u t H1 locs ht hvm hw hB hz1 hk1 hS => ?_)
  try dsimp only at hw
  obtain ⟨hP, hD, hK⟩ := jn (wc := [(m0, .inr (16, [.int 1, .ref kl, .null, .ref tl]))]) (wr := [(kl, .inr (6, [.int 0, .ref (κ 0), .int 0]))]) (w1 := [(m0, .inr (16, [.int 1, .ref kl, .null, .ref tl]))]) (t1 := []) hP hD hK hS0 hA [1] [0] rfl rfl (by decide) (by decide) ht hvm hk1 hB
  generalize H1 = H at hP hS ⊢
  have hP : va_P D vwCl ([(kl, .inr (6, [.int 0, .ref (κ 0), .int 0])), (m0, .inr (16, [.int 1, .ref kl, .null, .ref tl]))]) H := hP
  have hD : va_D (LA s) ([(kl, .inr (6, [.int 0, .ref (κ 0), .int 0])), (m0, .inr (16, [.int 1, .ref kl, .null, .ref tl]))]) := hD
  have hK : va_K D vwCl [(cL, .long)] s := hK
  refine W.widen (k := 301) (n := 40006) (Nat.le_of_ble_eq_true rfl) (Nat.le_of_ble_eq_true rfl) ?_
  subst hw
  refine lv_iload hx hb dL_law_1218 (lv_at hl 1 rfl) ?_
  refine lv_icmp_eq (tgt := 1225) hx hb dL_law_1220 (by decide) (fun _ => ?_) (fun c_1220 => absurd c_1220 (by decide))
  refine lv_iload hx hb dL_law_1225 (lv_at hl 1 rfl) ?_
  refine lv_if_ne (tgt := 1242) hx hb dL_law_1227 (by decide) (fun _ => ?_) (fun c_1227 => absurd c_1227 (by decide))
  refine lv_goto (tgt := 2351) hx hb dL_law_1242 (by decide) ?_
  refine W.widen (k := 400) (n := 41000) (Nat.le_of_ble_eq_true rfl) (Nat.le_of_ble_eq_true rfl) ?_
  exact law_end C1 H locs ls hS (lv_sub hl [7, 2] rfl)

set_option maxHeartbeats 8000000 in
set_option maxRecDepth 100000 in
theorem law_laps {p : Program} {l : Launch} {e : Env} {s : State} {m : MethodId} {below : List Frame} {meth : Method} {c : Code} {b : Nat} {xs : Nat → Int32} {κ : Nat → Nat} (C0 : law_At2 p l s m meth c b xs κ) {D : va_G} {h0 : Nat} {o0 : Nat} {g0 : Nat} {o2 : Nat} {o3 : Nat} {o4 : Nat} {o5 : Nat} {o6 : Nat} {g1 : Nat} {g2 : Nat} {g3 : Nat} {g4 : Nat} {g5 : Nat} {g6 : Nat} {m0 : Nat} {kl : Nat} {tl : Nat} {u0 : Nat} {w0 : Nat} {cL : ClassId}  (H : Heap) (locs : List Loc) (ls : Array Slot) (hK : va_K D vwCl [(cL, .long)] s) (hP : va_P D vwCl [(h0, .inr (12, [.ref o0, .int 0, .ref g0, .ref o2, .ref o3, .ref o4, .ref o5, .int 0, .ref o6])), (g0, .inr (8, [.ref g1, .ref g2, .ref g3, .ref g4, .ref g5, .ref g6, .int 0, .int 0, .int 0, .int 0])), (m0, .inr (16, [.int 0, .ref kl, .null, .ref tl])), (kl, .inr (6, [.int 0, .ref (κ 0), .int 0])), (u0, .inl (cL, 1, .inr (.inl (fun _ => 0))))] H) (hD : va_D (LA s) [(h0, .inr (12, [.ref o0, .int 0, .ref g0, .ref o2, .ref o3, .ref o4, .ref o5, .int 0, .ref o6])), (g0, .inr (8, [.ref g1, .ref g2, .ref g3, .ref g4, .ref g5, .ref g6, .int 0, .int 0, .int 0, .int 0])), (m0, .inr (16, [.int 0, .ref kl, .null, .ref tl])), (kl, .inr (6, [.int 0, .ref (κ 0), .int 0])), (u0, .inl (cL, 1, .inr (.inl (fun _ => 0))))]) (hS : va_S (LA s) s.heap H locs) (hl : lv_has ls 9 [(0, .ref b), (1, .ref h0), (2, .ref m0), (3, .ref u0), (4, .ref w0), (5, .int 0)]) : W p l e room_1 s m #[Value.ref b] below meth c H locs 300 40000 (lw_Z below #[Value.ref b] s) (F0 m 1245 ls []) := by
  have C1 := C0
  obtain ⟨hl0, hx, hb, hr, hml, hown, hts, hX, hbl, hlocks, hE⟩ := C0
  have hA : ∀ q : Nat, s.heap.size ≤ q → LA s q := fun _ h => h
  have hbA : ¬ LA s b := Nat.not_le.mpr hbl
  refine lv_aload_n hx hb dL_law_1245 rfl (lv_at hl 1 rfl) ?_
  refine lv_aload_n hx hb dL_law_1246 rfl (lv_at hl 3 rfl) ?_
  have hS0 := hS
  have hFc := va_free (wc := [(h0, .inr (12, [.ref o0, .int 0, .ref g0, .ref o2, .ref o3, .ref o4, .ref o5, .int 0, .ref o6])), (g0, .inr (8, [.ref g1, .ref g2, .ref g3, .ref g4, .ref g5, .ref g6, .int 0, .int 0, .int 0, .int 0])), (u0, .inl (cL, 1, .inr (.inl (fun _ => 0))))]) hD hS hA [0, 1, 4] rfl
  refine va_calli (vx_runSW (As := [.ref h0, .ref u0]) (rest := []) ⟨hx, hb, hml, hown, hts⟩ (c_L_laps l hl0 κ D (H).size (h0) (o0) (g0) (o2) (o3) (o4) (o5) (o6) (g1) (g2) (g3) (g4) (g5) (g6) (u0) (cL) ((fun _ => 0)) ) (vx_cwSW 2 hts gd_law_c_L_laps rfl rfl rfl (by decide +kernel) ⟨(Nat.le_of_ble_eq_true rfl), (Nat.le_of_ble_eq_true rfl)⟩) (preS hE hK hP hD hS hA [0, 1, 4] rfl (by decide) [0] rfl) rfl rfl hl.1 rfl (lv_room (Nat.le_of_ble_eq_true rfl)) dL_law_1247 ⟨(Nat.le_of_ble_eq_true rfl), (Nat.le_of_ble_eq_true rfl)⟩) hS (fun q _ h => hFc q h) hFc (fun r_1 u t H1 locs ht hvm hw hB hz1 hk1 hS => ?_)
  try dsimp only at hw
  obtain ⟨hP, hD, hK⟩ := jn (wc := [(h0, .inr (12, [.ref o0, .int 0, .ref g0, .ref o2, .ref o3, .ref o4, .ref o5, .int 0, .ref o6])), (g0, .inr (8, [.ref g1, .ref g2, .ref g3, .ref g4, .ref g5, .ref g6, .int 0, .int 0, .int 0, .int 0])), (u0, .inl (cL, 1, .inr (.inl (fun _ => 0))))]) (wr := [(m0, .inr (16, [.int 0, .ref kl, .null, .ref tl])), (kl, .inr (6, [.int 0, .ref (κ 0), .int 0]))]) (w1 := []) (t1 := []) hP hD hK hS0 hA [0, 1, 4] [2, 3] rfl rfl (by decide) (by decide) ht hvm hk1 hB
  generalize H1 = H at hP hS ⊢
  have hP : va_P D vwCl ([(m0, .inr (16, [.int 0, .ref kl, .null, .ref tl])), (kl, .inr (6, [.int 0, .ref (κ 0), .int 0]))]) H := hP
  have hD : va_D (LA s) ([(m0, .inr (16, [.int 0, .ref kl, .null, .ref tl])), (kl, .inr (6, [.int 0, .ref (κ 0), .int 0]))]) := hD
  have hK : va_K D vwCl [(cL, .long)] s := hK
  refine W.widen (k := 301) (n := 40006) (Nat.le_of_ble_eq_true rfl) (Nat.le_of_ble_eq_true rfl) ?_
  subst hw
  refine lv_istore (lv' := [(6, .int 1), (0, .ref b), (1, .ref h0), (2, .ref m0), (3, .ref u0), (4, .ref w0), (5, .int 0)]) hx hb dL_law_1250 hl (by decide) rfl (fun ls hl => ?_)
  refine lv_aload_n hx hb dL_law_1252 rfl (lv_at hl 3 rfl) ?_
  have hS0 := hS
  have hFc := va_free (wc := [(m0, .inr (16, [.int 0, .ref kl, .null, .ref tl]))]) hD hS hA [0] rfl
  refine va_calli (va_runV (As := []) (rest := []) ⟨hx, hb, hml, hown, hts⟩ (c_X9_laps l κ D (H).size (m0) (kl) (tl) ) (cwV 0 hts gd_law_c_X9_laps rfl rfl rfl (by decide +kernel) ⟨(Nat.le_of_ble_eq_true rfl), (Nat.le_of_ble_eq_true rfl)⟩) (preV hE hK hP hD hS hA [0] rfl (by decide) [] rfl (va_recv hK hP (ci := 16) (q0 := 0) rfl rfl)) rfl rfl hl.1 rfl (lv_room (Nat.le_of_ble_eq_true rfl)) dL_law_1253 ⟨(Nat.le_of_ble_eq_true rfl), (Nat.le_of_ble_eq_true rfl)⟩) hS (fun q _ h => hFc q h) hFc (fun r_2 u t H1 locs ht hvm hw hB hz1 hk1 hS => ?_)
  try dsimp only at hw
  obtain ⟨hP, hD, hK⟩ := jn (wc := [(m0, .inr (16, [.int 0, .ref kl, .null, .ref tl]))]) (wr := [(kl, .inr (6, [.int 0, .ref (κ 0), .int 0]))]) (w1 := [(m0, .inr (16, [.int 1, .ref kl, .null, .ref tl]))]) (t1 := []) hP hD hK hS0 hA [0] [1] rfl rfl (by decide) (by decide) ht hvm hk1 hB
  generalize H1 = H at hP hS ⊢
  have hP : va_P D vwCl ([(kl, .inr (6, [.int 0, .ref (κ 0), .int 0])), (m0, .inr (16, [.int 1, .ref kl, .null, .ref tl]))]) H := hP
  have hD : va_D (LA s) ([(kl, .inr (6, [.int 0, .ref (κ 0), .int 0])), (m0, .inr (16, [.int 1, .ref kl, .null, .ref tl]))]) := hD
  have hK : va_K D vwCl [(cL, .long)] s := hK
  refine W.widen (k := 301) (n := 40006) (Nat.le_of_ble_eq_true rfl) (Nat.le_of_ble_eq_true rfl) ?_
  refine lv_istore (lv' := [(7, .int r_2), (6, .int 1), (0, .ref b), (1, .ref h0), (2, .ref m0), (3, .ref u0), (4, .ref w0), (5, .int 0)]) hx hb dL_law_1256 hl (by decide) rfl (fun ls hl => ?_)
  refine lv_aload_n hx hb dL_law_1258 rfl (lv_at hl 4 rfl) ?_
  have hS0 := hS
  have hFc := va_free (wc := [(m0, .inr (16, [.int 1, .ref kl, .null, .ref tl]))]) hD hS hA [1] rfl
  refine va_calli (va_runV (As := []) (rest := []) ⟨hx, hb, hml, hown, hts⟩ (c_X9_thrown l κ D (H).size (m0) (kl) (tl) (1) ) (cwV 0 hts gd_law_c_X9_thrown rfl rfl rfl (by decide +kernel) ⟨(Nat.le_of_ble_eq_true rfl), (Nat.le_of_ble_eq_true rfl)⟩) (preV hE hK hP hD hS hA [1] rfl (by decide) [] rfl (va_recv hK hP (ci := 16) (q0 := 1) rfl rfl)) rfl rfl hl.1 rfl (lv_room (Nat.le_of_ble_eq_true rfl)) dL_law_1259 ⟨(Nat.le_of_ble_eq_true rfl), (Nat.le_of_ble_eq_true rfl)⟩) hS (fun q _ h => hFc q h) hFc (fun r_3 u t H1 locs ht hvm hw hB hz1 hk1 hS => ?_)
  try dsimp only at hw
  obtain ⟨hP, hD, hK⟩ := jn (wc := [(m0, .inr (16, [.int 1, .ref kl, .null, .ref tl]))]) (wr := [(kl, .inr (6, [.int 0, .ref (κ 0), .int 0]))]) (w1 := [(m0, .inr (16, [.int 1, .ref kl, .null, .ref tl]))]) (t1 := []) hP hD hK hS0 hA [1] [0] rfl rfl (by decide) (by decide) ht hvm hk1 hB
  generalize H1 = H at hP hS ⊢
  have hP : va_P D vwCl ([(kl, .inr (6, [.int 0, .ref (κ 0), .int 0])), (m0, .inr (16, [.int 1, .ref kl, .null, .ref tl]))]) H := hP
  have hD : va_D (LA s) ([(kl, .inr (6, [.int 0, .ref (κ 0), .int 0])), (m0, .inr (16, [.int 1, .ref kl, .null, .ref tl]))]) := hD
  have hK : va_K D vwCl [(cL, .long)] s := hK
  refine W.widen (k := 301) (n := 40006) (Nat.le_of_ble_eq_true rfl) (Nat.le_of_ble_eq_true rfl) ?_
  subst hw
  refine lv_iload hx hb dL_law_1262 (lv_at hl 1 rfl) ?_
  refine lv_icmp_eq (tgt := 1269) hx hb dL_law_1264 (by decide) (fun _ => ?_) (fun c_1264 => absurd c_1264 (by decide))
  refine lv_iload hx hb dL_law_1269 (lv_at hl 1 rfl) ?_
  refine lv_if_ne (tgt := 1286) hx hb dL_law_1271 (by decide) (fun _ => ?_) (fun c_1271 => absurd c_1271 (by decide))
  refine lv_goto (tgt := 2351) hx hb dL_law_1286 (by decide) ?_
  refine W.widen (k := 400) (n := 41000) (Nat.le_of_ble_eq_true rfl) (Nat.le_of_ble_eq_true rfl) ?_
  exact law_end C1 H locs ls hS (lv_sub hl [7, 2] rfl)

set_option maxHeartbeats 8000000 in
set_option maxRecDepth 100000 in
theorem law_length {p : Program} {l : Launch} {e : Env} {s : State} {m : MethodId} {below : List Frame} {meth : Method} {c : Code} {b : Nat} {xs : Nat → Int32} {κ : Nat → Nat} (C0 : law_At2 p l s m meth c b xs κ) {D : va_G} {h0 : Nat} {o0 : Nat} {g0 : Nat} {o2 : Nat} {o3 : Nat} {o4 : Nat} {o5 : Nat} {o6 : Nat} {g1 : Nat} {g2 : Nat} {g3 : Nat} {g4 : Nat} {g5 : Nat} {g6 : Nat} {m0 : Nat} {kl : Nat} {tl : Nat} {u0 : Nat} {w0 : Nat} {cL : ClassId}  (H : Heap) (locs : List Loc) (ls : Array Slot) (hK : va_K D vwCl [(cL, .long)] s) (hP : va_P D vwCl [(h0, .inr (12, [.ref o0, .int 0, .ref g0, .ref o2, .ref o3, .ref o4, .ref o5, .int 0, .ref o6])), (g0, .inr (8, [.ref g1, .ref g2, .ref g3, .ref g4, .ref g5, .ref g6, .int 0, .int 0, .int 0, .int 0])), (m0, .inr (16, [.int 0, .ref kl, .null, .ref tl])), (kl, .inr (6, [.int 0, .ref (κ 0), .int 0])), (u0, .inl (cL, 1, .inr (.inl (fun _ => 0))))] H) (hD : va_D (LA s) [(h0, .inr (12, [.ref o0, .int 0, .ref g0, .ref o2, .ref o3, .ref o4, .ref o5, .int 0, .ref o6])), (g0, .inr (8, [.ref g1, .ref g2, .ref g3, .ref g4, .ref g5, .ref g6, .int 0, .int 0, .int 0, .int 0])), (m0, .inr (16, [.int 0, .ref kl, .null, .ref tl])), (kl, .inr (6, [.int 0, .ref (κ 0), .int 0])), (u0, .inl (cL, 1, .inr (.inl (fun _ => 0))))]) (hS : va_S (LA s) s.heap H locs) (hl : lv_has ls 9 [(0, .ref b), (1, .ref h0), (2, .ref m0), (3, .ref u0), (4, .ref w0), (5, .int 0)]) : W p l e room_1 s m #[Value.ref b] below meth c H locs 300 40000 (lw_Z below #[Value.ref b] s) (F0 m 1289 ls []) := by
  have C1 := C0
  obtain ⟨hl0, hx, hb, hr, hml, hown, hts, hX, hbl, hlocks, hE⟩ := C0
  have hA : ∀ q : Nat, s.heap.size ≤ q → LA s q := fun _ h => h
  have hbA : ¬ LA s b := Nat.not_le.mpr hbl
  refine lv_aload_n hx hb dL_law_1289 rfl (lv_at hl 1 rfl) ?_
  refine lv_aload_n hx hb dL_law_1290 rfl (lv_at hl 3 rfl) ?_
  have hS0 := hS
  have hFc := va_free (wc := [(h0, .inr (12, [.ref o0, .int 0, .ref g0, .ref o2, .ref o3, .ref o4, .ref o5, .int 0, .ref o6])), (g0, .inr (8, [.ref g1, .ref g2, .ref g3, .ref g4, .ref g5, .ref g6, .int 0, .int 0, .int 0, .int 0])), (u0, .inl (cL, 1, .inr (.inl (fun _ => 0))))]) hD hS hA [0, 1, 4] rfl
  refine va_calli (vx_runSW (As := [.ref h0, .ref u0]) (rest := []) ⟨hx, hb, hml, hown, hts⟩ (c_L_length l hl0 κ D (H).size (h0) (o0) (g0) (o2) (o3) (o4) (o5) (o6) (g1) (g2) (g3) (g4) (g5) (g6) (u0) (cL) ((fun _ => 0)) ) (vx_cwSW 2 hts gd_law_c_L_length rfl rfl rfl (by decide +kernel) ⟨(Nat.le_of_ble_eq_true rfl), (Nat.le_of_ble_eq_true rfl)⟩) (preS hE hK hP hD hS hA [0, 1, 4] rfl (by decide) [0] rfl) rfl rfl hl.1 rfl (lv_room (Nat.le_of_ble_eq_true rfl)) dL_law_1291 ⟨(Nat.le_of_ble_eq_true rfl), (Nat.le_of_ble_eq_true rfl)⟩) hS (fun q _ h => hFc q h) hFc (fun r_1 u t H1 locs ht hvm hw hB hz1 hk1 hS => ?_)
  try dsimp only at hw
  obtain ⟨hP, hD, hK⟩ := jn (wc := [(h0, .inr (12, [.ref o0, .int 0, .ref g0, .ref o2, .ref o3, .ref o4, .ref o5, .int 0, .ref o6])), (g0, .inr (8, [.ref g1, .ref g2, .ref g3, .ref g4, .ref g5, .ref g6, .int 0, .int 0, .int 0, .int 0])), (u0, .inl (cL, 1, .inr (.inl (fun _ => 0))))]) (wr := [(m0, .inr (16, [.int 0, .ref kl, .null, .ref tl])), (kl, .inr (6, [.int 0, .ref (κ 0), .int 0]))]) (w1 := []) (t1 := []) hP hD hK hS0 hA [0, 1, 4] [2, 3] rfl rfl (by decide) (by decide) ht hvm hk1 hB
  generalize H1 = H at hP hS ⊢
  have hP : va_P D vwCl ([(m0, .inr (16, [.int 0, .ref kl, .null, .ref tl])), (kl, .inr (6, [.int 0, .ref (κ 0), .int 0]))]) H := hP
  have hD : va_D (LA s) ([(m0, .inr (16, [.int 0, .ref kl, .null, .ref tl])), (kl, .inr (6, [.int 0, .ref (κ 0), .int 0]))]) := hD
  have hK : va_K D vwCl [(cL, .long)] s := hK
  refine W.widen (k := 301) (n := 40006) (Nat.le_of_ble_eq_true rfl) (Nat.le_of_ble_eq_true rfl) ?_
  subst hw
  refine lv_istore (lv' := [(6, .int 1), (0, .ref b), (1, .ref h0), (2, .ref m0), (3, .ref u0), (4, .ref w0), (5, .int 0)]) hx hb dL_law_1294 hl (by decide) rfl (fun ls hl => ?_)
  refine lv_aload_n hx hb dL_law_1296 rfl (lv_at hl 3 rfl) ?_
  have hS0 := hS
  have hFc := va_free (wc := [(m0, .inr (16, [.int 0, .ref kl, .null, .ref tl]))]) hD hS hA [0] rfl
  refine va_calli (va_runV (As := []) (rest := []) ⟨hx, hb, hml, hown, hts⟩ (c_X9_length l κ D (H).size (m0) (kl) (tl) ) (cwV 0 hts gd_law_c_X9_length rfl rfl rfl (by decide +kernel) ⟨(Nat.le_of_ble_eq_true rfl), (Nat.le_of_ble_eq_true rfl)⟩) (preV hE hK hP hD hS hA [0] rfl (by decide) [] rfl (va_recv hK hP (ci := 16) (q0 := 0) rfl rfl)) rfl rfl hl.1 rfl (lv_room (Nat.le_of_ble_eq_true rfl)) dL_law_1297 ⟨(Nat.le_of_ble_eq_true rfl), (Nat.le_of_ble_eq_true rfl)⟩) hS (fun q _ h => hFc q h) hFc (fun r_2 u t H1 locs ht hvm hw hB hz1 hk1 hS => ?_)
  try dsimp only at hw
  obtain ⟨hP, hD, hK⟩ := jn (wc := [(m0, .inr (16, [.int 0, .ref kl, .null, .ref tl]))]) (wr := [(kl, .inr (6, [.int 0, .ref (κ 0), .int 0]))]) (w1 := [(m0, .inr (16, [.int 1, .ref kl, .null, .ref tl]))]) (t1 := []) hP hD hK hS0 hA [0] [1] rfl rfl (by decide) (by decide) ht hvm hk1 hB
  generalize H1 = H at hP hS ⊢
  have hP : va_P D vwCl ([(kl, .inr (6, [.int 0, .ref (κ 0), .int 0])), (m0, .inr (16, [.int 1, .ref kl, .null, .ref tl]))]) H := hP
  have hD : va_D (LA s) ([(kl, .inr (6, [.int 0, .ref (κ 0), .int 0])), (m0, .inr (16, [.int 1, .ref kl, .null, .ref tl]))]) := hD
  have hK : va_K D vwCl [(cL, .long)] s := hK
  refine W.widen (k := 301) (n := 40006) (Nat.le_of_ble_eq_true rfl) (Nat.le_of_ble_eq_true rfl) ?_
  refine lv_istore (lv' := [(7, .int r_2), (6, .int 1), (0, .ref b), (1, .ref h0), (2, .ref m0), (3, .ref u0), (4, .ref w0), (5, .int 0)]) hx hb dL_law_1300 hl (by decide) rfl (fun ls hl => ?_)
  refine lv_aload_n hx hb dL_law_1302 rfl (lv_at hl 4 rfl) ?_
  have hS0 := hS
  have hFc := va_free (wc := [(m0, .inr (16, [.int 1, .ref kl, .null, .ref tl]))]) hD hS hA [1] rfl
  refine va_calli (va_runV (As := []) (rest := []) ⟨hx, hb, hml, hown, hts⟩ (c_X9_thrown l κ D (H).size (m0) (kl) (tl) (1) ) (cwV 0 hts gd_law_c_X9_thrown rfl rfl rfl (by decide +kernel) ⟨(Nat.le_of_ble_eq_true rfl), (Nat.le_of_ble_eq_true rfl)⟩) (preV hE hK hP hD hS hA [1] rfl (by decide) [] rfl (va_recv hK hP (ci := 16) (q0 := 1) rfl rfl)) rfl rfl hl.1 rfl (lv_room (Nat.le_of_ble_eq_true rfl)) dL_law_1303 ⟨(Nat.le_of_ble_eq_true rfl), (Nat.le_of_ble_eq_true rfl)⟩) hS (fun q _ h => hFc q h) hFc (fun r_3 u t H1 locs ht hvm hw hB hz1 hk1 hS => ?_)
  try dsimp only at hw
  obtain ⟨hP, hD, hK⟩ := jn (wc := [(m0, .inr (16, [.int 1, .ref kl, .null, .ref tl]))]) (wr := [(kl, .inr (6, [.int 0, .ref (κ 0), .int 0]))]) (w1 := [(m0, .inr (16, [.int 1, .ref kl, .null, .ref tl]))]) (t1 := []) hP hD hK hS0 hA [1] [0] rfl rfl (by decide) (by decide) ht hvm hk1 hB
  generalize H1 = H at hP hS ⊢
  have hP : va_P D vwCl ([(kl, .inr (6, [.int 0, .ref (κ 0), .int 0])), (m0, .inr (16, [.int 1, .ref kl, .null, .ref tl]))]) H := hP
  have hD : va_D (LA s) ([(kl, .inr (6, [.int 0, .ref (κ 0), .int 0])), (m0, .inr (16, [.int 1, .ref kl, .null, .ref tl]))]) := hD
  have hK : va_K D vwCl [(cL, .long)] s := hK
  refine W.widen (k := 301) (n := 40006) (Nat.le_of_ble_eq_true rfl) (Nat.le_of_ble_eq_true rfl) ?_
  subst hw
  refine lv_iload hx hb dL_law_1306 (lv_at hl 1 rfl) ?_
  refine lv_icmp_eq (tgt := 1313) hx hb dL_law_1308 (by decide) (fun _ => ?_) (fun c_1308 => absurd c_1308 (by decide))
  refine lv_iload hx hb dL_law_1313 (lv_at hl 1 rfl) ?_
  refine lv_if_ne (tgt := 1330) hx hb dL_law_1315 (by decide) (fun _ => ?_) (fun c_1315 => absurd c_1315 (by decide))
  refine lv_goto (tgt := 2351) hx hb dL_law_1330 (by decide) ?_
  refine W.widen (k := 400) (n := 41000) (Nat.le_of_ble_eq_true rfl) (Nat.le_of_ble_eq_true rfl) ?_
  exact law_end C1 H locs ls hS (lv_sub hl [7, 2] rfl)

set_option maxHeartbeats 8000000 in
set_option maxRecDepth 100000 in
theorem law_times {p : Program} {l : Launch} {e : Env} {s : State} {m : MethodId} {below : List Frame} {meth : Method} {c : Code} {b : Nat} {xs : Nat → Int32} {κ : Nat → Nat} (C0 : law_At2 p l s m meth c b xs κ) {D : va_G} {h0 : Nat} {o0 : Nat} {g0 : Nat} {o2 : Nat} {o3 : Nat} {o4 : Nat} {o5 : Nat} {o6 : Nat} {g1 : Nat} {g2 : Nat} {g3 : Nat} {g4 : Nat} {g5 : Nat} {g6 : Nat} {m0 : Nat} {kl : Nat} {tl : Nat} {u0 : Nat} {w0 : Nat} {cL : ClassId}  (H : Heap) (locs : List Loc) (ls : Array Slot) (hK : va_K D vwCl [(cL, .long)] s) (hP : va_P D vwCl [(h0, .inr (12, [.ref o0, .int 0, .ref g0, .ref o2, .ref o3, .ref o4, .ref o5, .int 0, .ref o6])), (g0, .inr (8, [.ref g1, .ref g2, .ref g3, .ref g4, .ref g5, .ref g6, .int 0, .int 0, .int 0, .int 0])), (m0, .inr (16, [.int 0, .ref kl, .null, .ref tl])), (kl, .inr (6, [.int 0, .ref (κ 0), .int 0])), (u0, .inl (cL, 1, .inr (.inl (fun _ => 0))))] H) (hD : va_D (LA s) [(h0, .inr (12, [.ref o0, .int 0, .ref g0, .ref o2, .ref o3, .ref o4, .ref o5, .int 0, .ref o6])), (g0, .inr (8, [.ref g1, .ref g2, .ref g3, .ref g4, .ref g5, .ref g6, .int 0, .int 0, .int 0, .int 0])), (m0, .inr (16, [.int 0, .ref kl, .null, .ref tl])), (kl, .inr (6, [.int 0, .ref (κ 0), .int 0])), (u0, .inl (cL, 1, .inr (.inl (fun _ => 0))))]) (hS : va_S (LA s) s.heap H locs) (hl : lv_has ls 9 [(0, .ref b), (1, .ref h0), (2, .ref m0), (3, .ref u0), (4, .ref w0), (5, .int 0)]) : W p l e room_1 s m #[Value.ref b] below meth c H locs 300 40000 (lw_Z below #[Value.ref b] s) (F0 m 1333 ls []) := by
  have C1 := C0
  obtain ⟨hl0, hx, hb, hr, hml, hown, hts, hX, hbl, hlocks, hE⟩ := C0
  have hA : ∀ q : Nat, s.heap.size ≤ q → LA s q := fun _ h => h
  have hbA : ¬ LA s b := Nat.not_le.mpr hbl
  refine lv_aload_n hx hb dL_law_1333 rfl (lv_at hl 1 rfl) ?_
  refine lv_aload_n hx hb dL_law_1334 rfl (lv_at hl 3 rfl) ?_
  have hS0 := hS
  have hFc := va_free (wc := [(h0, .inr (12, [.ref o0, .int 0, .ref g0, .ref o2, .ref o3, .ref o4, .ref o5, .int 0, .ref o6])), (g0, .inr (8, [.ref g1, .ref g2, .ref g3, .ref g4, .ref g5, .ref g6, .int 0, .int 0, .int 0, .int 0])), (u0, .inl (cL, 1, .inr (.inl (fun _ => 0))))]) hD hS hA [0, 1, 4] rfl
  refine va_calli (vx_runSW (As := [.ref h0, .ref u0]) (rest := []) ⟨hx, hb, hml, hown, hts⟩ (c_L_times l hl0 κ D (H).size (h0) (o0) (g0) (o2) (o3) (o4) (o5) (o6) (g1) (g2) (g3) (g4) (g5) (g6) (u0) (cL) ((fun _ => 0)) ) (vx_cwSW 2 hts gd_law_c_L_times rfl rfl rfl (by decide +kernel) ⟨(Nat.le_of_ble_eq_true rfl), (Nat.le_of_ble_eq_true rfl)⟩) (preS hE hK hP hD hS hA [0, 1, 4] rfl (by decide) [0] rfl) rfl rfl hl.1 rfl (lv_room (Nat.le_of_ble_eq_true rfl)) dL_law_1335 ⟨(Nat.le_of_ble_eq_true rfl), (Nat.le_of_ble_eq_true rfl)⟩) hS (fun q _ h => hFc q h) hFc (fun r_1 u t H1 locs ht hvm hw hB hz1 hk1 hS => ?_)
  try dsimp only at hw
  obtain ⟨hP, hD, hK⟩ := jn (wc := [(h0, .inr (12, [.ref o0, .int 0, .ref g0, .ref o2, .ref o3, .ref o4, .ref o5, .int 0, .ref o6])), (g0, .inr (8, [.ref g1, .ref g2, .ref g3, .ref g4, .ref g5, .ref g6, .int 0, .int 0, .int 0, .int 0])), (u0, .inl (cL, 1, .inr (.inl (fun _ => 0))))]) (wr := [(m0, .inr (16, [.int 0, .ref kl, .null, .ref tl])), (kl, .inr (6, [.int 0, .ref (κ 0), .int 0]))]) (w1 := []) (t1 := []) hP hD hK hS0 hA [0, 1, 4] [2, 3] rfl rfl (by decide) (by decide) ht hvm hk1 hB
  generalize H1 = H at hP hS ⊢
  have hP : va_P D vwCl ([(m0, .inr (16, [.int 0, .ref kl, .null, .ref tl])), (kl, .inr (6, [.int 0, .ref (κ 0), .int 0]))]) H := hP
  have hD : va_D (LA s) ([(m0, .inr (16, [.int 0, .ref kl, .null, .ref tl])), (kl, .inr (6, [.int 0, .ref (κ 0), .int 0]))]) := hD
  have hK : va_K D vwCl [(cL, .long)] s := hK
  refine W.widen (k := 301) (n := 40006) (Nat.le_of_ble_eq_true rfl) (Nat.le_of_ble_eq_true rfl) ?_
  subst hw
  refine lv_istore (lv' := [(6, .int 1), (0, .ref b), (1, .ref h0), (2, .ref m0), (3, .ref u0), (4, .ref w0), (5, .int 0)]) hx hb dL_law_1338 hl (by decide) rfl (fun ls hl => ?_)
  refine lv_aload_n hx hb dL_law_1340 rfl (lv_at hl 3 rfl) ?_
  have hS0 := hS
  have hFc := va_free (wc := [(m0, .inr (16, [.int 0, .ref kl, .null, .ref tl]))]) hD hS hA [0] rfl
  refine va_calli (va_runV (As := []) (rest := []) ⟨hx, hb, hml, hown, hts⟩ (c_X9_times l κ D (H).size (m0) (kl) (tl) ) (cwV 0 hts gd_law_c_X9_times rfl rfl rfl (by decide +kernel) ⟨(Nat.le_of_ble_eq_true rfl), (Nat.le_of_ble_eq_true rfl)⟩) (preV hE hK hP hD hS hA [0] rfl (by decide) [] rfl (va_recv hK hP (ci := 16) (q0 := 0) rfl rfl)) rfl rfl hl.1 rfl (lv_room (Nat.le_of_ble_eq_true rfl)) dL_law_1341 ⟨(Nat.le_of_ble_eq_true rfl), (Nat.le_of_ble_eq_true rfl)⟩) hS (fun q _ h => hFc q h) hFc (fun r_2 u t H1 locs ht hvm hw hB hz1 hk1 hS => ?_)
  try dsimp only at hw
  obtain ⟨hP, hD, hK⟩ := jn (wc := [(m0, .inr (16, [.int 0, .ref kl, .null, .ref tl]))]) (wr := [(kl, .inr (6, [.int 0, .ref (κ 0), .int 0]))]) (w1 := [(m0, .inr (16, [.int 1, .ref kl, .null, .ref tl]))]) (t1 := []) hP hD hK hS0 hA [0] [1] rfl rfl (by decide) (by decide) ht hvm hk1 hB
  generalize H1 = H at hP hS ⊢
  have hP : va_P D vwCl ([(kl, .inr (6, [.int 0, .ref (κ 0), .int 0])), (m0, .inr (16, [.int 1, .ref kl, .null, .ref tl]))]) H := hP
  have hD : va_D (LA s) ([(kl, .inr (6, [.int 0, .ref (κ 0), .int 0])), (m0, .inr (16, [.int 1, .ref kl, .null, .ref tl]))]) := hD
  have hK : va_K D vwCl [(cL, .long)] s := hK
  refine W.widen (k := 301) (n := 40006) (Nat.le_of_ble_eq_true rfl) (Nat.le_of_ble_eq_true rfl) ?_
  refine lv_istore (lv' := [(7, .int r_2), (6, .int 1), (0, .ref b), (1, .ref h0), (2, .ref m0), (3, .ref u0), (4, .ref w0), (5, .int 0)]) hx hb dL_law_1344 hl (by decide) rfl (fun ls hl => ?_)
  refine lv_aload_n hx hb dL_law_1346 rfl (lv_at hl 4 rfl) ?_
  have hS0 := hS
  have hFc := va_free (wc := [(m0, .inr (16, [.int 1, .ref kl, .null, .ref tl]))]) hD hS hA [1] rfl
  refine va_calli (va_runV (As := []) (rest := []) ⟨hx, hb, hml, hown, hts⟩ (c_X9_thrown l κ D (H).size (m0) (kl) (tl) (1) ) (cwV 0 hts gd_law_c_X9_thrown rfl rfl rfl (by decide +kernel) ⟨(Nat.le_of_ble_eq_true rfl), (Nat.le_of_ble_eq_true rfl)⟩) (preV hE hK hP hD hS hA [1] rfl (by decide) [] rfl (va_recv hK hP (ci := 16) (q0 := 1) rfl rfl)) rfl rfl hl.1 rfl (lv_room (Nat.le_of_ble_eq_true rfl)) dL_law_1347 ⟨(Nat.le_of_ble_eq_true rfl), (Nat.le_of_ble_eq_true rfl)⟩) hS (fun q _ h => hFc q h) hFc (fun r_3 u t H1 locs ht hvm hw hB hz1 hk1 hS => ?_)
  try dsimp only at hw
  obtain ⟨hP, hD, hK⟩ := jn (wc := [(m0, .inr (16, [.int 1, .ref kl, .null, .ref tl]))]) (wr := [(kl, .inr (6, [.int 0, .ref (κ 0), .int 0]))]) (w1 := [(m0, .inr (16, [.int 1, .ref kl, .null, .ref tl]))]) (t1 := []) hP hD hK hS0 hA [1] [0] rfl rfl (by decide) (by decide) ht hvm hk1 hB
  generalize H1 = H at hP hS ⊢
  have hP : va_P D vwCl ([(kl, .inr (6, [.int 0, .ref (κ 0), .int 0])), (m0, .inr (16, [.int 1, .ref kl, .null, .ref tl]))]) H := hP
  have hD : va_D (LA s) ([(kl, .inr (6, [.int 0, .ref (κ 0), .int 0])), (m0, .inr (16, [.int 1, .ref kl, .null, .ref tl]))]) := hD
  have hK : va_K D vwCl [(cL, .long)] s := hK
  refine W.widen (k := 301) (n := 40006) (Nat.le_of_ble_eq_true rfl) (Nat.le_of_ble_eq_true rfl) ?_
  subst hw
  refine lv_iload hx hb dL_law_1350 (lv_at hl 1 rfl) ?_
  refine lv_icmp_eq (tgt := 1357) hx hb dL_law_1352 (by decide) (fun _ => ?_) (fun c_1352 => absurd c_1352 (by decide))
  refine lv_iload hx hb dL_law_1357 (lv_at hl 1 rfl) ?_
  refine lv_if_ne (tgt := 1374) hx hb dL_law_1359 (by decide) (fun _ => ?_) (fun c_1359 => absurd c_1359 (by decide))
  refine lv_goto (tgt := 2351) hx hb dL_law_1374 (by decide) ?_
  refine W.widen (k := 400) (n := 41000) (Nat.le_of_ble_eq_true rfl) (Nat.le_of_ble_eq_true rfl) ?_
  exact law_end C1 H locs ls hS (lv_sub hl [7, 2] rfl)

set_option maxHeartbeats 8000000 in
set_option maxRecDepth 100000 in
theorem law_number {p : Program} {l : Launch} {e : Env} {s : State} {m : MethodId} {below : List Frame} {meth : Method} {c : Code} {b : Nat} {xs : Nat → Int32} {κ : Nat → Nat} (C0 : law_At2 p l s m meth c b xs κ) {D : va_G} {h0 : Nat} {o0 : Nat} {g0 : Nat} {o2 : Nat} {o3 : Nat} {o4 : Nat} {o5 : Nat} {o6 : Nat} {g1 : Nat} {g2 : Nat} {g3 : Nat} {g4 : Nat} {g5 : Nat} {g6 : Nat} {m0 : Nat} {kl : Nat} {tl : Nat} {u0 : Nat} {w0 : Nat} {cL : ClassId}  (H : Heap) (locs : List Loc) (ls : Array Slot) (hK : va_K D vwCl [(cL, .long)] s) (hP : va_P D vwCl [(h0, .inr (12, [.ref o0, .int 0, .ref g0, .ref o2, .ref o3, .ref o4, .ref o5, .int 0, .ref o6])), (g0, .inr (8, [.ref g1, .ref g2, .ref g3, .ref g4, .ref g5, .ref g6, .int 0, .int 0, .int 0, .int 0])), (m0, .inr (16, [.int 0, .ref kl, .null, .ref tl])), (kl, .inr (6, [.int 0, .ref (κ 0), .int 0])), (u0, .inl (cL, 1, .inr (.inl (fun _ => 0))))] H) (hD : va_D (LA s) [(h0, .inr (12, [.ref o0, .int 0, .ref g0, .ref o2, .ref o3, .ref o4, .ref o5, .int 0, .ref o6])), (g0, .inr (8, [.ref g1, .ref g2, .ref g3, .ref g4, .ref g5, .ref g6, .int 0, .int 0, .int 0, .int 0])), (m0, .inr (16, [.int 0, .ref kl, .null, .ref tl])), (kl, .inr (6, [.int 0, .ref (κ 0), .int 0])), (u0, .inl (cL, 1, .inr (.inl (fun _ => 0))))]) (hS : va_S (LA s) s.heap H locs) (hl : lv_has ls 9 [(0, .ref b), (1, .ref h0), (2, .ref m0), (3, .ref u0), (4, .ref w0), (5, .int 0)]) : W p l e room_1 s m #[Value.ref b] below meth c H locs 300 40000 (lw_Z below #[Value.ref b] s) (F0 m 1444 ls []) := by
  have C1 := C0
  obtain ⟨hl0, hx, hb, hr, hml, hown, hts, hX, hbl, hlocks, hE⟩ := C0
  have hA : ∀ q : Nat, s.heap.size ≤ q → LA s q := fun _ h => h
  have hbA : ¬ LA s b := Nat.not_le.mpr hbl
  refine lv_aload_n hx hb dL_law_1444 rfl (lv_at hl 1 rfl) ?_
  refine lv_aload_n hx hb dL_law_1445 rfl (lv_at hl 3 rfl) ?_
  have hS0 := hS
  have hFc := va_free (wc := [(h0, .inr (12, [.ref o0, .int 0, .ref g0, .ref o2, .ref o3, .ref o4, .ref o5, .int 0, .ref o6])), (g0, .inr (8, [.ref g1, .ref g2, .ref g3, .ref g4, .ref g5, .ref g6, .int 0, .int 0, .int 0, .int 0])), (u0, .inl (cL, 1, .inr (.inl (fun _ => 0))))]) hD hS hA [0, 1, 4] rfl
  refine va_calli (vx_runSW (As := [.ref h0, .ref u0]) (rest := []) ⟨hx, hb, hml, hown, hts⟩ (c_L_number l hl0 κ D (H).size (h0) (o0) (g0) (o2) (o3) (o4) (o5) (o6) (g1) (g2) (g3) (g4) (g5) (g6) (u0) (cL) ((fun _ => 0)) ) (vx_cwSW 2 hts gd_law_c_L_number rfl rfl rfl (by decide +kernel) ⟨(Nat.le_of_ble_eq_true rfl), (Nat.le_of_ble_eq_true rfl)⟩) (preS hE hK hP hD hS hA [0, 1, 4] rfl (by decide) [0] rfl) rfl rfl hl.1 rfl (lv_room (Nat.le_of_ble_eq_true rfl)) dL_law_1446 ⟨(Nat.le_of_ble_eq_true rfl), (Nat.le_of_ble_eq_true rfl)⟩) hS (fun q _ h => hFc q h) hFc (fun r_1 u t H1 locs ht hvm hw hB hz1 hk1 hS => ?_)
  try dsimp only at hw
  obtain ⟨hP, hD, hK⟩ := jn (wc := [(h0, .inr (12, [.ref o0, .int 0, .ref g0, .ref o2, .ref o3, .ref o4, .ref o5, .int 0, .ref o6])), (g0, .inr (8, [.ref g1, .ref g2, .ref g3, .ref g4, .ref g5, .ref g6, .int 0, .int 0, .int 0, .int 0])), (u0, .inl (cL, 1, .inr (.inl (fun _ => 0))))]) (wr := [(m0, .inr (16, [.int 0, .ref kl, .null, .ref tl])), (kl, .inr (6, [.int 0, .ref (κ 0), .int 0]))]) (w1 := []) (t1 := []) hP hD hK hS0 hA [0, 1, 4] [2, 3] rfl rfl (by decide) (by decide) ht hvm hk1 hB
  generalize H1 = H at hP hS ⊢
  have hP : va_P D vwCl ([(m0, .inr (16, [.int 0, .ref kl, .null, .ref tl])), (kl, .inr (6, [.int 0, .ref (κ 0), .int 0]))]) H := hP
  have hD : va_D (LA s) ([(m0, .inr (16, [.int 0, .ref kl, .null, .ref tl])), (kl, .inr (6, [.int 0, .ref (κ 0), .int 0]))]) := hD
  have hK : va_K D vwCl [(cL, .long)] s := hK
  refine W.widen (k := 301) (n := 40006) (Nat.le_of_ble_eq_true rfl) (Nat.le_of_ble_eq_true rfl) ?_
  subst hw
  refine lv_istore (lv' := [(6, .int 1), (0, .ref b), (1, .ref h0), (2, .ref m0), (3, .ref u0), (4, .ref w0), (5, .int 0)]) hx hb dL_law_1449 hl (by decide) rfl (fun ls hl => ?_)
  refine lv_aload_n hx hb dL_law_1451 rfl (lv_at hl 3 rfl) ?_
  have hS0 := hS
  have hFc := va_free (wc := [(m0, .inr (16, [.int 0, .ref kl, .null, .ref tl]))]) hD hS hA [0] rfl
  refine va_calll (va_runV (As := []) (rest := []) ⟨hx, hb, hml, hown, hts⟩ (c_X9_number l κ D (H).size (m0) (kl) (tl) ) (cwV 0 hts gd_law_c_X9_number rfl rfl rfl (by decide +kernel) ⟨(Nat.le_of_ble_eq_true rfl), (Nat.le_of_ble_eq_true rfl)⟩) (preV hE hK hP hD hS hA [0] rfl (by decide) [] rfl (va_recv hK hP (ci := 16) (q0 := 0) rfl rfl)) rfl rfl hl.1 rfl (lv_room (Nat.le_of_ble_eq_true rfl)) dL_law_1452 ⟨(Nat.le_of_ble_eq_true rfl), (Nat.le_of_ble_eq_true rfl)⟩) hS (fun q _ h => hFc q h) hFc (fun r_2 u t H1 locs ht hvm hw hB hz1 hk1 hS => ?_)
  try dsimp only at hw
  obtain ⟨hP, hD, hK⟩ := jn (wc := [(m0, .inr (16, [.int 0, .ref kl, .null, .ref tl]))]) (wr := [(kl, .inr (6, [.int 0, .ref (κ 0), .int 0]))]) (w1 := [(m0, .inr (16, [.int 1, .ref kl, .null, .ref tl]))]) (t1 := []) hP hD hK hS0 hA [0] [1] rfl rfl (by decide) (by decide) ht hvm hk1 hB
  generalize H1 = H at hP hS ⊢
  have hP : va_P D vwCl ([(kl, .inr (6, [.int 0, .ref (κ 0), .int 0])), (m0, .inr (16, [.int 1, .ref kl, .null, .ref tl]))]) H := hP
  have hD : va_D (LA s) ([(kl, .inr (6, [.int 0, .ref (κ 0), .int 0])), (m0, .inr (16, [.int 1, .ref kl, .null, .ref tl]))]) := hD
  have hK : va_K D vwCl [(cL, .long)] s := hK
  refine W.widen (k := 301) (n := 40006) (Nat.le_of_ble_eq_true rfl) (Nat.le_of_ble_eq_true rfl) ?_
  refine lv_lstore (lv' := [(7, .long r_2), (6, .int 1), (0, .ref b), (1, .ref h0), (2, .ref m0), (3, .ref u0), (4, .ref w0), (5, .int 0)]) hx hb dL_law_1455 hl (by decide) rfl (fun ls hl => ?_)
  refine lv_aload_n hx hb dL_law_1457 rfl (lv_at hl 4 rfl) ?_
  have hS0 := hS
  have hFc := va_free (wc := [(m0, .inr (16, [.int 1, .ref kl, .null, .ref tl]))]) hD hS hA [1] rfl
  refine va_calli (va_runV (As := []) (rest := []) ⟨hx, hb, hml, hown, hts⟩ (c_X9_thrown l κ D (H).size (m0) (kl) (tl) (1) ) (cwV 0 hts gd_law_c_X9_thrown rfl rfl rfl (by decide +kernel) ⟨(Nat.le_of_ble_eq_true rfl), (Nat.le_of_ble_eq_true rfl)⟩) (preV hE hK hP hD hS hA [1] rfl (by decide) [] rfl (va_recv hK hP (ci := 16) (q0 := 1) rfl rfl)) rfl rfl hl.1 rfl (lv_room (Nat.le_of_ble_eq_true rfl)) dL_law_1458 ⟨(Nat.le_of_ble_eq_true rfl), (Nat.le_of_ble_eq_true rfl)⟩) hS (fun q _ h => hFc q h) hFc (fun r_3 u t H1 locs ht hvm hw hB hz1 hk1 hS => ?_)
  try dsimp only at hw
  obtain ⟨hP, hD, hK⟩ := jn (wc := [(m0, .inr (16, [.int 1, .ref kl, .null, .ref tl]))]) (wr := [(kl, .inr (6, [.int 0, .ref (κ 0), .int 0]))]) (w1 := [(m0, .inr (16, [.int 1, .ref kl, .null, .ref tl]))]) (t1 := []) hP hD hK hS0 hA [1] [0] rfl rfl (by decide) (by decide) ht hvm hk1 hB
  generalize H1 = H at hP hS ⊢
  have hP : va_P D vwCl ([(kl, .inr (6, [.int 0, .ref (κ 0), .int 0])), (m0, .inr (16, [.int 1, .ref kl, .null, .ref tl]))]) H := hP
  have hD : va_D (LA s) ([(kl, .inr (6, [.int 0, .ref (κ 0), .int 0])), (m0, .inr (16, [.int 1, .ref kl, .null, .ref tl]))]) := hD
  have hK : va_K D vwCl [(cL, .long)] s := hK
  refine W.widen (k := 301) (n := 40006) (Nat.le_of_ble_eq_true rfl) (Nat.le_of_ble_eq_true rfl) ?_
  subst hw
  refine lv_iload hx hb dL_law_1461 (lv_at hl 1 rfl) ?_
  refine lv_icmp_eq (tgt := 1468) hx hb dL_law_1463 (by decide) (fun _ => ?_) (fun c_1463 => absurd c_1463 (by decide))
  refine lv_iload hx hb dL_law_1468 (lv_at hl 1 rfl) ?_
  refine lv_if_ne (tgt := 1484) hx hb dL_law_1470 (by decide) (fun _ => ?_) (fun c_1470 => absurd c_1470 (by decide))
  refine lv_goto (tgt := 2351) hx hb dL_law_1484 (by decide) ?_
  refine W.widen (k := 400) (n := 41000) (Nat.le_of_ble_eq_true rfl) (Nat.le_of_ble_eq_true rfl) ?_
  exact law_end C1 H locs ls hS (lv_sub hl [7, 2] rfl)

set_option maxHeartbeats 8000000 in
set_option maxRecDepth 100000 in
theorem law_value {p : Program} {l : Launch} {e : Env} {s : State} {m : MethodId} {below : List Frame} {meth : Method} {c : Code} {b : Nat} {xs : Nat → Int32} {κ : Nat → Nat} (C0 : law_At2 p l s m meth c b xs κ) {D : va_G} {h0 : Nat} {o0 : Nat} {g0 : Nat} {o2 : Nat} {o3 : Nat} {o4 : Nat} {o5 : Nat} {o6 : Nat} {g1 : Nat} {g2 : Nat} {g3 : Nat} {g4 : Nat} {g5 : Nat} {g6 : Nat} {m0 : Nat} {kl : Nat} {tl : Nat} {u0 : Nat} {w0 : Nat} {cL : ClassId}  (H : Heap) (locs : List Loc) (ls : Array Slot) (hK : va_K D vwCl [(cL, .long)] s) (hP : va_P D vwCl [(h0, .inr (12, [.ref o0, .int 0, .ref g0, .ref o2, .ref o3, .ref o4, .ref o5, .int 0, .ref o6])), (g0, .inr (8, [.ref g1, .ref g2, .ref g3, .ref g4, .ref g5, .ref g6, .int 0, .int 0, .int 0, .int 0])), (m0, .inr (16, [.int 0, .ref kl, .null, .ref tl])), (kl, .inr (6, [.int 0, .ref (κ 0), .int 0])), (u0, .inl (cL, 1, .inr (.inl (fun _ => 0))))] H) (hD : va_D (LA s) [(h0, .inr (12, [.ref o0, .int 0, .ref g0, .ref o2, .ref o3, .ref o4, .ref o5, .int 0, .ref o6])), (g0, .inr (8, [.ref g1, .ref g2, .ref g3, .ref g4, .ref g5, .ref g6, .int 0, .int 0, .int 0, .int 0])), (m0, .inr (16, [.int 0, .ref kl, .null, .ref tl])), (kl, .inr (6, [.int 0, .ref (κ 0), .int 0])), (u0, .inl (cL, 1, .inr (.inl (fun _ => 0))))]) (hS : va_S (LA s) s.heap H locs) (hl : lv_has ls 9 [(0, .ref b), (1, .ref h0), (2, .ref m0), (3, .ref u0), (4, .ref w0), (5, .int 0)]) : W p l e room_1 s m #[Value.ref b] below meth c H locs 300 40000 (lw_Z below #[Value.ref b] s) (F0 m 1611 ls []) := by
  have C1 := C0
  obtain ⟨hl0, hx, hb, hr, hml, hown, hts, hX, hbl, hlocks, hE⟩ := C0
  have hA : ∀ q : Nat, s.heap.size ≤ q → LA s q := fun _ h => h
  have hbA : ¬ LA s b := Nat.not_le.mpr hbl
  refine lv_aload_n hx hb dL_law_1611 rfl (lv_at hl 1 rfl) ?_
  refine lv_aload_n hx hb dL_law_1612 rfl (lv_at hl 0 rfl) ?_
  refine lv_iload hx hb dL_law_1613 (lv_at hl 5 rfl) ?_
  refine lv_iconst (v := 1) hx hb dL_law_1615 (by decide) ?_
  refine lv_iadd hx hb dL_law_1616 ?_
  refine lv_topi (fun v_1 ev_1 => ?_)
  have ev_1 : v_1 = 1 := ev_1.trans (by decide)
  subst ev_1
  refine va_sld hx hb hX hbl hbA hS (i := 1) (by unfold vp_in; decide) dL_law_1617 ?_
  refine W.eq (g2 := F0 m 1618 ls [.int (xs 1), .ref h0]) rfl ?_
  refine lv_aload_n hx hb dL_law_1618 rfl (lv_at hl 3 rfl) ?_
  have hS0 := hS
  have hFc := va_free (wc := [(h0, .inr (12, [.ref o0, .int 0, .ref g0, .ref o2, .ref o3, .ref o4, .ref o5, .int 0, .ref o6])), (g0, .inr (8, [.ref g1, .ref g2, .ref g3, .ref g4, .ref g5, .ref g6, .int 0, .int 0, .int 0, .int 0])), (u0, .inl (cL, 1, .inr (.inl (fun _ => 0))))]) hD hS hA [0, 1, 4] rfl
  refine va_calli (vx_runSW (As := [.ref h0, .int (xs 1), .ref u0]) (rest := []) ⟨hx, hb, hml, hown, hts⟩ (c_L_value l hl0 κ D (H).size (h0) (o0) (g0) (o2) (o3) (o4) (o5) (o6) (g1) (g2) (g3) (g4) (g5) (g6) ((xs 1)) (u0) (cL) ((fun _ => 0)) ) (vx_cwSW 3 hts gd_law_c_L_value rfl rfl rfl (by decide +kernel) ⟨(Nat.le_of_ble_eq_true rfl), (Nat.le_of_ble_eq_true rfl)⟩) (preS hE hK hP hD hS hA [0, 1, 4] rfl (by decide) [0] rfl) rfl rfl hl.1 rfl (lv_room (Nat.le_of_ble_eq_true rfl)) dL_law_1619 ⟨(Nat.le_of_ble_eq_true rfl), (Nat.le_of_ble_eq_true rfl)⟩) hS (fun q _ h => hFc q h) hFc (fun r_2 u t H1 locs ht hvm hw hB hz1 hk1 hS => ?_)
  try dsimp only at hw
  obtain ⟨hP, hD, hK⟩ := jn (wc := [(h0, .inr (12, [.ref o0, .int 0, .ref g0, .ref o2, .ref o3, .ref o4, .ref o5, .int 0, .ref o6])), (g0, .inr (8, [.ref g1, .ref g2, .ref g3, .ref g4, .ref g5, .ref g6, .int 0, .int 0, .int 0, .int 0])), (u0, .inl (cL, 1, .inr (.inl (fun _ => 0))))]) (wr := [(m0, .inr (16, [.int 0, .ref kl, .null, .ref tl])), (kl, .inr (6, [.int 0, .ref (κ 0), .int 0]))]) (w1 := []) (t1 := []) hP hD hK hS0 hA [0, 1, 4] [2, 3] rfl rfl (by decide) (by decide) ht hvm hk1 hB
  generalize H1 = H at hP hS ⊢
  have hP : va_P D vwCl ([(m0, .inr (16, [.int 0, .ref kl, .null, .ref tl])), (kl, .inr (6, [.int 0, .ref (κ 0), .int 0]))]) H := hP
  have hD : va_D (LA s) ([(m0, .inr (16, [.int 0, .ref kl, .null, .ref tl])), (kl, .inr (6, [.int 0, .ref (κ 0), .int 0]))]) := hD
  have hK : va_K D vwCl [(cL, .long)] s := hK
  refine W.widen (k := 301) (n := 40006) (Nat.le_of_ble_eq_true rfl) (Nat.le_of_ble_eq_true rfl) ?_
  subst hw
  refine lv_istore (lv' := [(6, .int 1), (0, .ref b), (1, .ref h0), (2, .ref m0), (3, .ref u0), (4, .ref w0), (5, .int 0)]) hx hb dL_law_1622 hl (by decide) rfl (fun ls hl => ?_)
  refine lv_aload_n hx hb dL_law_1624 rfl (lv_at hl 3 rfl) ?_
  refine lv_aload_n hx hb dL_law_1625 rfl (lv_at hl 1 rfl) ?_
  refine lv_iload hx hb dL_law_1626 (lv_at hl 6 rfl) ?_
  refine lv_iconst (v := 1) hx hb dL_law_1628 (by decide) ?_
  refine lv_iadd hx hb dL_law_1629 ?_
  refine lv_topi (fun v_3 ev_3 => ?_)
  have ev_3 : v_3 = 1 := ev_3.trans (by decide)
  subst ev_3
  refine va_sld hx hb hX hbl hbA hS (i := 1) (by unfold vp_in; decide) dL_law_1630 ?_
  refine W.eq (g2 := F0 m 1631 ls [.int (xs 1), .ref m0]) rfl ?_
  have hS0 := hS
  have hFc := va_free (wc := [(m0, .inr (16, [.int 0, .ref kl, .null, .ref tl]))]) hD hS hA [0] rfl
  refine va_calli (va_runV (As := [.int (xs 1)]) (rest := []) ⟨hx, hb, hml, hown, hts⟩ (c_X9_value l κ D (H).size (m0) (kl) (tl) ((xs 1)) ) (cwV 1 hts gd_law_c_X9_value rfl rfl rfl (by decide +kernel) ⟨(Nat.le_of_ble_eq_true rfl), (Nat.le_of_ble_eq_true rfl)⟩) (preV hE hK hP hD hS hA [0] rfl (by decide) [] rfl (va_recv hK hP (ci := 16) (q0 := 0) rfl rfl)) rfl rfl hl.1 rfl (lv_room (Nat.le_of_ble_eq_true rfl)) dL_law_1631 ⟨(Nat.le_of_ble_eq_true rfl), (Nat.le_of_ble_eq_true rfl)⟩) hS (fun q _ h => hFc q h) hFc (fun r_4 u t H1 locs ht hvm hw hB hz1 hk1 hS => ?_)
  try dsimp only at hw
  obtain ⟨hP, hD, hK⟩ := jn (wc := [(m0, .inr (16, [.int 0, .ref kl, .null, .ref tl]))]) (wr := [(kl, .inr (6, [.int 0, .ref (κ 0), .int 0]))]) (w1 := [(m0, .inr (16, [.int 1, .ref kl, .null, .ref tl]))]) (t1 := []) hP hD hK hS0 hA [0] [1] rfl rfl (by decide) (by decide) ht hvm hk1 hB
  generalize H1 = H at hP hS ⊢
  have hP : va_P D vwCl ([(kl, .inr (6, [.int 0, .ref (κ 0), .int 0])), (m0, .inr (16, [.int 1, .ref kl, .null, .ref tl]))]) H := hP
  have hD : va_D (LA s) ([(kl, .inr (6, [.int 0, .ref (κ 0), .int 0])), (m0, .inr (16, [.int 1, .ref kl, .null, .ref tl]))]) := hD
  have hK : va_K D vwCl [(cL, .long)] s := hK
  refine W.widen (k := 301) (n := 40006) (Nat.le_of_ble_eq_true rfl) (Nat.le_of_ble_eq_true rfl) ?_
  refine lv_istore (lv' := [(7, .int r_4), (6, .int 1), (0, .ref b), (1, .ref h0), (2, .ref m0), (3, .ref u0), (4, .ref w0), (5, .int 0)]) hx hb dL_law_1634 hl (by decide) rfl (fun ls hl => ?_)
  refine lv_aload_n hx hb dL_law_1636 rfl (lv_at hl 4 rfl) ?_
  have hS0 := hS
  have hFc := va_free (wc := [(m0, .inr (16, [.int 1, .ref kl, .null, .ref tl]))]) hD hS hA [1] rfl
  refine va_calli (va_runV (As := []) (rest := []) ⟨hx, hb, hml, hown, hts⟩ (c_X9_thrown l κ D (H).size (m0) (kl) (tl) (1) ) (cwV 0 hts gd_law_c_X9_thrown rfl rfl rfl (by decide +kernel) ⟨(Nat.le_of_ble_eq_true rfl), (Nat.le_of_ble_eq_true rfl)⟩) (preV hE hK hP hD hS hA [1] rfl (by decide) [] rfl (va_recv hK hP (ci := 16) (q0 := 1) rfl rfl)) rfl rfl hl.1 rfl (lv_room (Nat.le_of_ble_eq_true rfl)) dL_law_1637 ⟨(Nat.le_of_ble_eq_true rfl), (Nat.le_of_ble_eq_true rfl)⟩) hS (fun q _ h => hFc q h) hFc (fun r_5 u t H1 locs ht hvm hw hB hz1 hk1 hS => ?_)
  try dsimp only at hw
  obtain ⟨hP, hD, hK⟩ := jn (wc := [(m0, .inr (16, [.int 1, .ref kl, .null, .ref tl]))]) (wr := [(kl, .inr (6, [.int 0, .ref (κ 0), .int 0]))]) (w1 := [(m0, .inr (16, [.int 1, .ref kl, .null, .ref tl]))]) (t1 := []) hP hD hK hS0 hA [1] [0] rfl rfl (by decide) (by decide) ht hvm hk1 hB
  generalize H1 = H at hP hS ⊢
  have hP : va_P D vwCl ([(kl, .inr (6, [.int 0, .ref (κ 0), .int 0])), (m0, .inr (16, [.int 1, .ref kl, .null, .ref tl]))]) H := hP
  have hD : va_D (LA s) ([(kl, .inr (6, [.int 0, .ref (κ 0), .int 0])), (m0, .inr (16, [.int 1, .ref kl, .null, .ref tl]))]) := hD
  have hK : va_K D vwCl [(cL, .long)] s := hK
  refine W.widen (k := 301) (n := 40006) (Nat.le_of_ble_eq_true rfl) (Nat.le_of_ble_eq_true rfl) ?_
  subst hw
  refine lv_iload hx hb dL_law_1640 (lv_at hl 1 rfl) ?_
  refine lv_icmp_eq (tgt := 1647) hx hb dL_law_1642 (by decide) (fun _ => ?_) (fun c_1642 => absurd c_1642 (by decide))
  refine lv_iload hx hb dL_law_1647 (lv_at hl 1 rfl) ?_
  refine lv_if_ne (tgt := 1664) hx hb dL_law_1649 (by decide) (fun _ => ?_) (fun c_1649 => absurd c_1649 (by decide))
  refine lv_goto (tgt := 2351) hx hb dL_law_1664 (by decide) ?_
  refine W.widen (k := 400) (n := 41000) (Nat.le_of_ble_eq_true rfl) (Nat.le_of_ble_eq_true rfl) ?_
  exact law_end C1 H locs ls hS (lv_sub hl [7, 2] rfl)

set_option maxHeartbeats 8000000 in
set_option maxRecDepth 100000 in
theorem law_best {p : Program} {l : Launch} {e : Env} {s : State} {m : MethodId} {below : List Frame} {meth : Method} {c : Code} {b : Nat} {xs : Nat → Int32} {κ : Nat → Nat} (C0 : law_At2 p l s m meth c b xs κ) {D : va_G} {h0 : Nat} {o0 : Nat} {g0 : Nat} {o2 : Nat} {o3 : Nat} {o4 : Nat} {o5 : Nat} {o6 : Nat} {g1 : Nat} {g2 : Nat} {g3 : Nat} {g4 : Nat} {g5 : Nat} {g6 : Nat} {m0 : Nat} {kl : Nat} {tl : Nat} {u0 : Nat} {w0 : Nat} {cL : ClassId}  (H : Heap) (locs : List Loc) (ls : Array Slot) (hK : va_K D vwCl [(cL, .long)] s) (hP : va_P D vwCl [(h0, .inr (12, [.ref o0, .int 0, .ref g0, .ref o2, .ref o3, .ref o4, .ref o5, .int 0, .ref o6])), (g0, .inr (8, [.ref g1, .ref g2, .ref g3, .ref g4, .ref g5, .ref g6, .int 0, .int 0, .int 0, .int 0])), (m0, .inr (16, [.int 0, .ref kl, .null, .ref tl])), (kl, .inr (6, [.int 0, .ref (κ 0), .int 0])), (u0, .inl (cL, 1, .inr (.inl (fun _ => 0))))] H) (hD : va_D (LA s) [(h0, .inr (12, [.ref o0, .int 0, .ref g0, .ref o2, .ref o3, .ref o4, .ref o5, .int 0, .ref o6])), (g0, .inr (8, [.ref g1, .ref g2, .ref g3, .ref g4, .ref g5, .ref g6, .int 0, .int 0, .int 0, .int 0])), (m0, .inr (16, [.int 0, .ref kl, .null, .ref tl])), (kl, .inr (6, [.int 0, .ref (κ 0), .int 0])), (u0, .inl (cL, 1, .inr (.inl (fun _ => 0))))]) (hS : va_S (LA s) s.heap H locs) (hl : lv_has ls 9 [(0, .ref b), (1, .ref h0), (2, .ref m0), (3, .ref u0), (4, .ref w0), (5, .int 0)]) : W p l e room_1 s m #[Value.ref b] below meth c H locs 300 40000 (lw_Z below #[Value.ref b] s) (F0 m 1667 ls []) := by
  have C1 := C0
  obtain ⟨hl0, hx, hb, hr, hml, hown, hts, hX, hbl, hlocks, hE⟩ := C0
  have hA : ∀ q : Nat, s.heap.size ≤ q → LA s q := fun _ h => h
  have hbA : ¬ LA s b := Nat.not_le.mpr hbl
  refine lv_aload_n hx hb dL_law_1667 rfl (lv_at hl 1 rfl) ?_
  refine lv_aload_n hx hb dL_law_1668 rfl (lv_at hl 0 rfl) ?_
  refine lv_iload hx hb dL_law_1669 (lv_at hl 5 rfl) ?_
  refine lv_iconst (v := 1) hx hb dL_law_1671 (by decide) ?_
  refine lv_iadd hx hb dL_law_1672 ?_
  refine lv_topi (fun v_1 ev_1 => ?_)
  have ev_1 : v_1 = 1 := ev_1.trans (by decide)
  subst ev_1
  refine va_sld hx hb hX hbl hbA hS (i := 1) (by unfold vp_in; decide) dL_law_1673 ?_
  refine W.eq (g2 := F0 m 1674 ls [.int (xs 1), .ref h0]) rfl ?_
  refine lv_aload_n hx hb dL_law_1674 rfl (lv_at hl 3 rfl) ?_
  have hS0 := hS
  have hFc := va_free (wc := [(h0, .inr (12, [.ref o0, .int 0, .ref g0, .ref o2, .ref o3, .ref o4, .ref o5, .int 0, .ref o6])), (g0, .inr (8, [.ref g1, .ref g2, .ref g3, .ref g4, .ref g5, .ref g6, .int 0, .int 0, .int 0, .int 0])), (u0, .inl (cL, 1, .inr (.inl (fun _ => 0))))]) hD hS hA [0, 1, 4] rfl
  refine va_calli (vx_runSW (As := [.ref h0, .int (xs 1), .ref u0]) (rest := []) ⟨hx, hb, hml, hown, hts⟩ (c_L_best l hl0 κ D (H).size (h0) (o0) (g0) (o2) (o3) (o4) (o5) (o6) (g1) (g2) (g3) (g4) (g5) (g6) ((xs 1)) (u0) (cL) ((fun _ => 0)) ) (vx_cwSW 3 hts gd_law_c_L_best rfl rfl rfl (by decide +kernel) ⟨(Nat.le_of_ble_eq_true rfl), (Nat.le_of_ble_eq_true rfl)⟩) (preS hE hK hP hD hS hA [0, 1, 4] rfl (by decide) [0] rfl) rfl rfl hl.1 rfl (lv_room (Nat.le_of_ble_eq_true rfl)) dL_law_1675 ⟨(Nat.le_of_ble_eq_true rfl), (Nat.le_of_ble_eq_true rfl)⟩) hS (fun q _ h => hFc q h) hFc (fun r_2 u t H1 locs ht hvm hw hB hz1 hk1 hS => ?_)
  try dsimp only at hw
  obtain ⟨hP, hD, hK⟩ := jn (wc := [(h0, .inr (12, [.ref o0, .int 0, .ref g0, .ref o2, .ref o3, .ref o4, .ref o5, .int 0, .ref o6])), (g0, .inr (8, [.ref g1, .ref g2, .ref g3, .ref g4, .ref g5, .ref g6, .int 0, .int 0, .int 0, .int 0])), (u0, .inl (cL, 1, .inr (.inl (fun _ => 0))))]) (wr := [(m0, .inr (16, [.int 0, .ref kl, .null, .ref tl])), (kl, .inr (6, [.int 0, .ref (κ 0), .int 0]))]) (w1 := []) (t1 := []) hP hD hK hS0 hA [0, 1, 4] [2, 3] rfl rfl (by decide) (by decide) ht hvm hk1 hB
  generalize H1 = H at hP hS ⊢
  have hP : va_P D vwCl ([(m0, .inr (16, [.int 0, .ref kl, .null, .ref tl])), (kl, .inr (6, [.int 0, .ref (κ 0), .int 0]))]) H := hP
  have hD : va_D (LA s) ([(m0, .inr (16, [.int 0, .ref kl, .null, .ref tl])), (kl, .inr (6, [.int 0, .ref (κ 0), .int 0]))]) := hD
  have hK : va_K D vwCl [(cL, .long)] s := hK
  refine W.widen (k := 301) (n := 40006) (Nat.le_of_ble_eq_true rfl) (Nat.le_of_ble_eq_true rfl) ?_
  subst hw
  refine lv_istore (lv' := [(6, .int 1), (0, .ref b), (1, .ref h0), (2, .ref m0), (3, .ref u0), (4, .ref w0), (5, .int 0)]) hx hb dL_law_1678 hl (by decide) rfl (fun ls hl => ?_)
  refine lv_aload_n hx hb dL_law_1680 rfl (lv_at hl 3 rfl) ?_
  refine lv_aload_n hx hb dL_law_1681 rfl (lv_at hl 1 rfl) ?_
  refine lv_iload hx hb dL_law_1682 (lv_at hl 6 rfl) ?_
  refine lv_iconst (v := 1) hx hb dL_law_1684 (by decide) ?_
  refine lv_iadd hx hb dL_law_1685 ?_
  refine lv_topi (fun v_3 ev_3 => ?_)
  have ev_3 : v_3 = 1 := ev_3.trans (by decide)
  subst ev_3
  refine va_sld hx hb hX hbl hbA hS (i := 1) (by unfold vp_in; decide) dL_law_1686 ?_
  refine W.eq (g2 := F0 m 1687 ls [.int (xs 1), .ref m0]) rfl ?_
  have hS0 := hS
  have hFc := va_free (wc := [(m0, .inr (16, [.int 0, .ref kl, .null, .ref tl]))]) hD hS hA [0] rfl
  refine va_calli (va_runV (As := [.int (xs 1)]) (rest := []) ⟨hx, hb, hml, hown, hts⟩ (c_X9_best l κ D (H).size (m0) (kl) (tl) ((xs 1)) ) (cwV 1 hts gd_law_c_X9_best rfl rfl rfl (by decide +kernel) ⟨(Nat.le_of_ble_eq_true rfl), (Nat.le_of_ble_eq_true rfl)⟩) (preV hE hK hP hD hS hA [0] rfl (by decide) [] rfl (va_recv hK hP (ci := 16) (q0 := 0) rfl rfl)) rfl rfl hl.1 rfl (lv_room (Nat.le_of_ble_eq_true rfl)) dL_law_1687 ⟨(Nat.le_of_ble_eq_true rfl), (Nat.le_of_ble_eq_true rfl)⟩) hS (fun q _ h => hFc q h) hFc (fun r_4 u t H1 locs ht hvm hw hB hz1 hk1 hS => ?_)
  try dsimp only at hw
  obtain ⟨hP, hD, hK⟩ := jn (wc := [(m0, .inr (16, [.int 0, .ref kl, .null, .ref tl]))]) (wr := [(kl, .inr (6, [.int 0, .ref (κ 0), .int 0]))]) (w1 := [(m0, .inr (16, [.int 1, .ref kl, .null, .ref tl]))]) (t1 := []) hP hD hK hS0 hA [0] [1] rfl rfl (by decide) (by decide) ht hvm hk1 hB
  generalize H1 = H at hP hS ⊢
  have hP : va_P D vwCl ([(kl, .inr (6, [.int 0, .ref (κ 0), .int 0])), (m0, .inr (16, [.int 1, .ref kl, .null, .ref tl]))]) H := hP
  have hD : va_D (LA s) ([(kl, .inr (6, [.int 0, .ref (κ 0), .int 0])), (m0, .inr (16, [.int 1, .ref kl, .null, .ref tl]))]) := hD
  have hK : va_K D vwCl [(cL, .long)] s := hK
  refine W.widen (k := 301) (n := 40006) (Nat.le_of_ble_eq_true rfl) (Nat.le_of_ble_eq_true rfl) ?_
  refine lv_istore (lv' := [(7, .int r_4), (6, .int 1), (0, .ref b), (1, .ref h0), (2, .ref m0), (3, .ref u0), (4, .ref w0), (5, .int 0)]) hx hb dL_law_1690 hl (by decide) rfl (fun ls hl => ?_)
  refine lv_aload_n hx hb dL_law_1692 rfl (lv_at hl 4 rfl) ?_
  have hS0 := hS
  have hFc := va_free (wc := [(m0, .inr (16, [.int 1, .ref kl, .null, .ref tl]))]) hD hS hA [1] rfl
  refine va_calli (va_runV (As := []) (rest := []) ⟨hx, hb, hml, hown, hts⟩ (c_X9_thrown l κ D (H).size (m0) (kl) (tl) (1) ) (cwV 0 hts gd_law_c_X9_thrown rfl rfl rfl (by decide +kernel) ⟨(Nat.le_of_ble_eq_true rfl), (Nat.le_of_ble_eq_true rfl)⟩) (preV hE hK hP hD hS hA [1] rfl (by decide) [] rfl (va_recv hK hP (ci := 16) (q0 := 1) rfl rfl)) rfl rfl hl.1 rfl (lv_room (Nat.le_of_ble_eq_true rfl)) dL_law_1693 ⟨(Nat.le_of_ble_eq_true rfl), (Nat.le_of_ble_eq_true rfl)⟩) hS (fun q _ h => hFc q h) hFc (fun r_5 u t H1 locs ht hvm hw hB hz1 hk1 hS => ?_)
  try dsimp only at hw
  obtain ⟨hP, hD, hK⟩ := jn (wc := [(m0, .inr (16, [.int 1, .ref kl, .null, .ref tl]))]) (wr := [(kl, .inr (6, [.int 0, .ref (κ 0), .int 0]))]) (w1 := [(m0, .inr (16, [.int 1, .ref kl, .null, .ref tl]))]) (t1 := []) hP hD hK hS0 hA [1] [0] rfl rfl (by decide) (by decide) ht hvm hk1 hB
  generalize H1 = H at hP hS ⊢
  have hP : va_P D vwCl ([(kl, .inr (6, [.int 0, .ref (κ 0), .int 0])), (m0, .inr (16, [.int 1, .ref kl, .null, .ref tl]))]) H := hP
  have hD : va_D (LA s) ([(kl, .inr (6, [.int 0, .ref (κ 0), .int 0])), (m0, .inr (16, [.int 1, .ref kl, .null, .ref tl]))]) := hD
  have hK : va_K D vwCl [(cL, .long)] s := hK
  refine W.widen (k := 301) (n := 40006) (Nat.le_of_ble_eq_true rfl) (Nat.le_of_ble_eq_true rfl) ?_
  subst hw
  refine lv_iload hx hb dL_law_1696 (lv_at hl 1 rfl) ?_
  refine lv_icmp_eq (tgt := 1703) hx hb dL_law_1698 (by decide) (fun _ => ?_) (fun c_1698 => absurd c_1698 (by decide))
  refine lv_iload hx hb dL_law_1703 (lv_at hl 1 rfl) ?_
  refine lv_if_ne (tgt := 1720) hx hb dL_law_1705 (by decide) (fun _ => ?_) (fun c_1705 => absurd c_1705 (by decide))
  refine lv_goto (tgt := 2351) hx hb dL_law_1720 (by decide) ?_
  refine W.widen (k := 400) (n := 41000) (Nat.le_of_ble_eq_true rfl) (Nat.le_of_ble_eq_true rfl) ?_
  exact law_end C1 H locs ls hS (lv_sub hl [7, 2] rfl)

set_option maxHeartbeats 8000000 in
set_option maxRecDepth 100000 in
theorem law_blunder {p : Program} {l : Launch} {e : Env} {s : State} {m : MethodId} {below : List Frame} {meth : Method} {c : Code} {b : Nat} {xs : Nat → Int32} {κ : Nat → Nat} (C0 : law_At2 p l s m meth c b xs κ) {D : va_G} {h0 : Nat} {o0 : Nat} {g0 : Nat} {o2 : Nat} {o3 : Nat} {o4 : Nat} {o5 : Nat} {o6 : Nat} {g1 : Nat} {g2 : Nat} {g3 : Nat} {g4 : Nat} {g5 : Nat} {g6 : Nat} {m0 : Nat} {kl : Nat} {tl : Nat} {u0 : Nat} {w0 : Nat} {cL : ClassId}  (H : Heap) (locs : List Loc) (ls : Array Slot) (hK : va_K D vwCl [(cL, .long)] s) (hP : va_P D vwCl [(h0, .inr (12, [.ref o0, .int 0, .ref g0, .ref o2, .ref o3, .ref o4, .ref o5, .int 0, .ref o6])), (g0, .inr (8, [.ref g1, .ref g2, .ref g3, .ref g4, .ref g5, .ref g6, .int 0, .int 0, .int 0, .int 0])), (m0, .inr (16, [.int 0, .ref kl, .null, .ref tl])), (kl, .inr (6, [.int 0, .ref (κ 0), .int 0])), (u0, .inl (cL, 1, .inr (.inl (fun _ => 0))))] H) (hD : va_D (LA s) [(h0, .inr (12, [.ref o0, .int 0, .ref g0, .ref o2, .ref o3, .ref o4, .ref o5, .int 0, .ref o6])), (g0, .inr (8, [.ref g1, .ref g2, .ref g3, .ref g4, .ref g5, .ref g6, .int 0, .int 0, .int 0, .int 0])), (m0, .inr (16, [.int 0, .ref kl, .null, .ref tl])), (kl, .inr (6, [.int 0, .ref (κ 0), .int 0])), (u0, .inl (cL, 1, .inr (.inl (fun _ => 0))))]) (hS : va_S (LA s) s.heap H locs) (hl : lv_has ls 9 [(0, .ref b), (1, .ref h0), (2, .ref m0), (3, .ref u0), (4, .ref w0), (5, .int 0)]) : W p l e room_1 s m #[Value.ref b] below meth c H locs 300 40000 (lw_Z below #[Value.ref b] s) (F0 m 1723 ls []) := by
  have C1 := C0
  obtain ⟨hl0, hx, hb, hr, hml, hown, hts, hX, hbl, hlocks, hE⟩ := C0
  have hA : ∀ q : Nat, s.heap.size ≤ q → LA s q := fun _ h => h
  have hbA : ¬ LA s b := Nat.not_le.mpr hbl
  refine lv_aload_n hx hb dL_law_1723 rfl (lv_at hl 1 rfl) ?_
  refine lv_aload_n hx hb dL_law_1724 rfl (lv_at hl 0 rfl) ?_
  refine lv_iload hx hb dL_law_1725 (lv_at hl 5 rfl) ?_
  refine lv_iconst (v := 1) hx hb dL_law_1727 (by decide) ?_
  refine lv_iadd hx hb dL_law_1728 ?_
  refine lv_topi (fun v_1 ev_1 => ?_)
  have ev_1 : v_1 = 1 := ev_1.trans (by decide)
  subst ev_1
  refine va_sld hx hb hX hbl hbA hS (i := 1) (by unfold vp_in; decide) dL_law_1729 ?_
  refine W.eq (g2 := F0 m 1730 ls [.int (xs 1), .ref h0]) rfl ?_
  refine lv_aload_n hx hb dL_law_1730 rfl (lv_at hl 0 rfl) ?_
  refine lv_iload hx hb dL_law_1731 (lv_at hl 5 rfl) ?_
  refine lv_iconst (v := 2) hx hb dL_law_1733 (by decide) ?_
  refine lv_iadd hx hb dL_law_1734 ?_
  refine lv_topi (fun v_2 ev_2 => ?_)
  have ev_2 : v_2 = 2 := ev_2.trans (by decide)
  subst ev_2
  refine va_sld hx hb hX hbl hbA hS (i := 2) (by unfold vp_in; decide) dL_law_1735 ?_
  refine W.eq (g2 := F0 m 1736 ls [.int (xs 2), .int (xs 1), .ref h0]) rfl ?_
  refine lv_aload_n hx hb dL_law_1736 rfl (lv_at hl 3 rfl) ?_
  have hS0 := hS
  have hFc := va_free (wc := [(h0, .inr (12, [.ref o0, .int 0, .ref g0, .ref o2, .ref o3, .ref o4, .ref o5, .int 0, .ref o6])), (g0, .inr (8, [.ref g1, .ref g2, .ref g3, .ref g4, .ref g5, .ref g6, .int 0, .int 0, .int 0, .int 0])), (u0, .inl (cL, 1, .inr (.inl (fun _ => 0))))]) hD hS hA [0, 1, 4] rfl
  refine va_calli (vx_runSW (As := [.ref h0, .int (xs 1), .int (xs 2), .ref u0]) (rest := []) ⟨hx, hb, hml, hown, hts⟩ (c_L_blunder l hl0 κ D (H).size (h0) (o0) (g0) (o2) (o3) (o4) (o5) (o6) (g1) (g2) (g3) (g4) (g5) (g6) ((xs 1)) ((xs 2)) (u0) (cL) ((fun _ => 0)) ) (vx_cwSW 4 hts gd_law_c_L_blunder rfl rfl rfl (by decide +kernel) ⟨(Nat.le_of_ble_eq_true rfl), (Nat.le_of_ble_eq_true rfl)⟩) (preS hE hK hP hD hS hA [0, 1, 4] rfl (by decide) [0] rfl) rfl rfl hl.1 rfl (lv_room (Nat.le_of_ble_eq_true rfl)) dL_law_1737 ⟨(Nat.le_of_ble_eq_true rfl), (Nat.le_of_ble_eq_true rfl)⟩) hS (fun q _ h => hFc q h) hFc (fun r_3 u t H1 locs ht hvm hw hB hz1 hk1 hS => ?_)
  try dsimp only at hw
  obtain ⟨hP, hD, hK⟩ := jn (wc := [(h0, .inr (12, [.ref o0, .int 0, .ref g0, .ref o2, .ref o3, .ref o4, .ref o5, .int 0, .ref o6])), (g0, .inr (8, [.ref g1, .ref g2, .ref g3, .ref g4, .ref g5, .ref g6, .int 0, .int 0, .int 0, .int 0])), (u0, .inl (cL, 1, .inr (.inl (fun _ => 0))))]) (wr := [(m0, .inr (16, [.int 0, .ref kl, .null, .ref tl])), (kl, .inr (6, [.int 0, .ref (κ 0), .int 0]))]) (w1 := []) (t1 := []) hP hD hK hS0 hA [0, 1, 4] [2, 3] rfl rfl (by decide) (by decide) ht hvm hk1 hB
  generalize H1 = H at hP hS ⊢
  have hP : va_P D vwCl ([(m0, .inr (16, [.int 0, .ref kl, .null, .ref tl])), (kl, .inr (6, [.int 0, .ref (κ 0), .int 0]))]) H := hP
  have hD : va_D (LA s) ([(m0, .inr (16, [.int 0, .ref kl, .null, .ref tl])), (kl, .inr (6, [.int 0, .ref (κ 0), .int 0]))]) := hD
  have hK : va_K D vwCl [(cL, .long)] s := hK
  refine W.widen (k := 301) (n := 40006) (Nat.le_of_ble_eq_true rfl) (Nat.le_of_ble_eq_true rfl) ?_
  subst hw
  refine lv_istore (lv' := [(6, .int 1), (0, .ref b), (1, .ref h0), (2, .ref m0), (3, .ref u0), (4, .ref w0), (5, .int 0)]) hx hb dL_law_1740 hl (by decide) rfl (fun ls hl => ?_)
  refine lv_aload_n hx hb dL_law_1742 rfl (lv_at hl 3 rfl) ?_
  refine lv_aload_n hx hb dL_law_1743 rfl (lv_at hl 1 rfl) ?_
  refine lv_iload hx hb dL_law_1744 (lv_at hl 6 rfl) ?_
  refine lv_iconst (v := 1) hx hb dL_law_1746 (by decide) ?_
  refine lv_iadd hx hb dL_law_1747 ?_
  refine lv_topi (fun v_4 ev_4 => ?_)
  have ev_4 : v_4 = 1 := ev_4.trans (by decide)
  subst ev_4
  refine va_sld hx hb hX hbl hbA hS (i := 1) (by unfold vp_in; decide) dL_law_1748 ?_
  refine W.eq (g2 := F0 m 1749 ls [.int (xs 1), .ref m0]) rfl ?_
  refine lv_aload_n hx hb dL_law_1749 rfl (lv_at hl 1 rfl) ?_
  refine lv_iload hx hb dL_law_1750 (lv_at hl 6 rfl) ?_
  refine lv_iconst (v := 2) hx hb dL_law_1752 (by decide) ?_
  refine lv_iadd hx hb dL_law_1753 ?_
  refine lv_topi (fun v_5 ev_5 => ?_)
  have ev_5 : v_5 = 2 := ev_5.trans (by decide)
  subst ev_5
  refine va_sld hx hb hX hbl hbA hS (i := 2) (by unfold vp_in; decide) dL_law_1754 ?_
  refine W.eq (g2 := F0 m 1755 ls [.int (xs 2), .int (xs 1), .ref m0]) rfl ?_
  have hS0 := hS
  have hFc := va_free (wc := [(m0, .inr (16, [.int 0, .ref kl, .null, .ref tl]))]) hD hS hA [0] rfl
  refine va_calli (va_runV (As := [.int (xs 1), .int (xs 2)]) (rest := []) ⟨hx, hb, hml, hown, hts⟩ (c_X9_blunder l κ D (H).size (m0) (kl) (tl) ((xs 1)) ((xs 2)) ) (cwV 2 hts gd_law_c_X9_blunder rfl rfl rfl (by decide +kernel) ⟨(Nat.le_of_ble_eq_true rfl), (Nat.le_of_ble_eq_true rfl)⟩) (preV hE hK hP hD hS hA [0] rfl (by decide) [] rfl (va_recv hK hP (ci := 16) (q0 := 0) rfl rfl)) rfl rfl hl.1 rfl (lv_room (Nat.le_of_ble_eq_true rfl)) dL_law_1755 ⟨(Nat.le_of_ble_eq_true rfl), (Nat.le_of_ble_eq_true rfl)⟩) hS (fun q _ h => hFc q h) hFc (fun r_6 u t H1 locs ht hvm hw hB hz1 hk1 hS => ?_)
  try dsimp only at hw
  obtain ⟨hP, hD, hK⟩ := jn (wc := [(m0, .inr (16, [.int 0, .ref kl, .null, .ref tl]))]) (wr := [(kl, .inr (6, [.int 0, .ref (κ 0), .int 0]))]) (w1 := [(m0, .inr (16, [.int 1, .ref kl, .null, .ref tl]))]) (t1 := []) hP hD hK hS0 hA [0] [1] rfl rfl (by decide) (by decide) ht hvm hk1 hB
  generalize H1 = H at hP hS ⊢
  have hP : va_P D vwCl ([(kl, .inr (6, [.int 0, .ref (κ 0), .int 0])), (m0, .inr (16, [.int 1, .ref kl, .null, .ref tl]))]) H := hP
  have hD : va_D (LA s) ([(kl, .inr (6, [.int 0, .ref (κ 0), .int 0])), (m0, .inr (16, [.int 1, .ref kl, .null, .ref tl]))]) := hD
  have hK : va_K D vwCl [(cL, .long)] s := hK
  refine W.widen (k := 301) (n := 40006) (Nat.le_of_ble_eq_true rfl) (Nat.le_of_ble_eq_true rfl) ?_
  refine lv_istore (lv' := [(7, .int r_6), (6, .int 1), (0, .ref b), (1, .ref h0), (2, .ref m0), (3, .ref u0), (4, .ref w0), (5, .int 0)]) hx hb dL_law_1758 hl (by decide) rfl (fun ls hl => ?_)
  refine lv_aload_n hx hb dL_law_1760 rfl (lv_at hl 4 rfl) ?_
  have hS0 := hS
  have hFc := va_free (wc := [(m0, .inr (16, [.int 1, .ref kl, .null, .ref tl]))]) hD hS hA [1] rfl
  refine va_calli (va_runV (As := []) (rest := []) ⟨hx, hb, hml, hown, hts⟩ (c_X9_thrown l κ D (H).size (m0) (kl) (tl) (1) ) (cwV 0 hts gd_law_c_X9_thrown rfl rfl rfl (by decide +kernel) ⟨(Nat.le_of_ble_eq_true rfl), (Nat.le_of_ble_eq_true rfl)⟩) (preV hE hK hP hD hS hA [1] rfl (by decide) [] rfl (va_recv hK hP (ci := 16) (q0 := 1) rfl rfl)) rfl rfl hl.1 rfl (lv_room (Nat.le_of_ble_eq_true rfl)) dL_law_1761 ⟨(Nat.le_of_ble_eq_true rfl), (Nat.le_of_ble_eq_true rfl)⟩) hS (fun q _ h => hFc q h) hFc (fun r_7 u t H1 locs ht hvm hw hB hz1 hk1 hS => ?_)
  try dsimp only at hw
  obtain ⟨hP, hD, hK⟩ := jn (wc := [(m0, .inr (16, [.int 1, .ref kl, .null, .ref tl]))]) (wr := [(kl, .inr (6, [.int 0, .ref (κ 0), .int 0]))]) (w1 := [(m0, .inr (16, [.int 1, .ref kl, .null, .ref tl]))]) (t1 := []) hP hD hK hS0 hA [1] [0] rfl rfl (by decide) (by decide) ht hvm hk1 hB
  generalize H1 = H at hP hS ⊢
  have hP : va_P D vwCl ([(kl, .inr (6, [.int 0, .ref (κ 0), .int 0])), (m0, .inr (16, [.int 1, .ref kl, .null, .ref tl]))]) H := hP
  have hD : va_D (LA s) ([(kl, .inr (6, [.int 0, .ref (κ 0), .int 0])), (m0, .inr (16, [.int 1, .ref kl, .null, .ref tl]))]) := hD
  have hK : va_K D vwCl [(cL, .long)] s := hK
  refine W.widen (k := 301) (n := 40006) (Nat.le_of_ble_eq_true rfl) (Nat.le_of_ble_eq_true rfl) ?_
  subst hw
  refine lv_iload hx hb dL_law_1764 (lv_at hl 1 rfl) ?_
  refine lv_icmp_eq (tgt := 1771) hx hb dL_law_1766 (by decide) (fun _ => ?_) (fun c_1766 => absurd c_1766 (by decide))
  refine lv_iload hx hb dL_law_1771 (lv_at hl 1 rfl) ?_
  refine lv_if_ne (tgt := 1788) hx hb dL_law_1773 (by decide) (fun _ => ?_) (fun c_1773 => absurd c_1773 (by decide))
  refine lv_goto (tgt := 2351) hx hb dL_law_1788 (by decide) ?_
  refine W.widen (k := 400) (n := 41000) (Nat.le_of_ble_eq_true rfl) (Nat.le_of_ble_eq_true rfl) ?_
  exact law_end C1 H locs ls hS (lv_sub hl [7, 2] rfl)

set_option maxHeartbeats 8000000 in
set_option maxRecDepth 100000 in
theorem law_isPuzzle {p : Program} {l : Launch} {e : Env} {s : State} {m : MethodId} {below : List Frame} {meth : Method} {c : Code} {b : Nat} {xs : Nat → Int32} {κ : Nat → Nat} (C0 : law_At2 p l s m meth c b xs κ) {D : va_G} {h0 : Nat} {o0 : Nat} {g0 : Nat} {o2 : Nat} {o3 : Nat} {o4 : Nat} {o5 : Nat} {o6 : Nat} {g1 : Nat} {g2 : Nat} {g3 : Nat} {g4 : Nat} {g5 : Nat} {g6 : Nat} {m0 : Nat} {kl : Nat} {tl : Nat} {u0 : Nat} {w0 : Nat} {cL : ClassId}  (H : Heap) (locs : List Loc) (ls : Array Slot) (hK : va_K D vwCl [(cL, .long)] s) (hP : va_P D vwCl [(h0, .inr (12, [.ref o0, .int 0, .ref g0, .ref o2, .ref o3, .ref o4, .ref o5, .int 0, .ref o6])), (g0, .inr (8, [.ref g1, .ref g2, .ref g3, .ref g4, .ref g5, .ref g6, .int 0, .int 0, .int 0, .int 0])), (m0, .inr (16, [.int 0, .ref kl, .null, .ref tl])), (kl, .inr (6, [.int 0, .ref (κ 0), .int 0])), (u0, .inl (cL, 1, .inr (.inl (fun _ => 0))))] H) (hD : va_D (LA s) [(h0, .inr (12, [.ref o0, .int 0, .ref g0, .ref o2, .ref o3, .ref o4, .ref o5, .int 0, .ref o6])), (g0, .inr (8, [.ref g1, .ref g2, .ref g3, .ref g4, .ref g5, .ref g6, .int 0, .int 0, .int 0, .int 0])), (m0, .inr (16, [.int 0, .ref kl, .null, .ref tl])), (kl, .inr (6, [.int 0, .ref (κ 0), .int 0])), (u0, .inl (cL, 1, .inr (.inl (fun _ => 0))))]) (hS : va_S (LA s) s.heap H locs) (hl : lv_has ls 9 [(0, .ref b), (1, .ref h0), (2, .ref m0), (3, .ref u0), (4, .ref w0), (5, .int 0)]) : W p l e room_1 s m #[Value.ref b] below meth c H locs 300 40000 (lw_Z below #[Value.ref b] s) (F0 m 1791 ls []) := by
  have C1 := C0
  obtain ⟨hl0, hx, hb, hr, hml, hown, hts, hX, hbl, hlocks, hE⟩ := C0
  have hA : ∀ q : Nat, s.heap.size ≤ q → LA s q := fun _ h => h
  have hbA : ¬ LA s b := Nat.not_le.mpr hbl
  refine lv_aload_n hx hb dL_law_1791 rfl (lv_at hl 1 rfl) ?_
  refine lv_aload_n hx hb dL_law_1792 rfl (lv_at hl 0 rfl) ?_
  refine lv_iload hx hb dL_law_1793 (lv_at hl 5 rfl) ?_
  refine lv_iconst (v := 1) hx hb dL_law_1795 (by decide) ?_
  refine lv_iadd hx hb dL_law_1796 ?_
  refine lv_topi (fun v_1 ev_1 => ?_)
  have ev_1 : v_1 = 1 := ev_1.trans (by decide)
  subst ev_1
  refine va_sld hx hb hX hbl hbA hS (i := 1) (by unfold vp_in; decide) dL_law_1797 ?_
  refine W.eq (g2 := F0 m 1798 ls [.int (xs 1), .ref h0]) rfl ?_
  refine lv_aload_n hx hb dL_law_1798 rfl (lv_at hl 3 rfl) ?_
  have hS0 := hS
  have hFc := va_free (wc := [(h0, .inr (12, [.ref o0, .int 0, .ref g0, .ref o2, .ref o3, .ref o4, .ref o5, .int 0, .ref o6])), (g0, .inr (8, [.ref g1, .ref g2, .ref g3, .ref g4, .ref g5, .ref g6, .int 0, .int 0, .int 0, .int 0])), (u0, .inl (cL, 1, .inr (.inl (fun _ => 0))))]) hD hS hA [0, 1, 4] rfl
  refine va_calli (vx_runSW (As := [.ref h0, .int (xs 1), .ref u0]) (rest := []) ⟨hx, hb, hml, hown, hts⟩ (c_L_isPuzzle l hl0 κ D (H).size (h0) (o0) (g0) (o2) (o3) (o4) (o5) (o6) (g1) (g2) (g3) (g4) (g5) (g6) ((xs 1)) (u0) (cL) ((fun _ => 0)) ) (vx_cwSW 3 hts gd_law_c_L_isPuzzle rfl rfl rfl (by decide +kernel) ⟨(Nat.le_of_ble_eq_true rfl), (Nat.le_of_ble_eq_true rfl)⟩) (preS hE hK hP hD hS hA [0, 1, 4] rfl (by decide) [0] rfl) rfl rfl hl.1 rfl (lv_room (Nat.le_of_ble_eq_true rfl)) dL_law_1799 ⟨(Nat.le_of_ble_eq_true rfl), (Nat.le_of_ble_eq_true rfl)⟩) hS (fun q _ h => hFc q h) hFc (fun r_2 u t H1 locs ht hvm hw hB hz1 hk1 hS => ?_)
  try dsimp only at hw
  obtain ⟨hP, hD, hK⟩ := jn (wc := [(h0, .inr (12, [.ref o0, .int 0, .ref g0, .ref o2, .ref o3, .ref o4, .ref o5, .int 0, .ref o6])), (g0, .inr (8, [.ref g1, .ref g2, .ref g3, .ref g4, .ref g5, .ref g6, .int 0, .int 0, .int 0, .int 0])), (u0, .inl (cL, 1, .inr (.inl (fun _ => 0))))]) (wr := [(m0, .inr (16, [.int 0, .ref kl, .null, .ref tl])), (kl, .inr (6, [.int 0, .ref (κ 0), .int 0]))]) (w1 := []) (t1 := []) hP hD hK hS0 hA [0, 1, 4] [2, 3] rfl rfl (by decide) (by decide) ht hvm hk1 hB
  generalize H1 = H at hP hS ⊢
  have hP : va_P D vwCl ([(m0, .inr (16, [.int 0, .ref kl, .null, .ref tl])), (kl, .inr (6, [.int 0, .ref (κ 0), .int 0]))]) H := hP
  have hD : va_D (LA s) ([(m0, .inr (16, [.int 0, .ref kl, .null, .ref tl])), (kl, .inr (6, [.int 0, .ref (κ 0), .int 0]))]) := hD
  have hK : va_K D vwCl [(cL, .long)] s := hK
  refine W.widen (k := 301) (n := 40006) (Nat.le_of_ble_eq_true rfl) (Nat.le_of_ble_eq_true rfl) ?_
  subst hw
  refine lv_istore (lv' := [(6, .int 1), (0, .ref b), (1, .ref h0), (2, .ref m0), (3, .ref u0), (4, .ref w0), (5, .int 0)]) hx hb dL_law_1802 hl (by decide) rfl (fun ls hl => ?_)
  refine lv_aload_n hx hb dL_law_1804 rfl (lv_at hl 3 rfl) ?_
  refine lv_aload_n hx hb dL_law_1805 rfl (lv_at hl 1 rfl) ?_
  refine lv_iload hx hb dL_law_1806 (lv_at hl 6 rfl) ?_
  refine lv_iconst (v := 1) hx hb dL_law_1808 (by decide) ?_
  refine lv_iadd hx hb dL_law_1809 ?_
  refine lv_topi (fun v_3 ev_3 => ?_)
  have ev_3 : v_3 = 1 := ev_3.trans (by decide)
  subst ev_3
  refine va_sld hx hb hX hbl hbA hS (i := 1) (by unfold vp_in; decide) dL_law_1810 ?_
  refine W.eq (g2 := F0 m 1811 ls [.int (xs 1), .ref m0]) rfl ?_
  have hS0 := hS
  have hFc := va_free (wc := [(m0, .inr (16, [.int 0, .ref kl, .null, .ref tl]))]) hD hS hA [0] rfl
  refine va_calli (va_runV (As := [.int (xs 1)]) (rest := []) ⟨hx, hb, hml, hown, hts⟩ (c_X9_isPuzzle l κ D (H).size (m0) (kl) (tl) ((xs 1)) ) (cwV 1 hts gd_law_c_X9_isPuzzle rfl rfl rfl (by decide +kernel) ⟨(Nat.le_of_ble_eq_true rfl), (Nat.le_of_ble_eq_true rfl)⟩) (preV hE hK hP hD hS hA [0] rfl (by decide) [] rfl (va_recv hK hP (ci := 16) (q0 := 0) rfl rfl)) rfl rfl hl.1 rfl (lv_room (Nat.le_of_ble_eq_true rfl)) dL_law_1811 ⟨(Nat.le_of_ble_eq_true rfl), (Nat.le_of_ble_eq_true rfl)⟩) hS (fun q _ h => hFc q h) hFc (fun r_4 u t H1 locs ht hvm hw hB hz1 hk1 hS => ?_)
  try dsimp only at hw
  obtain ⟨hP, hD, hK⟩ := jn (wc := [(m0, .inr (16, [.int 0, .ref kl, .null, .ref tl]))]) (wr := [(kl, .inr (6, [.int 0, .ref (κ 0), .int 0]))]) (w1 := [(m0, .inr (16, [.int 1, .ref kl, .null, .ref tl]))]) (t1 := []) hP hD hK hS0 hA [0] [1] rfl rfl (by decide) (by decide) ht hvm hk1 hB
  generalize H1 = H at hP hS ⊢
  have hP : va_P D vwCl ([(kl, .inr (6, [.int 0, .ref (κ 0), .int 0])), (m0, .inr (16, [.int 1, .ref kl, .null, .ref tl]))]) H := hP
  have hD : va_D (LA s) ([(kl, .inr (6, [.int 0, .ref (κ 0), .int 0])), (m0, .inr (16, [.int 1, .ref kl, .null, .ref tl]))]) := hD
  have hK : va_K D vwCl [(cL, .long)] s := hK
  refine W.widen (k := 301) (n := 40006) (Nat.le_of_ble_eq_true rfl) (Nat.le_of_ble_eq_true rfl) ?_
  refine lv_istore (lv' := [(7, .int r_4), (6, .int 1), (0, .ref b), (1, .ref h0), (2, .ref m0), (3, .ref u0), (4, .ref w0), (5, .int 0)]) hx hb dL_law_1814 hl (by decide) rfl (fun ls hl => ?_)
  refine lv_aload_n hx hb dL_law_1816 rfl (lv_at hl 4 rfl) ?_
  have hS0 := hS
  have hFc := va_free (wc := [(m0, .inr (16, [.int 1, .ref kl, .null, .ref tl]))]) hD hS hA [1] rfl
  refine va_calli (va_runV (As := []) (rest := []) ⟨hx, hb, hml, hown, hts⟩ (c_X9_thrown l κ D (H).size (m0) (kl) (tl) (1) ) (cwV 0 hts gd_law_c_X9_thrown rfl rfl rfl (by decide +kernel) ⟨(Nat.le_of_ble_eq_true rfl), (Nat.le_of_ble_eq_true rfl)⟩) (preV hE hK hP hD hS hA [1] rfl (by decide) [] rfl (va_recv hK hP (ci := 16) (q0 := 1) rfl rfl)) rfl rfl hl.1 rfl (lv_room (Nat.le_of_ble_eq_true rfl)) dL_law_1817 ⟨(Nat.le_of_ble_eq_true rfl), (Nat.le_of_ble_eq_true rfl)⟩) hS (fun q _ h => hFc q h) hFc (fun r_5 u t H1 locs ht hvm hw hB hz1 hk1 hS => ?_)
  try dsimp only at hw
  obtain ⟨hP, hD, hK⟩ := jn (wc := [(m0, .inr (16, [.int 1, .ref kl, .null, .ref tl]))]) (wr := [(kl, .inr (6, [.int 0, .ref (κ 0), .int 0]))]) (w1 := [(m0, .inr (16, [.int 1, .ref kl, .null, .ref tl]))]) (t1 := []) hP hD hK hS0 hA [1] [0] rfl rfl (by decide) (by decide) ht hvm hk1 hB
  generalize H1 = H at hP hS ⊢
  have hP : va_P D vwCl ([(kl, .inr (6, [.int 0, .ref (κ 0), .int 0])), (m0, .inr (16, [.int 1, .ref kl, .null, .ref tl]))]) H := hP
  have hD : va_D (LA s) ([(kl, .inr (6, [.int 0, .ref (κ 0), .int 0])), (m0, .inr (16, [.int 1, .ref kl, .null, .ref tl]))]) := hD
  have hK : va_K D vwCl [(cL, .long)] s := hK
  refine W.widen (k := 301) (n := 40006) (Nat.le_of_ble_eq_true rfl) (Nat.le_of_ble_eq_true rfl) ?_
  subst hw
  refine lv_iload hx hb dL_law_1820 (lv_at hl 1 rfl) ?_
  refine lv_icmp_eq (tgt := 1827) hx hb dL_law_1822 (by decide) (fun _ => ?_) (fun c_1822 => absurd c_1822 (by decide))
  refine lv_iload hx hb dL_law_1827 (lv_at hl 1 rfl) ?_
  refine lv_if_ne (tgt := 1851) hx hb dL_law_1829 (by decide) (fun _ => ?_) (fun c_1829 => absurd c_1829 (by decide))
  refine lv_goto (tgt := 2351) hx hb dL_law_1851 (by decide) ?_
  refine W.widen (k := 400) (n := 41000) (Nat.le_of_ble_eq_true rfl) (Nat.le_of_ble_eq_true rfl) ?_
  exact law_end C1 H locs ls hS (lv_sub hl [7, 2] rfl)

set_option maxHeartbeats 8000000 in
set_option maxRecDepth 100000 in
theorem law_play {p : Program} {l : Launch} {e : Env} {s : State} {m : MethodId} {below : List Frame} {meth : Method} {c : Code} {b : Nat} {xs : Nat → Int32} {κ : Nat → Nat} (C0 : law_At2 p l s m meth c b xs κ) {D : va_G} {h0 : Nat} {o0 : Nat} {g0 : Nat} {o2 : Nat} {o3 : Nat} {o4 : Nat} {o5 : Nat} {o6 : Nat} {g1 : Nat} {g2 : Nat} {g3 : Nat} {g4 : Nat} {g5 : Nat} {g6 : Nat} {m0 : Nat} {kl : Nat} {tl : Nat} {u0 : Nat} {w0 : Nat} {cL : ClassId}  (H : Heap) (locs : List Loc) (ls : Array Slot) (hK : va_K D vwCl [(cL, .long)] s) (hP : va_P D vwCl [(h0, .inr (12, [.ref o0, .int 0, .ref g0, .ref o2, .ref o3, .ref o4, .ref o5, .int 0, .ref o6])), (g0, .inr (8, [.ref g1, .ref g2, .ref g3, .ref g4, .ref g5, .ref g6, .int 0, .int 0, .int 0, .int 0])), (m0, .inr (16, [.int 0, .ref kl, .null, .ref tl])), (kl, .inr (6, [.int 0, .ref (κ 0), .int 0])), (u0, .inl (cL, 1, .inr (.inl (fun _ => 0))))] H) (hD : va_D (LA s) [(h0, .inr (12, [.ref o0, .int 0, .ref g0, .ref o2, .ref o3, .ref o4, .ref o5, .int 0, .ref o6])), (g0, .inr (8, [.ref g1, .ref g2, .ref g3, .ref g4, .ref g5, .ref g6, .int 0, .int 0, .int 0, .int 0])), (m0, .inr (16, [.int 0, .ref kl, .null, .ref tl])), (kl, .inr (6, [.int 0, .ref (κ 0), .int 0])), (u0, .inl (cL, 1, .inr (.inl (fun _ => 0))))]) (hS : va_S (LA s) s.heap H locs) (hl : lv_has ls 9 [(0, .ref b), (1, .ref h0), (2, .ref m0), (3, .ref u0), (4, .ref w0), (5, .int 0)]) : W p l e room_1 s m #[Value.ref b] below meth c H locs 300 40000 (lw_Z below #[Value.ref b] s) (F0 m 1854 ls []) := by
  have C1 := C0
  obtain ⟨hl0, hx, hb, hr, hml, hown, hts, hX, hbl, hlocks, hE⟩ := C0
  have hA : ∀ q : Nat, s.heap.size ≤ q → LA s q := fun _ h => h
  have hbA : ¬ LA s b := Nat.not_le.mpr hbl
  refine lv_aload_n hx hb dL_law_1854 rfl (lv_at hl 1 rfl) ?_
  refine lv_aload_n hx hb dL_law_1855 rfl (lv_at hl 0 rfl) ?_
  refine lv_iload hx hb dL_law_1856 (lv_at hl 5 rfl) ?_
  refine lv_iconst (v := 1) hx hb dL_law_1858 (by decide) ?_
  refine lv_iadd hx hb dL_law_1859 ?_
  refine lv_topi (fun v_1 ev_1 => ?_)
  have ev_1 : v_1 = 1 := ev_1.trans (by decide)
  subst ev_1
  refine va_sld hx hb hX hbl hbA hS (i := 1) (by unfold vp_in; decide) dL_law_1860 ?_
  refine W.eq (g2 := F0 m 1861 ls [.int (xs 1), .ref h0]) rfl ?_
  refine lv_aload_n hx hb dL_law_1861 rfl (lv_at hl 0 rfl) ?_
  refine lv_iload hx hb dL_law_1862 (lv_at hl 5 rfl) ?_
  refine lv_iconst (v := 2) hx hb dL_law_1864 (by decide) ?_
  refine lv_iadd hx hb dL_law_1865 ?_
  refine lv_topi (fun v_2 ev_2 => ?_)
  have ev_2 : v_2 = 2 := ev_2.trans (by decide)
  subst ev_2
  refine va_sld hx hb hX hbl hbA hS (i := 2) (by unfold vp_in; decide) dL_law_1866 ?_
  refine W.eq (g2 := F0 m 1867 ls [.int (xs 2), .int (xs 1), .ref h0]) rfl ?_
  refine lv_i2c (v := (chr9 (xs 2))) hx hb dL_law_1867 rfl ?_
  refine lv_aload_n hx hb dL_law_1868 rfl (lv_at hl 3 rfl) ?_
  have hS0 := hS
  have hFc := va_free (wc := [(h0, .inr (12, [.ref o0, .int 0, .ref g0, .ref o2, .ref o3, .ref o4, .ref o5, .int 0, .ref o6])), (u0, .inl (cL, 1, .inr (.inl (fun _ => 0))))]) hD hS hA [0, 4] rfl
  refine va_calli (vx_runSW (As := [.ref h0, .int (xs 1), .int (chr9 (xs 2)), .ref u0]) (rest := []) ⟨hx, hb, hml, hown, hts⟩ (c_L_play l hl0 κ D (H).size (h0) (o0) (g0) (o2) (o3) (o4) (o5) (o6) ((xs 1)) ((chr9 (xs 2))) (u0) (cL) ((fun _ => 0)) ) (vx_cwSW 4 hts gd_law_c_L_play rfl rfl rfl (by decide +kernel) ⟨(Nat.le_of_ble_eq_true rfl), (Nat.le_of_ble_eq_true rfl)⟩) (preS hE hK hP hD hS hA [0, 4] rfl (by decide) [0] rfl) rfl rfl hl.1 rfl (lv_room (Nat.le_of_ble_eq_true rfl)) dL_law_1869 ⟨(Nat.le_of_ble_eq_true rfl), (Nat.le_of_ble_eq_true rfl)⟩) hS (fun q _ h => hFc q h) hFc (fun r_3 u t H1 locs ht hvm hw hB hz1 hk1 hS => ?_)
  try dsimp only at hw
  obtain ⟨hP, hD, hK⟩ := jn (wc := [(h0, .inr (12, [.ref o0, .int 0, .ref g0, .ref o2, .ref o3, .ref o4, .ref o5, .int 0, .ref o6])), (u0, .inl (cL, 1, .inr (.inl (fun _ => 0))))]) (wr := [(g0, .inr (8, [.ref g1, .ref g2, .ref g3, .ref g4, .ref g5, .ref g6, .int 0, .int 0, .int 0, .int 0])), (m0, .inr (16, [.int 0, .ref kl, .null, .ref tl])), (kl, .inr (6, [.int 0, .ref (κ 0), .int 0]))]) (w1 := []) (t1 := []) hP hD hK hS0 hA [0, 4] [1, 2, 3] rfl rfl (by decide) (by decide) ht hvm hk1 hB
  generalize H1 = H at hP hS ⊢
  have hP : va_P D vwCl ([(g0, .inr (8, [.ref g1, .ref g2, .ref g3, .ref g4, .ref g5, .ref g6, .int 0, .int 0, .int 0, .int 0])), (m0, .inr (16, [.int 0, .ref kl, .null, .ref tl])), (kl, .inr (6, [.int 0, .ref (κ 0), .int 0]))]) H := hP
  have hD : va_D (LA s) ([(g0, .inr (8, [.ref g1, .ref g2, .ref g3, .ref g4, .ref g5, .ref g6, .int 0, .int 0, .int 0, .int 0])), (m0, .inr (16, [.int 0, .ref kl, .null, .ref tl])), (kl, .inr (6, [.int 0, .ref (κ 0), .int 0]))]) := hD
  have hK : va_K D vwCl [(cL, .long)] s := hK
  refine W.widen (k := 301) (n := 40006) (Nat.le_of_ble_eq_true rfl) (Nat.le_of_ble_eq_true rfl) ?_
  subst hw
  refine lv_istore (lv' := [(6, .int 1), (0, .ref b), (1, .ref h0), (2, .ref m0), (3, .ref u0), (4, .ref w0), (5, .int 0)]) hx hb dL_law_1872 hl (by decide) rfl (fun ls hl => ?_)
  refine lv_aload_n hx hb dL_law_1874 rfl (lv_at hl 3 rfl) ?_
  refine lv_aload_n hx hb dL_law_1875 rfl (lv_at hl 1 rfl) ?_
  refine lv_iload hx hb dL_law_1876 (lv_at hl 6 rfl) ?_
  refine lv_iconst (v := 1) hx hb dL_law_1878 (by decide) ?_
  refine lv_iadd hx hb dL_law_1879 ?_
  refine lv_topi (fun v_4 ev_4 => ?_)
  have ev_4 : v_4 = 1 := ev_4.trans (by decide)
  subst ev_4
  refine va_sld hx hb hX hbl hbA hS (i := 1) (by unfold vp_in; decide) dL_law_1880 ?_
  refine W.eq (g2 := F0 m 1881 ls [.int (xs 1), .ref m0]) rfl ?_
  refine lv_aload_n hx hb dL_law_1881 rfl (lv_at hl 1 rfl) ?_
  refine lv_iload hx hb dL_law_1882 (lv_at hl 6 rfl) ?_
  refine lv_iconst (v := 2) hx hb dL_law_1884 (by decide) ?_
  refine lv_iadd hx hb dL_law_1885 ?_
  refine lv_topi (fun v_5 ev_5 => ?_)
  have ev_5 : v_5 = 2 := ev_5.trans (by decide)
  subst ev_5
  refine va_sld hx hb hX hbl hbA hS (i := 2) (by unfold vp_in; decide) dL_law_1886 ?_
  refine W.eq (g2 := F0 m 1887 ls [.int (xs 2), .int (xs 1), .ref m0]) rfl ?_
  refine lv_i2c (v := (chr9 (xs 2))) hx hb dL_law_1887 rfl ?_
  have hS0 := hS
  have hFc := va_free (wc := [(m0, .inr (16, [.int 0, .ref kl, .null, .ref tl])), (kl, .inr (6, [.int 0, .ref (κ 0), .int 0]))]) hD hS hA [1, 2] rfl
  refine va_calli (va_runV (As := [.int (xs 1), .int (chr9 (xs 2))]) (rest := []) ⟨hx, hb, hml, hown, hts⟩ (c_X9_play l κ D (H).size (m0) (kl) (tl) ((xs 1)) ((chr9 (xs 2))) ) (cwV 2 hts gd_law_c_X9_play rfl rfl rfl (by decide +kernel) ⟨(Nat.le_of_ble_eq_true rfl), (Nat.le_of_ble_eq_true rfl)⟩) (preV hE hK hP hD hS hA [1, 2] rfl (by decide) [] rfl (va_recv hK hP (ci := 16) (q0 := 1) rfl rfl)) rfl rfl hl.1 rfl (lv_room (Nat.le_of_ble_eq_true rfl)) dL_law_1888 ⟨(Nat.le_of_ble_eq_true rfl), (Nat.le_of_ble_eq_true rfl)⟩) hS (fun q _ h => hFc q h) hFc (fun r_6 u t H1 locs ht hvm hw hB hz1 hk1 hS => ?_)
  try dsimp only at hw
  obtain ⟨hP, hD, hK⟩ := jn (wc := [(m0, .inr (16, [.int 0, .ref kl, .null, .ref tl])), (kl, .inr (6, [.int 0, .ref (κ 0), .int 0]))]) (wr := [(g0, .inr (8, [.ref g1, .ref g2, .ref g3, .ref g4, .ref g5, .ref g6, .int 0, .int 0, .int 0, .int 0]))]) (w1 := [(m0, .inr (16, [.int 1, .ref kl, .null, .ref tl]))]) (t1 := []) hP hD hK hS0 hA [1, 2] [0] rfl rfl (by decide) (by decide) ht hvm hk1 hB
  generalize H1 = H at hP hS ⊢
  have hP : va_P D vwCl ([(g0, .inr (8, [.ref g1, .ref g2, .ref g3, .ref g4, .ref g5, .ref g6, .int 0, .int 0, .int 0, .int 0])), (m0, .inr (16, [.int 1, .ref kl, .null, .ref tl]))]) H := hP
  have hD : va_D (LA s) ([(g0, .inr (8, [.ref g1, .ref g2, .ref g3, .ref g4, .ref g5, .ref g6, .int 0, .int 0, .int 0, .int 0])), (m0, .inr (16, [.int 1, .ref kl, .null, .ref tl]))]) := hD
  have hK : va_K D vwCl [(cL, .long)] s := hK
  refine W.widen (k := 301) (n := 40006) (Nat.le_of_ble_eq_true rfl) (Nat.le_of_ble_eq_true rfl) ?_
  refine lv_istore (lv' := [(7, .int r_6), (6, .int 1), (0, .ref b), (1, .ref h0), (2, .ref m0), (3, .ref u0), (4, .ref w0), (5, .int 0)]) hx hb dL_law_1891 hl (by decide) rfl (fun ls hl => ?_)
  refine lv_aload_n hx hb dL_law_1893 rfl (lv_at hl 4 rfl) ?_
  have hS0 := hS
  have hFc := va_free (wc := [(m0, .inr (16, [.int 1, .ref kl, .null, .ref tl]))]) hD hS hA [1] rfl
  refine va_calli (va_runV (As := []) (rest := []) ⟨hx, hb, hml, hown, hts⟩ (c_X9_thrown l κ D (H).size (m0) (kl) (tl) (1) ) (cwV 0 hts gd_law_c_X9_thrown rfl rfl rfl (by decide +kernel) ⟨(Nat.le_of_ble_eq_true rfl), (Nat.le_of_ble_eq_true rfl)⟩) (preV hE hK hP hD hS hA [1] rfl (by decide) [] rfl (va_recv hK hP (ci := 16) (q0 := 1) rfl rfl)) rfl rfl hl.1 rfl (lv_room (Nat.le_of_ble_eq_true rfl)) dL_law_1894 ⟨(Nat.le_of_ble_eq_true rfl), (Nat.le_of_ble_eq_true rfl)⟩) hS (fun q _ h => hFc q h) hFc (fun r_7 u t H1 locs ht hvm hw hB hz1 hk1 hS => ?_)
  try dsimp only at hw
  obtain ⟨hP, hD, hK⟩ := jn (wc := [(m0, .inr (16, [.int 1, .ref kl, .null, .ref tl]))]) (wr := [(g0, .inr (8, [.ref g1, .ref g2, .ref g3, .ref g4, .ref g5, .ref g6, .int 0, .int 0, .int 0, .int 0]))]) (w1 := [(m0, .inr (16, [.int 1, .ref kl, .null, .ref tl]))]) (t1 := []) hP hD hK hS0 hA [1] [0] rfl rfl (by decide) (by decide) ht hvm hk1 hB
  generalize H1 = H at hP hS ⊢
  have hP : va_P D vwCl ([(g0, .inr (8, [.ref g1, .ref g2, .ref g3, .ref g4, .ref g5, .ref g6, .int 0, .int 0, .int 0, .int 0])), (m0, .inr (16, [.int 1, .ref kl, .null, .ref tl]))]) H := hP
  have hD : va_D (LA s) ([(g0, .inr (8, [.ref g1, .ref g2, .ref g3, .ref g4, .ref g5, .ref g6, .int 0, .int 0, .int 0, .int 0])), (m0, .inr (16, [.int 1, .ref kl, .null, .ref tl]))]) := hD
  have hK : va_K D vwCl [(cL, .long)] s := hK
  refine W.widen (k := 301) (n := 40006) (Nat.le_of_ble_eq_true rfl) (Nat.le_of_ble_eq_true rfl) ?_
  subst hw
  refine lv_iload hx hb dL_law_1897 (lv_at hl 1 rfl) ?_
  refine lv_icmp_eq (tgt := 1904) hx hb dL_law_1899 (by decide) (fun _ => ?_) (fun c_1899 => absurd c_1899 (by decide))
  refine lv_iload hx hb dL_law_1904 (lv_at hl 1 rfl) ?_
  refine lv_if_ne (tgt := 1921) hx hb dL_law_1906 (by decide) (fun _ => ?_) (fun c_1906 => absurd c_1906 (by decide))
  refine lv_goto (tgt := 2351) hx hb dL_law_1921 (by decide) ?_
  refine W.widen (k := 400) (n := 41000) (Nat.le_of_ble_eq_true rfl) (Nat.le_of_ble_eq_true rfl) ?_
  exact law_end C1 H locs ls hS (lv_sub hl [7, 2] rfl)

set_option maxHeartbeats 8000000 in
set_option maxRecDepth 100000 in
theorem law_explains {p : Program} {l : Launch} {e : Env} {s : State} {m : MethodId} {below : List Frame} {meth : Method} {c : Code} {b : Nat} {xs : Nat → Int32} {κ : Nat → Nat} (C0 : law_At2 p l s m meth c b xs κ) {D : va_G} {h0 : Nat} {o0 : Nat} {g0 : Nat} {o2 : Nat} {o3 : Nat} {o4 : Nat} {o5 : Nat} {o6 : Nat} {g1 : Nat} {g2 : Nat} {g3 : Nat} {g4 : Nat} {g5 : Nat} {g6 : Nat} {m0 : Nat} {kl : Nat} {tl : Nat} {u0 : Nat} {w0 : Nat} {cL : ClassId}  (H : Heap) (locs : List Loc) (ls : Array Slot) (hK : va_K D vwCl [(cL, .long)] s) (hP : va_P D vwCl [(h0, .inr (12, [.ref o0, .int 0, .ref g0, .ref o2, .ref o3, .ref o4, .ref o5, .int 0, .ref o6])), (g0, .inr (8, [.ref g1, .ref g2, .ref g3, .ref g4, .ref g5, .ref g6, .int 0, .int 0, .int 0, .int 0])), (m0, .inr (16, [.int 0, .ref kl, .null, .ref tl])), (kl, .inr (6, [.int 0, .ref (κ 0), .int 0])), (u0, .inl (cL, 1, .inr (.inl (fun _ => 0))))] H) (hD : va_D (LA s) [(h0, .inr (12, [.ref o0, .int 0, .ref g0, .ref o2, .ref o3, .ref o4, .ref o5, .int 0, .ref o6])), (g0, .inr (8, [.ref g1, .ref g2, .ref g3, .ref g4, .ref g5, .ref g6, .int 0, .int 0, .int 0, .int 0])), (m0, .inr (16, [.int 0, .ref kl, .null, .ref tl])), (kl, .inr (6, [.int 0, .ref (κ 0), .int 0])), (u0, .inl (cL, 1, .inr (.inl (fun _ => 0))))]) (hS : va_S (LA s) s.heap H locs) (hl : lv_has ls 9 [(0, .ref b), (1, .ref h0), (2, .ref m0), (3, .ref u0), (4, .ref w0), (5, .int 0)]) : W p l e room_1 s m #[Value.ref b] below meth c H locs 300 40000 (lw_Z below #[Value.ref b] s) (F0 m 1993 ls []) := by
  have C1 := C0
  obtain ⟨hl0, hx, hb, hr, hml, hown, hts, hX, hbl, hlocks, hE⟩ := C0
  have hA : ∀ q : Nat, s.heap.size ≤ q → LA s q := fun _ h => h
  have hbA : ¬ LA s b := Nat.not_le.mpr hbl
  refine lv_aload_n hx hb dL_law_1993 rfl (lv_at hl 1 rfl) ?_
  refine lv_aload_n hx hb dL_law_1994 rfl (lv_at hl 0 rfl) ?_
  refine lv_iload hx hb dL_law_1995 (lv_at hl 5 rfl) ?_
  refine lv_iconst (v := 1) hx hb dL_law_1997 (by decide) ?_
  refine lv_iadd hx hb dL_law_1998 ?_
  refine lv_topi (fun v_1 ev_1 => ?_)
  have ev_1 : v_1 = 1 := ev_1.trans (by decide)
  subst ev_1
  refine va_sld hx hb hX hbl hbA hS (i := 1) (by unfold vp_in; decide) dL_law_1999 ?_
  refine W.eq (g2 := F0 m 2000 ls [.int (xs 1), .ref h0]) rfl ?_
  refine lv_aload_n hx hb dL_law_2000 rfl (lv_at hl 3 rfl) ?_
  have hS0 := hS
  have hFc := va_free (wc := [(h0, .inr (12, [.ref o0, .int 0, .ref g0, .ref o2, .ref o3, .ref o4, .ref o5, .int 0, .ref o6])), (u0, .inl (cL, 1, .inr (.inl (fun _ => 0))))]) hD hS hA [0, 4] rfl
  refine va_calli (vx_runSW (As := [.ref h0, .int (xs 1), .ref u0]) (rest := []) ⟨hx, hb, hml, hown, hts⟩ (c_L_explains l hl0 κ D (H).size (h0) (o0) (g0) (o2) (o3) (o4) (o5) (o6) ((xs 1)) (u0) (cL) ((fun _ => 0)) ) (vx_cwSW 3 hts gd_law_c_L_explains rfl rfl rfl (by decide +kernel) ⟨(Nat.le_of_ble_eq_true rfl), (Nat.le_of_ble_eq_true rfl)⟩) (preS hE hK hP hD hS hA [0, 4] rfl (by decide) [0] rfl) rfl rfl hl.1 rfl (lv_room (Nat.le_of_ble_eq_true rfl)) dL_law_2001 ⟨(Nat.le_of_ble_eq_true rfl), (Nat.le_of_ble_eq_true rfl)⟩) hS (fun q _ h => hFc q h) hFc (fun r_2 u t H1 locs ht hvm hw hB hz1 hk1 hS => ?_)
  try dsimp only at hw
  obtain ⟨hP, hD, hK⟩ := jn (wc := [(h0, .inr (12, [.ref o0, .int 0, .ref g0, .ref o2, .ref o3, .ref o4, .ref o5, .int 0, .ref o6])), (u0, .inl (cL, 1, .inr (.inl (fun _ => 0))))]) (wr := [(g0, .inr (8, [.ref g1, .ref g2, .ref g3, .ref g4, .ref g5, .ref g6, .int 0, .int 0, .int 0, .int 0])), (m0, .inr (16, [.int 0, .ref kl, .null, .ref tl])), (kl, .inr (6, [.int 0, .ref (κ 0), .int 0]))]) (w1 := []) (t1 := []) hP hD hK hS0 hA [0, 4] [1, 2, 3] rfl rfl (by decide) (by decide) ht hvm hk1 hB
  generalize H1 = H at hP hS ⊢
  have hP : va_P D vwCl ([(g0, .inr (8, [.ref g1, .ref g2, .ref g3, .ref g4, .ref g5, .ref g6, .int 0, .int 0, .int 0, .int 0])), (m0, .inr (16, [.int 0, .ref kl, .null, .ref tl])), (kl, .inr (6, [.int 0, .ref (κ 0), .int 0]))]) H := hP
  have hD : va_D (LA s) ([(g0, .inr (8, [.ref g1, .ref g2, .ref g3, .ref g4, .ref g5, .ref g6, .int 0, .int 0, .int 0, .int 0])), (m0, .inr (16, [.int 0, .ref kl, .null, .ref tl])), (kl, .inr (6, [.int 0, .ref (κ 0), .int 0]))]) := hD
  have hK : va_K D vwCl [(cL, .long)] s := hK
  refine W.widen (k := 301) (n := 40006) (Nat.le_of_ble_eq_true rfl) (Nat.le_of_ble_eq_true rfl) ?_
  subst hw
  refine lv_istore (lv' := [(6, .int 1), (0, .ref b), (1, .ref h0), (2, .ref m0), (3, .ref u0), (4, .ref w0), (5, .int 0)]) hx hb dL_law_2004 hl (by decide) rfl (fun ls hl => ?_)
  refine lv_aload_n hx hb dL_law_2006 rfl (lv_at hl 3 rfl) ?_
  refine lv_aload_n hx hb dL_law_2007 rfl (lv_at hl 1 rfl) ?_
  refine lv_iload hx hb dL_law_2008 (lv_at hl 6 rfl) ?_
  refine lv_iconst (v := 1) hx hb dL_law_2010 (by decide) ?_
  refine lv_iadd hx hb dL_law_2011 ?_
  refine lv_topi (fun v_3 ev_3 => ?_)
  have ev_3 : v_3 = 1 := ev_3.trans (by decide)
  subst ev_3
  refine va_sld hx hb hX hbl hbA hS (i := 1) (by unfold vp_in; decide) dL_law_2012 ?_
  refine W.eq (g2 := F0 m 2013 ls [.int (xs 1), .ref m0]) rfl ?_
  have hS0 := hS
  have hFc := va_free (wc := [(m0, .inr (16, [.int 0, .ref kl, .null, .ref tl])), (kl, .inr (6, [.int 0, .ref (κ 0), .int 0]))]) hD hS hA [1, 2] rfl
  refine va_calli (va_runV (As := [.int (xs 1)]) (rest := []) ⟨hx, hb, hml, hown, hts⟩ (c_X9_explains l κ D (H).size (m0) (kl) (tl) ((xs 1)) ) (cwV 1 hts gd_law_c_X9_explains rfl rfl rfl (by decide +kernel) ⟨(Nat.le_of_ble_eq_true rfl), (Nat.le_of_ble_eq_true rfl)⟩) (preV hE hK hP hD hS hA [1, 2] rfl (by decide) [] rfl (va_recv hK hP (ci := 16) (q0 := 1) rfl rfl)) rfl rfl hl.1 rfl (lv_room (Nat.le_of_ble_eq_true rfl)) dL_law_2013 ⟨(Nat.le_of_ble_eq_true rfl), (Nat.le_of_ble_eq_true rfl)⟩) hS (fun q _ h => hFc q h) hFc (fun r_4 u t H1 locs ht hvm hw hB hz1 hk1 hS => ?_)
  try dsimp only at hw
  obtain ⟨hP, hD, hK⟩ := jn (wc := [(m0, .inr (16, [.int 0, .ref kl, .null, .ref tl])), (kl, .inr (6, [.int 0, .ref (κ 0), .int 0]))]) (wr := [(g0, .inr (8, [.ref g1, .ref g2, .ref g3, .ref g4, .ref g5, .ref g6, .int 0, .int 0, .int 0, .int 0]))]) (w1 := [(m0, .inr (16, [.int 1, .ref kl, .null, .ref tl]))]) (t1 := []) hP hD hK hS0 hA [1, 2] [0] rfl rfl (by decide) (by decide) ht hvm hk1 hB
  generalize H1 = H at hP hS ⊢
  have hP : va_P D vwCl ([(g0, .inr (8, [.ref g1, .ref g2, .ref g3, .ref g4, .ref g5, .ref g6, .int 0, .int 0, .int 0, .int 0])), (m0, .inr (16, [.int 1, .ref kl, .null, .ref tl]))]) H := hP
  have hD : va_D (LA s) ([(g0, .inr (8, [.ref g1, .ref g2, .ref g3, .ref g4, .ref g5, .ref g6, .int 0, .int 0, .int 0, .int 0])), (m0, .inr (16, [.int 1, .ref kl, .null, .ref tl]))]) := hD
  have hK : va_K D vwCl [(cL, .long)] s := hK
  refine W.widen (k := 301) (n := 40006) (Nat.le_of_ble_eq_true rfl) (Nat.le_of_ble_eq_true rfl) ?_
  refine lv_istore (lv' := [(7, .int r_4), (6, .int 1), (0, .ref b), (1, .ref h0), (2, .ref m0), (3, .ref u0), (4, .ref w0), (5, .int 0)]) hx hb dL_law_2016 hl (by decide) rfl (fun ls hl => ?_)
  refine lv_aload_n hx hb dL_law_2018 rfl (lv_at hl 4 rfl) ?_
  have hS0 := hS
  have hFc := va_free (wc := [(m0, .inr (16, [.int 1, .ref kl, .null, .ref tl]))]) hD hS hA [1] rfl
  refine va_calli (va_runV (As := []) (rest := []) ⟨hx, hb, hml, hown, hts⟩ (c_X9_thrown l κ D (H).size (m0) (kl) (tl) (1) ) (cwV 0 hts gd_law_c_X9_thrown rfl rfl rfl (by decide +kernel) ⟨(Nat.le_of_ble_eq_true rfl), (Nat.le_of_ble_eq_true rfl)⟩) (preV hE hK hP hD hS hA [1] rfl (by decide) [] rfl (va_recv hK hP (ci := 16) (q0 := 1) rfl rfl)) rfl rfl hl.1 rfl (lv_room (Nat.le_of_ble_eq_true rfl)) dL_law_2019 ⟨(Nat.le_of_ble_eq_true rfl), (Nat.le_of_ble_eq_true rfl)⟩) hS (fun q _ h => hFc q h) hFc (fun r_5 u t H1 locs ht hvm hw hB hz1 hk1 hS => ?_)
  try dsimp only at hw
  obtain ⟨hP, hD, hK⟩ := jn (wc := [(m0, .inr (16, [.int 1, .ref kl, .null, .ref tl]))]) (wr := [(g0, .inr (8, [.ref g1, .ref g2, .ref g3, .ref g4, .ref g5, .ref g6, .int 0, .int 0, .int 0, .int 0]))]) (w1 := [(m0, .inr (16, [.int 1, .ref kl, .null, .ref tl]))]) (t1 := []) hP hD hK hS0 hA [1] [0] rfl rfl (by decide) (by decide) ht hvm hk1 hB
  generalize H1 = H at hP hS ⊢
  have hP : va_P D vwCl ([(g0, .inr (8, [.ref g1, .ref g2, .ref g3, .ref g4, .ref g5, .ref g6, .int 0, .int 0, .int 0, .int 0])), (m0, .inr (16, [.int 1, .ref kl, .null, .ref tl]))]) H := hP
  have hD : va_D (LA s) ([(g0, .inr (8, [.ref g1, .ref g2, .ref g3, .ref g4, .ref g5, .ref g6, .int 0, .int 0, .int 0, .int 0])), (m0, .inr (16, [.int 1, .ref kl, .null, .ref tl]))]) := hD
  have hK : va_K D vwCl [(cL, .long)] s := hK
  refine W.widen (k := 301) (n := 40006) (Nat.le_of_ble_eq_true rfl) (Nat.le_of_ble_eq_true rfl) ?_
  subst hw
  refine lv_iload hx hb dL_law_2022 (lv_at hl 1 rfl) ?_
  refine lv_icmp_eq (tgt := 2029) hx hb dL_law_2024 (by decide) (fun _ => ?_) (fun c_2024 => absurd c_2024 (by decide))
  refine lv_iload hx hb dL_law_2029 (lv_at hl 1 rfl) ?_
  refine lv_if_ne (tgt := 2046) hx hb dL_law_2031 (by decide) (fun _ => ?_) (fun c_2031 => absurd c_2031 (by decide))
  refine lv_goto (tgt := 2351) hx hb dL_law_2046 (by decide) ?_
  refine W.widen (k := 400) (n := 41000) (Nat.le_of_ble_eq_true rfl) (Nat.le_of_ble_eq_true rfl) ?_
  exact law_end C1 H locs ls hS (lv_sub hl [7, 2] rfl)

set_option maxHeartbeats 8000000 in
set_option maxRecDepth 100000 in
theorem law_explainer {p : Program} {l : Launch} {e : Env} {s : State} {m : MethodId} {below : List Frame} {meth : Method} {c : Code} {b : Nat} {xs : Nat → Int32} {κ : Nat → Nat} (C0 : law_At2 p l s m meth c b xs κ) {D : va_G} {h0 : Nat} {o0 : Nat} {g0 : Nat} {o2 : Nat} {o3 : Nat} {o4 : Nat} {o5 : Nat} {o6 : Nat} {g1 : Nat} {g2 : Nat} {g3 : Nat} {g4 : Nat} {g5 : Nat} {g6 : Nat} {m0 : Nat} {kl : Nat} {tl : Nat} {u0 : Nat} {w0 : Nat} {cL : ClassId}  (H : Heap) (locs : List Loc) (ls : Array Slot) (hK : va_K D vwCl [(cL, .long)] s) (hP : va_P D vwCl [(h0, .inr (12, [.ref o0, .int 0, .ref g0, .ref o2, .ref o3, .ref o4, .ref o5, .int 0, .ref o6])), (g0, .inr (8, [.ref g1, .ref g2, .ref g3, .ref g4, .ref g5, .ref g6, .int 0, .int 0, .int 0, .int 0])), (m0, .inr (16, [.int 0, .ref kl, .null, .ref tl])), (kl, .inr (6, [.int 0, .ref (κ 0), .int 0])), (u0, .inl (cL, 1, .inr (.inl (fun _ => 0))))] H) (hD : va_D (LA s) [(h0, .inr (12, [.ref o0, .int 0, .ref g0, .ref o2, .ref o3, .ref o4, .ref o5, .int 0, .ref o6])), (g0, .inr (8, [.ref g1, .ref g2, .ref g3, .ref g4, .ref g5, .ref g6, .int 0, .int 0, .int 0, .int 0])), (m0, .inr (16, [.int 0, .ref kl, .null, .ref tl])), (kl, .inr (6, [.int 0, .ref (κ 0), .int 0])), (u0, .inl (cL, 1, .inr (.inl (fun _ => 0))))]) (hS : va_S (LA s) s.heap H locs) (hl : lv_has ls 9 [(0, .ref b), (1, .ref h0), (2, .ref m0), (3, .ref u0), (4, .ref w0), (5, .int 0)]) : W p l e room_1 s m #[Value.ref b] below meth c H locs 300 40000 (lw_Z below #[Value.ref b] s) (F0 m 2049 ls []) := by
  have C1 := C0
  obtain ⟨hl0, hx, hb, hr, hml, hown, hts, hX, hbl, hlocks, hE⟩ := C0
  have hA : ∀ q : Nat, s.heap.size ≤ q → LA s q := fun _ h => h
  have hbA : ¬ LA s b := Nat.not_le.mpr hbl
  refine lv_aload_n hx hb dL_law_2049 rfl (lv_at hl 1 rfl) ?_
  refine lv_aload_n hx hb dL_law_2050 rfl (lv_at hl 3 rfl) ?_
  have hS0 := hS
  have hFc := va_free (wc := [(h0, .inr (12, [.ref o0, .int 0, .ref g0, .ref o2, .ref o3, .ref o4, .ref o5, .int 0, .ref o6])), (u0, .inl (cL, 1, .inr (.inl (fun _ => 0))))]) hD hS hA [0, 4] rfl
  refine va_calli (vx_runSW (As := [.ref h0, .ref u0]) (rest := []) ⟨hx, hb, hml, hown, hts⟩ (c_L_explainer l hl0 κ D (H).size (h0) (o0) (g0) (o2) (o3) (o4) (o5) (o6) (u0) (cL) ((fun _ => 0)) ) (vx_cwSW 2 hts gd_law_c_L_explainer rfl rfl rfl (by decide +kernel) ⟨(Nat.le_of_ble_eq_true rfl), (Nat.le_of_ble_eq_true rfl)⟩) (preS hE hK hP hD hS hA [0, 4] rfl (by decide) [0] rfl) rfl rfl hl.1 rfl (lv_room (Nat.le_of_ble_eq_true rfl)) dL_law_2051 ⟨(Nat.le_of_ble_eq_true rfl), (Nat.le_of_ble_eq_true rfl)⟩) hS (fun q _ h => hFc q h) hFc (fun r_1 u t H1 locs ht hvm hw hB hz1 hk1 hS => ?_)
  try dsimp only at hw
  obtain ⟨hP, hD, hK⟩ := jn (wc := [(h0, .inr (12, [.ref o0, .int 0, .ref g0, .ref o2, .ref o3, .ref o4, .ref o5, .int 0, .ref o6])), (u0, .inl (cL, 1, .inr (.inl (fun _ => 0))))]) (wr := [(g0, .inr (8, [.ref g1, .ref g2, .ref g3, .ref g4, .ref g5, .ref g6, .int 0, .int 0, .int 0, .int 0])), (m0, .inr (16, [.int 0, .ref kl, .null, .ref tl])), (kl, .inr (6, [.int 0, .ref (κ 0), .int 0]))]) (w1 := []) (t1 := []) hP hD hK hS0 hA [0, 4] [1, 2, 3] rfl rfl (by decide) (by decide) ht hvm hk1 hB
  generalize H1 = H at hP hS ⊢
  have hP : va_P D vwCl ([(g0, .inr (8, [.ref g1, .ref g2, .ref g3, .ref g4, .ref g5, .ref g6, .int 0, .int 0, .int 0, .int 0])), (m0, .inr (16, [.int 0, .ref kl, .null, .ref tl])), (kl, .inr (6, [.int 0, .ref (κ 0), .int 0]))]) H := hP
  have hD : va_D (LA s) ([(g0, .inr (8, [.ref g1, .ref g2, .ref g3, .ref g4, .ref g5, .ref g6, .int 0, .int 0, .int 0, .int 0])), (m0, .inr (16, [.int 0, .ref kl, .null, .ref tl])), (kl, .inr (6, [.int 0, .ref (κ 0), .int 0]))]) := hD
  have hK : va_K D vwCl [(cL, .long)] s := hK
  refine W.widen (k := 301) (n := 40006) (Nat.le_of_ble_eq_true rfl) (Nat.le_of_ble_eq_true rfl) ?_
  subst hw
  refine lv_istore (lv' := [(6, .int 1), (0, .ref b), (1, .ref h0), (2, .ref m0), (3, .ref u0), (4, .ref w0), (5, .int 0)]) hx hb dL_law_2054 hl (by decide) rfl (fun ls hl => ?_)
  refine lv_aload_n hx hb dL_law_2056 rfl (lv_at hl 3 rfl) ?_
  have hS0 := hS
  have hFc := va_free (wc := [(m0, .inr (16, [.int 0, .ref kl, .null, .ref tl])), (kl, .inr (6, [.int 0, .ref (κ 0), .int 0]))]) hD hS hA [1, 2] rfl
  refine va_calli (va_runV (As := []) (rest := []) ⟨hx, hb, hml, hown, hts⟩ (c_X9_explainer l κ D (H).size (m0) (kl) (tl) ) (cwV 0 hts gd_law_c_X9_explainer rfl rfl rfl (by decide +kernel) ⟨(Nat.le_of_ble_eq_true rfl), (Nat.le_of_ble_eq_true rfl)⟩) (preV hE hK hP hD hS hA [1, 2] rfl (by decide) [] rfl (va_recv hK hP (ci := 16) (q0 := 1) rfl rfl)) rfl rfl hl.1 rfl (lv_room (Nat.le_of_ble_eq_true rfl)) dL_law_2057 ⟨(Nat.le_of_ble_eq_true rfl), (Nat.le_of_ble_eq_true rfl)⟩) hS (fun q _ h => hFc q h) hFc (fun r_2 u t H1 locs ht hvm hw hB hz1 hk1 hS => ?_)
  try dsimp only at hw
  obtain ⟨hP, hD, hK⟩ := jn (wc := [(m0, .inr (16, [.int 0, .ref kl, .null, .ref tl])), (kl, .inr (6, [.int 0, .ref (κ 0), .int 0]))]) (wr := [(g0, .inr (8, [.ref g1, .ref g2, .ref g3, .ref g4, .ref g5, .ref g6, .int 0, .int 0, .int 0, .int 0]))]) (w1 := [(m0, .inr (16, [.int 1, .ref kl, .null, .ref tl]))]) (t1 := []) hP hD hK hS0 hA [1, 2] [0] rfl rfl (by decide) (by decide) ht hvm hk1 hB
  generalize H1 = H at hP hS ⊢
  have hP : va_P D vwCl ([(g0, .inr (8, [.ref g1, .ref g2, .ref g3, .ref g4, .ref g5, .ref g6, .int 0, .int 0, .int 0, .int 0])), (m0, .inr (16, [.int 1, .ref kl, .null, .ref tl]))]) H := hP
  have hD : va_D (LA s) ([(g0, .inr (8, [.ref g1, .ref g2, .ref g3, .ref g4, .ref g5, .ref g6, .int 0, .int 0, .int 0, .int 0])), (m0, .inr (16, [.int 1, .ref kl, .null, .ref tl]))]) := hD
  have hK : va_K D vwCl [(cL, .long)] s := hK
  refine W.widen (k := 301) (n := 40006) (Nat.le_of_ble_eq_true rfl) (Nat.le_of_ble_eq_true rfl) ?_
  refine lv_istore (lv' := [(7, .int r_2), (6, .int 1), (0, .ref b), (1, .ref h0), (2, .ref m0), (3, .ref u0), (4, .ref w0), (5, .int 0)]) hx hb dL_law_2060 hl (by decide) rfl (fun ls hl => ?_)
  refine lv_aload_n hx hb dL_law_2062 rfl (lv_at hl 4 rfl) ?_
  have hS0 := hS
  have hFc := va_free (wc := [(m0, .inr (16, [.int 1, .ref kl, .null, .ref tl]))]) hD hS hA [1] rfl
  refine va_calli (va_runV (As := []) (rest := []) ⟨hx, hb, hml, hown, hts⟩ (c_X9_thrown l κ D (H).size (m0) (kl) (tl) (1) ) (cwV 0 hts gd_law_c_X9_thrown rfl rfl rfl (by decide +kernel) ⟨(Nat.le_of_ble_eq_true rfl), (Nat.le_of_ble_eq_true rfl)⟩) (preV hE hK hP hD hS hA [1] rfl (by decide) [] rfl (va_recv hK hP (ci := 16) (q0 := 1) rfl rfl)) rfl rfl hl.1 rfl (lv_room (Nat.le_of_ble_eq_true rfl)) dL_law_2063 ⟨(Nat.le_of_ble_eq_true rfl), (Nat.le_of_ble_eq_true rfl)⟩) hS (fun q _ h => hFc q h) hFc (fun r_3 u t H1 locs ht hvm hw hB hz1 hk1 hS => ?_)
  try dsimp only at hw
  obtain ⟨hP, hD, hK⟩ := jn (wc := [(m0, .inr (16, [.int 1, .ref kl, .null, .ref tl]))]) (wr := [(g0, .inr (8, [.ref g1, .ref g2, .ref g3, .ref g4, .ref g5, .ref g6, .int 0, .int 0, .int 0, .int 0]))]) (w1 := [(m0, .inr (16, [.int 1, .ref kl, .null, .ref tl]))]) (t1 := []) hP hD hK hS0 hA [1] [0] rfl rfl (by decide) (by decide) ht hvm hk1 hB
  generalize H1 = H at hP hS ⊢
  have hP : va_P D vwCl ([(g0, .inr (8, [.ref g1, .ref g2, .ref g3, .ref g4, .ref g5, .ref g6, .int 0, .int 0, .int 0, .int 0])), (m0, .inr (16, [.int 1, .ref kl, .null, .ref tl]))]) H := hP
  have hD : va_D (LA s) ([(g0, .inr (8, [.ref g1, .ref g2, .ref g3, .ref g4, .ref g5, .ref g6, .int 0, .int 0, .int 0, .int 0])), (m0, .inr (16, [.int 1, .ref kl, .null, .ref tl]))]) := hD
  have hK : va_K D vwCl [(cL, .long)] s := hK
  refine W.widen (k := 301) (n := 40006) (Nat.le_of_ble_eq_true rfl) (Nat.le_of_ble_eq_true rfl) ?_
  subst hw
  refine lv_iload hx hb dL_law_2066 (lv_at hl 1 rfl) ?_
  refine lv_icmp_eq (tgt := 2073) hx hb dL_law_2068 (by decide) (fun _ => ?_) (fun c_2068 => absurd c_2068 (by decide))
  refine lv_iload hx hb dL_law_2073 (lv_at hl 1 rfl) ?_
  refine lv_if_ne (tgt := 2090) hx hb dL_law_2075 (by decide) (fun _ => ?_) (fun c_2075 => absurd c_2075 (by decide))
  refine lv_goto (tgt := 2351) hx hb dL_law_2090 (by decide) ?_
  refine W.widen (k := 400) (n := 41000) (Nat.le_of_ble_eq_true rfl) (Nat.le_of_ble_eq_true rfl) ?_
  exact law_end C1 H locs ls hS (lv_sub hl [7, 2] rfl)

set_option maxHeartbeats 8000000 in
set_option maxRecDepth 100000 in
theorem law_line {p : Program} {l : Launch} {e : Env} {s : State} {m : MethodId} {below : List Frame} {meth : Method} {c : Code} {b : Nat} {xs : Nat → Int32} {κ : Nat → Nat} (C0 : law_At2 p l s m meth c b xs κ) {D : va_G} {h0 : Nat} {o0 : Nat} {g0 : Nat} {o2 : Nat} {o3 : Nat} {o4 : Nat} {o5 : Nat} {o6 : Nat} {g1 : Nat} {g2 : Nat} {g3 : Nat} {g4 : Nat} {g5 : Nat} {g6 : Nat} {m0 : Nat} {kl : Nat} {tl : Nat} {u0 : Nat} {w0 : Nat} {cL : ClassId}  (H : Heap) (locs : List Loc) (ls : Array Slot) (hK : va_K D vwCl [(cL, .long)] s) (hP : va_P D vwCl [(h0, .inr (12, [.ref o0, .int 0, .ref g0, .ref o2, .ref o3, .ref o4, .ref o5, .int 0, .ref o6])), (g0, .inr (8, [.ref g1, .ref g2, .ref g3, .ref g4, .ref g5, .ref g6, .int 0, .int 0, .int 0, .int 0])), (m0, .inr (16, [.int 0, .ref kl, .null, .ref tl])), (kl, .inr (6, [.int 0, .ref (κ 0), .int 0])), (u0, .inl (cL, 1, .inr (.inl (fun _ => 0))))] H) (hD : va_D (LA s) [(h0, .inr (12, [.ref o0, .int 0, .ref g0, .ref o2, .ref o3, .ref o4, .ref o5, .int 0, .ref o6])), (g0, .inr (8, [.ref g1, .ref g2, .ref g3, .ref g4, .ref g5, .ref g6, .int 0, .int 0, .int 0, .int 0])), (m0, .inr (16, [.int 0, .ref kl, .null, .ref tl])), (kl, .inr (6, [.int 0, .ref (κ 0), .int 0])), (u0, .inl (cL, 1, .inr (.inl (fun _ => 0))))]) (hS : va_S (LA s) s.heap H locs) (hl : lv_has ls 9 [(0, .ref b), (1, .ref h0), (2, .ref m0), (3, .ref u0), (4, .ref w0), (5, .int 0)]) : W p l e room_1 s m #[Value.ref b] below meth c H locs 300 40000 (lw_Z below #[Value.ref b] s) (F0 m 2093 ls []) := by
  have C1 := C0
  obtain ⟨hl0, hx, hb, hr, hml, hown, hts, hX, hbl, hlocks, hE⟩ := C0
  have hA : ∀ q : Nat, s.heap.size ≤ q → LA s q := fun _ h => h
  have hbA : ¬ LA s b := Nat.not_le.mpr hbl
  refine lv_aload_n hx hb dL_law_2093 rfl (lv_at hl 1 rfl) ?_
  refine lv_aload_n hx hb dL_law_2094 rfl (lv_at hl 3 rfl) ?_
  have hS0 := hS
  have hFc := va_free (wc := [(h0, .inr (12, [.ref o0, .int 0, .ref g0, .ref o2, .ref o3, .ref o4, .ref o5, .int 0, .ref o6])), (g0, .inr (8, [.ref g1, .ref g2, .ref g3, .ref g4, .ref g5, .ref g6, .int 0, .int 0, .int 0, .int 0])), (u0, .inl (cL, 1, .inr (.inl (fun _ => 0))))]) hD hS hA [0, 1, 4] rfl
  refine va_calli (vx_runSW (As := [.ref h0, .ref u0]) (rest := []) ⟨hx, hb, hml, hown, hts⟩ (c_L_line l hl0 κ D (H).size (h0) (o0) (g0) (o2) (o3) (o4) (o5) (o6) (g1) (g2) (g3) (g4) (g5) (g6) (u0) (cL) ((fun _ => 0)) ) (vx_cwSW 2 hts gd_law_c_L_line rfl rfl rfl (by decide +kernel) ⟨(Nat.le_of_ble_eq_true rfl), (Nat.le_of_ble_eq_true rfl)⟩) (preS hE hK hP hD hS hA [0, 1, 4] rfl (by decide) [0] rfl) rfl rfl hl.1 rfl (lv_room (Nat.le_of_ble_eq_true rfl)) dL_law_2095 ⟨(Nat.le_of_ble_eq_true rfl), (Nat.le_of_ble_eq_true rfl)⟩) hS (fun q _ h => hFc q h) hFc (fun r_1 u t H1 locs ht hvm hw hB hz1 hk1 hS => ?_)
  try dsimp only at hw
  obtain ⟨hP, hD, hK⟩ := jn (wc := [(h0, .inr (12, [.ref o0, .int 0, .ref g0, .ref o2, .ref o3, .ref o4, .ref o5, .int 0, .ref o6])), (g0, .inr (8, [.ref g1, .ref g2, .ref g3, .ref g4, .ref g5, .ref g6, .int 0, .int 0, .int 0, .int 0])), (u0, .inl (cL, 1, .inr (.inl (fun _ => 0))))]) (wr := [(m0, .inr (16, [.int 0, .ref kl, .null, .ref tl])), (kl, .inr (6, [.int 0, .ref (κ 0), .int 0]))]) (w1 := []) (t1 := []) hP hD hK hS0 hA [0, 1, 4] [2, 3] rfl rfl (by decide) (by decide) ht hvm hk1 hB
  generalize H1 = H at hP hS ⊢
  have hP : va_P D vwCl ([(m0, .inr (16, [.int 0, .ref kl, .null, .ref tl])), (kl, .inr (6, [.int 0, .ref (κ 0), .int 0]))]) H := hP
  have hD : va_D (LA s) ([(m0, .inr (16, [.int 0, .ref kl, .null, .ref tl])), (kl, .inr (6, [.int 0, .ref (κ 0), .int 0]))]) := hD
  have hK : va_K D vwCl [(cL, .long)] s := hK
  refine W.widen (k := 301) (n := 40006) (Nat.le_of_ble_eq_true rfl) (Nat.le_of_ble_eq_true rfl) ?_
  subst hw
  refine lv_istore (lv' := [(6, .int 1), (0, .ref b), (1, .ref h0), (2, .ref m0), (3, .ref u0), (4, .ref w0), (5, .int 0)]) hx hb dL_law_2098 hl (by decide) rfl (fun ls hl => ?_)
  refine lv_aload_n hx hb dL_law_2100 rfl (lv_at hl 3 rfl) ?_
  have hS0 := hS
  have hFc := va_free (wc := [(m0, .inr (16, [.int 0, .ref kl, .null, .ref tl]))]) hD hS hA [0] rfl
  refine va_calli (va_runV (As := []) (rest := []) ⟨hx, hb, hml, hown, hts⟩ (c_X9_line l κ D (H).size (m0) (kl) (tl) ) (cwV 0 hts gd_law_c_X9_line rfl rfl rfl (by decide +kernel) ⟨(Nat.le_of_ble_eq_true rfl), (Nat.le_of_ble_eq_true rfl)⟩) (preV hE hK hP hD hS hA [0] rfl (by decide) [] rfl (va_recv hK hP (ci := 16) (q0 := 0) rfl rfl)) rfl rfl hl.1 rfl (lv_room (Nat.le_of_ble_eq_true rfl)) dL_law_2101 ⟨(Nat.le_of_ble_eq_true rfl), (Nat.le_of_ble_eq_true rfl)⟩) hS (fun q _ h => hFc q h) hFc (fun r_2 u t H1 locs ht hvm hw hB hz1 hk1 hS => ?_)
  try dsimp only at hw
  obtain ⟨hP, hD, hK⟩ := jn (wc := [(m0, .inr (16, [.int 0, .ref kl, .null, .ref tl]))]) (wr := [(kl, .inr (6, [.int 0, .ref (κ 0), .int 0]))]) (w1 := [(m0, .inr (16, [.int 1, .ref kl, .null, .ref tl]))]) (t1 := []) hP hD hK hS0 hA [0] [1] rfl rfl (by decide) (by decide) ht hvm hk1 hB
  generalize H1 = H at hP hS ⊢
  have hP : va_P D vwCl ([(kl, .inr (6, [.int 0, .ref (κ 0), .int 0])), (m0, .inr (16, [.int 1, .ref kl, .null, .ref tl]))]) H := hP
  have hD : va_D (LA s) ([(kl, .inr (6, [.int 0, .ref (κ 0), .int 0])), (m0, .inr (16, [.int 1, .ref kl, .null, .ref tl]))]) := hD
  have hK : va_K D vwCl [(cL, .long)] s := hK
  refine W.widen (k := 301) (n := 40006) (Nat.le_of_ble_eq_true rfl) (Nat.le_of_ble_eq_true rfl) ?_
  refine lv_istore (lv' := [(7, .int r_2), (6, .int 1), (0, .ref b), (1, .ref h0), (2, .ref m0), (3, .ref u0), (4, .ref w0), (5, .int 0)]) hx hb dL_law_2104 hl (by decide) rfl (fun ls hl => ?_)
  refine lv_aload_n hx hb dL_law_2106 rfl (lv_at hl 4 rfl) ?_
  have hS0 := hS
  have hFc := va_free (wc := [(m0, .inr (16, [.int 1, .ref kl, .null, .ref tl]))]) hD hS hA [1] rfl
  refine va_calli (va_runV (As := []) (rest := []) ⟨hx, hb, hml, hown, hts⟩ (c_X9_thrown l κ D (H).size (m0) (kl) (tl) (1) ) (cwV 0 hts gd_law_c_X9_thrown rfl rfl rfl (by decide +kernel) ⟨(Nat.le_of_ble_eq_true rfl), (Nat.le_of_ble_eq_true rfl)⟩) (preV hE hK hP hD hS hA [1] rfl (by decide) [] rfl (va_recv hK hP (ci := 16) (q0 := 1) rfl rfl)) rfl rfl hl.1 rfl (lv_room (Nat.le_of_ble_eq_true rfl)) dL_law_2107 ⟨(Nat.le_of_ble_eq_true rfl), (Nat.le_of_ble_eq_true rfl)⟩) hS (fun q _ h => hFc q h) hFc (fun r_3 u t H1 locs ht hvm hw hB hz1 hk1 hS => ?_)
  try dsimp only at hw
  obtain ⟨hP, hD, hK⟩ := jn (wc := [(m0, .inr (16, [.int 1, .ref kl, .null, .ref tl]))]) (wr := [(kl, .inr (6, [.int 0, .ref (κ 0), .int 0]))]) (w1 := [(m0, .inr (16, [.int 1, .ref kl, .null, .ref tl]))]) (t1 := []) hP hD hK hS0 hA [1] [0] rfl rfl (by decide) (by decide) ht hvm hk1 hB
  generalize H1 = H at hP hS ⊢
  have hP : va_P D vwCl ([(kl, .inr (6, [.int 0, .ref (κ 0), .int 0])), (m0, .inr (16, [.int 1, .ref kl, .null, .ref tl]))]) H := hP
  have hD : va_D (LA s) ([(kl, .inr (6, [.int 0, .ref (κ 0), .int 0])), (m0, .inr (16, [.int 1, .ref kl, .null, .ref tl]))]) := hD
  have hK : va_K D vwCl [(cL, .long)] s := hK
  refine W.widen (k := 301) (n := 40006) (Nat.le_of_ble_eq_true rfl) (Nat.le_of_ble_eq_true rfl) ?_
  subst hw
  refine lv_iload hx hb dL_law_2110 (lv_at hl 1 rfl) ?_
  refine lv_icmp_eq (tgt := 2117) hx hb dL_law_2112 (by decide) (fun _ => ?_) (fun c_2112 => absurd c_2112 (by decide))
  refine lv_iload hx hb dL_law_2117 (lv_at hl 1 rfl) ?_
  refine lv_if_ne (tgt := 2134) hx hb dL_law_2119 (by decide) (fun _ => ?_) (fun c_2119 => absurd c_2119 (by decide))
  refine lv_goto (tgt := 2351) hx hb dL_law_2134 (by decide) ?_
  refine W.widen (k := 400) (n := 41000) (Nat.le_of_ble_eq_true rfl) (Nat.le_of_ble_eq_true rfl) ?_
  exact law_end C1 H locs ls hS (lv_sub hl [7, 2] rfl)

set_option maxHeartbeats 8000000 in
set_option maxRecDepth 100000 in
theorem law_sign {p : Program} {l : Launch} {e : Env} {s : State} {m : MethodId} {below : List Frame} {meth : Method} {c : Code} {b : Nat} {xs : Nat → Int32} {κ : Nat → Nat} (C0 : law_At2 p l s m meth c b xs κ) {D : va_G} {h0 : Nat} {o0 : Nat} {g0 : Nat} {o2 : Nat} {o3 : Nat} {o4 : Nat} {o5 : Nat} {o6 : Nat} {g1 : Nat} {g2 : Nat} {g3 : Nat} {g4 : Nat} {g5 : Nat} {g6 : Nat} {m0 : Nat} {kl : Nat} {tl : Nat} {u0 : Nat} {w0 : Nat} {cL : ClassId}  (H : Heap) (locs : List Loc) (ls : Array Slot) (hK : va_K D vwCl [(cL, .long)] s) (hP : va_P D vwCl [(h0, .inr (12, [.ref o0, .int 0, .ref g0, .ref o2, .ref o3, .ref o4, .ref o5, .int 0, .ref o6])), (g0, .inr (8, [.ref g1, .ref g2, .ref g3, .ref g4, .ref g5, .ref g6, .int 0, .int 0, .int 0, .int 0])), (m0, .inr (16, [.int 0, .ref kl, .null, .ref tl])), (kl, .inr (6, [.int 0, .ref (κ 0), .int 0])), (u0, .inl (cL, 1, .inr (.inl (fun _ => 0))))] H) (hD : va_D (LA s) [(h0, .inr (12, [.ref o0, .int 0, .ref g0, .ref o2, .ref o3, .ref o4, .ref o5, .int 0, .ref o6])), (g0, .inr (8, [.ref g1, .ref g2, .ref g3, .ref g4, .ref g5, .ref g6, .int 0, .int 0, .int 0, .int 0])), (m0, .inr (16, [.int 0, .ref kl, .null, .ref tl])), (kl, .inr (6, [.int 0, .ref (κ 0), .int 0])), (u0, .inl (cL, 1, .inr (.inl (fun _ => 0))))]) (hS : va_S (LA s) s.heap H locs) (hl : lv_has ls 9 [(0, .ref b), (1, .ref h0), (2, .ref m0), (3, .ref u0), (4, .ref w0), (5, .int 0)]) : W p l e room_1 s m #[Value.ref b] below meth c H locs 300 40000 (lw_Z below #[Value.ref b] s) (F0 m 2137 ls []) := by
  have C1 := C0
  obtain ⟨hl0, hx, hb, hr, hml, hown, hts, hX, hbl, hlocks, hE⟩ := C0
  have hA : ∀ q : Nat, s.heap.size ≤ q → LA s q := fun _ h => h
  have hbA : ¬ LA s b := Nat.not_le.mpr hbl
  refine lv_aload_n hx hb dL_law_2137 rfl (lv_at hl 1 rfl) ?_
  refine lv_aload_n hx hb dL_law_2138 rfl (lv_at hl 0 rfl) ?_
  refine lv_iload hx hb dL_law_2139 (lv_at hl 5 rfl) ?_
  refine lv_iconst (v := 1) hx hb dL_law_2141 (by decide) ?_
  refine lv_iadd hx hb dL_law_2142 ?_
  refine lv_topi (fun v_1 ev_1 => ?_)
  have ev_1 : v_1 = 1 := ev_1.trans (by decide)
  subst ev_1
  refine va_sld hx hb hX hbl hbA hS (i := 1) (by unfold vp_in; decide) dL_law_2143 ?_
  refine W.eq (g2 := F0 m 2144 ls [.int (xs 1), .ref h0]) rfl ?_
  refine lv_aload_n hx hb dL_law_2144 rfl (lv_at hl 3 rfl) ?_
  have hS0 := hS
  have hFc := va_free (wc := [(h0, .inr (12, [.ref o0, .int 0, .ref g0, .ref o2, .ref o3, .ref o4, .ref o5, .int 0, .ref o6])), (g0, .inr (8, [.ref g1, .ref g2, .ref g3, .ref g4, .ref g5, .ref g6, .int 0, .int 0, .int 0, .int 0])), (u0, .inl (cL, 1, .inr (.inl (fun _ => 0))))]) hD hS hA [0, 1, 4] rfl
  refine va_calli (vx_runSW (As := [.ref h0, .int (xs 1), .ref u0]) (rest := []) ⟨hx, hb, hml, hown, hts⟩ (c_L_sign l hl0 κ D (H).size (h0) (o0) (g0) (o2) (o3) (o4) (o5) (o6) (g1) (g2) (g3) (g4) (g5) (g6) ((xs 1)) (u0) (cL) ((fun _ => 0)) ) (vx_cwSW 3 hts gd_law_c_L_sign rfl rfl rfl (by decide +kernel) ⟨(Nat.le_of_ble_eq_true rfl), (Nat.le_of_ble_eq_true rfl)⟩) (preS hE hK hP hD hS hA [0, 1, 4] rfl (by decide) [0] rfl) rfl rfl hl.1 rfl (lv_room (Nat.le_of_ble_eq_true rfl)) dL_law_2145 ⟨(Nat.le_of_ble_eq_true rfl), (Nat.le_of_ble_eq_true rfl)⟩) hS (fun q _ h => hFc q h) hFc (fun r_2 u t H1 locs ht hvm hw hB hz1 hk1 hS => ?_)
  try dsimp only at hw
  obtain ⟨hP, hD, hK⟩ := jn (wc := [(h0, .inr (12, [.ref o0, .int 0, .ref g0, .ref o2, .ref o3, .ref o4, .ref o5, .int 0, .ref o6])), (g0, .inr (8, [.ref g1, .ref g2, .ref g3, .ref g4, .ref g5, .ref g6, .int 0, .int 0, .int 0, .int 0])), (u0, .inl (cL, 1, .inr (.inl (fun _ => 0))))]) (wr := [(m0, .inr (16, [.int 0, .ref kl, .null, .ref tl])), (kl, .inr (6, [.int 0, .ref (κ 0), .int 0]))]) (w1 := []) (t1 := []) hP hD hK hS0 hA [0, 1, 4] [2, 3] rfl rfl (by decide) (by decide) ht hvm hk1 hB
  generalize H1 = H at hP hS ⊢
  have hP : va_P D vwCl ([(m0, .inr (16, [.int 0, .ref kl, .null, .ref tl])), (kl, .inr (6, [.int 0, .ref (κ 0), .int 0]))]) H := hP
  have hD : va_D (LA s) ([(m0, .inr (16, [.int 0, .ref kl, .null, .ref tl])), (kl, .inr (6, [.int 0, .ref (κ 0), .int 0]))]) := hD
  have hK : va_K D vwCl [(cL, .long)] s := hK
  refine W.widen (k := 301) (n := 40006) (Nat.le_of_ble_eq_true rfl) (Nat.le_of_ble_eq_true rfl) ?_
  subst hw
  refine lv_istore (lv' := [(6, .int 1), (0, .ref b), (1, .ref h0), (2, .ref m0), (3, .ref u0), (4, .ref w0), (5, .int 0)]) hx hb dL_law_2148 hl (by decide) rfl (fun ls hl => ?_)
  refine lv_aload_n hx hb dL_law_2150 rfl (lv_at hl 3 rfl) ?_
  refine lv_aload_n hx hb dL_law_2151 rfl (lv_at hl 1 rfl) ?_
  refine lv_iload hx hb dL_law_2152 (lv_at hl 6 rfl) ?_
  refine lv_iconst (v := 1) hx hb dL_law_2154 (by decide) ?_
  refine lv_iadd hx hb dL_law_2155 ?_
  refine lv_topi (fun v_3 ev_3 => ?_)
  have ev_3 : v_3 = 1 := ev_3.trans (by decide)
  subst ev_3
  refine va_sld hx hb hX hbl hbA hS (i := 1) (by unfold vp_in; decide) dL_law_2156 ?_
  refine W.eq (g2 := F0 m 2157 ls [.int (xs 1), .ref m0]) rfl ?_
  have hS0 := hS
  have hFc := va_free (wc := [(m0, .inr (16, [.int 0, .ref kl, .null, .ref tl]))]) hD hS hA [0] rfl
  refine va_calli (va_runV (As := [.int (xs 1)]) (rest := []) ⟨hx, hb, hml, hown, hts⟩ (c_X9_sign l κ D (H).size (m0) (kl) (tl) ((xs 1)) ) (cwV 1 hts gd_law_c_X9_sign rfl rfl rfl (by decide +kernel) ⟨(Nat.le_of_ble_eq_true rfl), (Nat.le_of_ble_eq_true rfl)⟩) (preV hE hK hP hD hS hA [0] rfl (by decide) [] rfl (va_recv hK hP (ci := 16) (q0 := 0) rfl rfl)) rfl rfl hl.1 rfl (lv_room (Nat.le_of_ble_eq_true rfl)) dL_law_2157 ⟨(Nat.le_of_ble_eq_true rfl), (Nat.le_of_ble_eq_true rfl)⟩) hS (fun q _ h => hFc q h) hFc (fun r_4 u t H1 locs ht hvm hw hB hz1 hk1 hS => ?_)
  try dsimp only at hw
  obtain ⟨hP, hD, hK⟩ := jn (wc := [(m0, .inr (16, [.int 0, .ref kl, .null, .ref tl]))]) (wr := [(kl, .inr (6, [.int 0, .ref (κ 0), .int 0]))]) (w1 := [(m0, .inr (16, [.int 1, .ref kl, .null, .ref tl]))]) (t1 := []) hP hD hK hS0 hA [0] [1] rfl rfl (by decide) (by decide) ht hvm hk1 hB
  generalize H1 = H at hP hS ⊢
  have hP : va_P D vwCl ([(kl, .inr (6, [.int 0, .ref (κ 0), .int 0])), (m0, .inr (16, [.int 1, .ref kl, .null, .ref tl]))]) H := hP
  have hD : va_D (LA s) ([(kl, .inr (6, [.int 0, .ref (κ 0), .int 0])), (m0, .inr (16, [.int 1, .ref kl, .null, .ref tl]))]) := hD
  have hK : va_K D vwCl [(cL, .long)] s := hK
  refine W.widen (k := 301) (n := 40006) (Nat.le_of_ble_eq_true rfl) (Nat.le_of_ble_eq_true rfl) ?_
  refine lv_istore (lv' := [(7, .int r_4), (6, .int 1), (0, .ref b), (1, .ref h0), (2, .ref m0), (3, .ref u0), (4, .ref w0), (5, .int 0)]) hx hb dL_law_2160 hl (by decide) rfl (fun ls hl => ?_)
  refine lv_aload_n hx hb dL_law_2162 rfl (lv_at hl 4 rfl) ?_
  have hS0 := hS
  have hFc := va_free (wc := [(m0, .inr (16, [.int 1, .ref kl, .null, .ref tl]))]) hD hS hA [1] rfl
  refine va_calli (va_runV (As := []) (rest := []) ⟨hx, hb, hml, hown, hts⟩ (c_X9_thrown l κ D (H).size (m0) (kl) (tl) (1) ) (cwV 0 hts gd_law_c_X9_thrown rfl rfl rfl (by decide +kernel) ⟨(Nat.le_of_ble_eq_true rfl), (Nat.le_of_ble_eq_true rfl)⟩) (preV hE hK hP hD hS hA [1] rfl (by decide) [] rfl (va_recv hK hP (ci := 16) (q0 := 1) rfl rfl)) rfl rfl hl.1 rfl (lv_room (Nat.le_of_ble_eq_true rfl)) dL_law_2163 ⟨(Nat.le_of_ble_eq_true rfl), (Nat.le_of_ble_eq_true rfl)⟩) hS (fun q _ h => hFc q h) hFc (fun r_5 u t H1 locs ht hvm hw hB hz1 hk1 hS => ?_)
  try dsimp only at hw
  obtain ⟨hP, hD, hK⟩ := jn (wc := [(m0, .inr (16, [.int 1, .ref kl, .null, .ref tl]))]) (wr := [(kl, .inr (6, [.int 0, .ref (κ 0), .int 0]))]) (w1 := [(m0, .inr (16, [.int 1, .ref kl, .null, .ref tl]))]) (t1 := []) hP hD hK hS0 hA [1] [0] rfl rfl (by decide) (by decide) ht hvm hk1 hB
  generalize H1 = H at hP hS ⊢
  have hP : va_P D vwCl ([(kl, .inr (6, [.int 0, .ref (κ 0), .int 0])), (m0, .inr (16, [.int 1, .ref kl, .null, .ref tl]))]) H := hP
  have hD : va_D (LA s) ([(kl, .inr (6, [.int 0, .ref (κ 0), .int 0])), (m0, .inr (16, [.int 1, .ref kl, .null, .ref tl]))]) := hD
  have hK : va_K D vwCl [(cL, .long)] s := hK
  refine W.widen (k := 301) (n := 40006) (Nat.le_of_ble_eq_true rfl) (Nat.le_of_ble_eq_true rfl) ?_
  subst hw
  refine lv_iload hx hb dL_law_2166 (lv_at hl 1 rfl) ?_
  refine lv_icmp_eq (tgt := 2173) hx hb dL_law_2168 (by decide) (fun _ => ?_) (fun c_2168 => absurd c_2168 (by decide))
  refine lv_iload hx hb dL_law_2173 (lv_at hl 1 rfl) ?_
  refine lv_if_ne (tgt := 2190) hx hb dL_law_2175 (by decide) (fun _ => ?_) (fun c_2175 => absurd c_2175 (by decide))
  refine lv_goto (tgt := 2351) hx hb dL_law_2190 (by decide) ?_
  refine W.widen (k := 400) (n := 41000) (Nat.le_of_ble_eq_true rfl) (Nat.le_of_ble_eq_true rfl) ?_
  exact law_end C1 H locs ls hS (lv_sub hl [7, 2] rfl)

set_option maxHeartbeats 8000000 in
set_option maxRecDepth 100000 in
theorem law_freeShare {p : Program} {l : Launch} {e : Env} {s : State} {m : MethodId} {below : List Frame} {meth : Method} {c : Code} {b : Nat} {xs : Nat → Int32} {κ : Nat → Nat} (C0 : law_At2 p l s m meth c b xs κ) {D : va_G} {h0 : Nat} {o0 : Nat} {g0 : Nat} {o2 : Nat} {o3 : Nat} {o4 : Nat} {o5 : Nat} {o6 : Nat} {g1 : Nat} {g2 : Nat} {g3 : Nat} {g4 : Nat} {g5 : Nat} {g6 : Nat} {m0 : Nat} {kl : Nat} {tl : Nat} {u0 : Nat} {w0 : Nat} {cL : ClassId} {cD : ClassId}  (H : Heap) (locs : List Loc) (ls : Array Slot) (hK : va_K D vwCl [(cD, .double)] s) (hP : va_P D vwCl [(h0, .inr (12, [.ref o0, .int 0, .ref g0, .ref o2, .ref o3, .ref o4, .ref o5, .int 0, .ref o6])), (g0, .inr (8, [.ref g1, .ref g2, .ref g3, .ref g4, .ref g5, .ref g6, .int 0, .int 0, .int 0, .int 0])), (m0, .inr (16, [.int 0, .ref kl, .null, .ref tl])), (kl, .inr (6, [.int 0, .ref (κ 0), .int 0])), (w0, .inl (cD, 1, .inr (.inr (.inr (.inl (fun _ => 0))))))] H) (hD : va_D (LA s) [(h0, .inr (12, [.ref o0, .int 0, .ref g0, .ref o2, .ref o3, .ref o4, .ref o5, .int 0, .ref o6])), (g0, .inr (8, [.ref g1, .ref g2, .ref g3, .ref g4, .ref g5, .ref g6, .int 0, .int 0, .int 0, .int 0])), (m0, .inr (16, [.int 0, .ref kl, .null, .ref tl])), (kl, .inr (6, [.int 0, .ref (κ 0), .int 0])), (w0, .inl (cD, 1, .inr (.inr (.inr (.inl (fun _ => 0))))))]) (hS : va_S (LA s) s.heap H locs) (hl : lv_has ls 9 [(0, .ref b), (1, .ref h0), (2, .ref m0), (3, .ref u0), (4, .ref w0), (5, .int 0)]) : W p l e room_1 s m #[Value.ref b] below meth c H locs 300 40000 (lw_Z below #[Value.ref b] s) (F0 m 2207 ls []) := by
  have C1 := C0
  obtain ⟨hl0, hx, hb, hr, hml, hown, hts, hX, hbl, hlocks, hE⟩ := C0
  have hA : ∀ q : Nat, s.heap.size ≤ q → LA s q := fun _ h => h
  have hbA : ¬ LA s b := Nat.not_le.mpr hbl
  refine lv_aload_n hx hb dL_law_2207 rfl (lv_at hl 1 rfl) ?_
  refine lv_aload hx hb dL_law_2208 (lv_at hl 4 rfl) ?_
  have hS0 := hS
  have hFc := va_free (wc := [(h0, .inr (12, [.ref o0, .int 0, .ref g0, .ref o2, .ref o3, .ref o4, .ref o5, .int 0, .ref o6])), (g0, .inr (8, [.ref g1, .ref g2, .ref g3, .ref g4, .ref g5, .ref g6, .int 0, .int 0, .int 0, .int 0])), (w0, .inl (cD, 1, .inr (.inr (.inr (.inl (fun _ => 0))))))]) hD hS hA [0, 1, 4] rfl
  refine va_calli (vx_runSW (As := [.ref h0, .ref w0]) (rest := []) ⟨hx, hb, hml, hown, hts⟩ (c_L_freeShare l hl0 κ D (H).size (h0) (o0) (g0) (o2) (o3) (o4) (o5) (o6) (g1) (g2) (g3) (g4) (g5) (g6) (w0) (cD) ((fun _ => 0)) ) (vx_cwSW 2 hts gd_law_c_L_freeShare rfl rfl rfl (by decide +kernel) ⟨(Nat.le_of_ble_eq_true rfl), (Nat.le_of_ble_eq_true rfl)⟩) (preS hE hK hP hD hS hA [0, 1, 4] rfl (by decide) [0] rfl) rfl rfl hl.1 rfl (lv_room (Nat.le_of_ble_eq_true rfl)) dL_law_2210 ⟨(Nat.le_of_ble_eq_true rfl), (Nat.le_of_ble_eq_true rfl)⟩) hS (fun q _ h => hFc q h) hFc (fun r_1 u t H1 locs ht hvm hw hB hz1 hk1 hS => ?_)
  try dsimp only at hw
  obtain ⟨hP, hD, hK⟩ := jn (wc := [(h0, .inr (12, [.ref o0, .int 0, .ref g0, .ref o2, .ref o3, .ref o4, .ref o5, .int 0, .ref o6])), (g0, .inr (8, [.ref g1, .ref g2, .ref g3, .ref g4, .ref g5, .ref g6, .int 0, .int 0, .int 0, .int 0])), (w0, .inl (cD, 1, .inr (.inr (.inr (.inl (fun _ => 0))))))]) (wr := [(m0, .inr (16, [.int 0, .ref kl, .null, .ref tl])), (kl, .inr (6, [.int 0, .ref (κ 0), .int 0]))]) (w1 := []) (t1 := []) hP hD hK hS0 hA [0, 1, 4] [2, 3] rfl rfl (by decide) (by decide) ht hvm hk1 hB
  generalize H1 = H at hP hS ⊢
  have hP : va_P D vwCl ([(m0, .inr (16, [.int 0, .ref kl, .null, .ref tl])), (kl, .inr (6, [.int 0, .ref (κ 0), .int 0]))]) H := hP
  have hD : va_D (LA s) ([(m0, .inr (16, [.int 0, .ref kl, .null, .ref tl])), (kl, .inr (6, [.int 0, .ref (κ 0), .int 0]))]) := hD
  have hK : va_K D vwCl [(cD, .double)] s := hK
  refine W.widen (k := 301) (n := 40006) (Nat.le_of_ble_eq_true rfl) (Nat.le_of_ble_eq_true rfl) ?_
  subst hw
  refine lv_istore (lv' := [(6, .int 1), (0, .ref b), (1, .ref h0), (2, .ref m0), (3, .ref u0), (4, .ref w0), (5, .int 0)]) hx hb dL_law_2213 hl (by decide) rfl (fun ls hl => ?_)
  refine lv_aload_n hx hb dL_law_2215 rfl (lv_at hl 3 rfl) ?_
  have hS0 := hS
  have hFc := va_free (wc := [(m0, .inr (16, [.int 0, .ref kl, .null, .ref tl]))]) hD hS hA [0] rfl
  refine va_callf (va_runV (As := []) (rest := []) ⟨hx, hb, hml, hown, hts⟩ (c_X9_freeShare l κ D (H).size (m0) (kl) (tl) ) (cwV 0 hts gd_law_c_X9_freeShare rfl rfl rfl (by decide +kernel) ⟨(Nat.le_of_ble_eq_true rfl), (Nat.le_of_ble_eq_true rfl)⟩) (preV hE hK hP hD hS hA [0] rfl (by decide) [] rfl (va_recv hK hP (ci := 16) (q0 := 0) rfl rfl)) rfl rfl hl.1 rfl (lv_room (Nat.le_of_ble_eq_true rfl)) dL_law_2216 ⟨(Nat.le_of_ble_eq_true rfl), (Nat.le_of_ble_eq_true rfl)⟩) hS (fun q _ h => hFc q h) hFc (fun r_2 u t H1 locs ht hvm hw hB hz1 hk1 hS => ?_)
  try dsimp only at hw
  obtain ⟨hP, hD, hK⟩ := jn (wc := [(m0, .inr (16, [.int 0, .ref kl, .null, .ref tl]))]) (wr := [(kl, .inr (6, [.int 0, .ref (κ 0), .int 0]))]) (w1 := [(m0, .inr (16, [.int 1, .ref kl, .null, .ref tl]))]) (t1 := []) hP hD hK hS0 hA [0] [1] rfl rfl (by decide) (by decide) ht hvm hk1 hB
  generalize H1 = H at hP hS ⊢
  have hP : va_P D vwCl ([(kl, .inr (6, [.int 0, .ref (κ 0), .int 0])), (m0, .inr (16, [.int 1, .ref kl, .null, .ref tl]))]) H := hP
  have hD : va_D (LA s) ([(kl, .inr (6, [.int 0, .ref (κ 0), .int 0])), (m0, .inr (16, [.int 1, .ref kl, .null, .ref tl]))]) := hD
  have hK : va_K D vwCl [(cD, .double)] s := hK
  refine W.widen (k := 301) (n := 40006) (Nat.le_of_ble_eq_true rfl) (Nat.le_of_ble_eq_true rfl) ?_
  refine lv_fstore (lv' := [(7, .float r_2), (6, .int 1), (0, .ref b), (1, .ref h0), (2, .ref m0), (3, .ref u0), (4, .ref w0), (5, .int 0)]) hx hb dL_law_2219 hl (by decide) rfl (fun ls hl => ?_)
  refine lv_aload_n hx hb dL_law_2221 rfl (lv_at hl 4 rfl) ?_
  have hS0 := hS
  have hFc := va_free (wc := [(m0, .inr (16, [.int 1, .ref kl, .null, .ref tl]))]) hD hS hA [1] rfl
  refine va_calli (va_runV (As := []) (rest := []) ⟨hx, hb, hml, hown, hts⟩ (c_X9_thrown l κ D (H).size (m0) (kl) (tl) (1) ) (cwV 0 hts gd_law_c_X9_thrown rfl rfl rfl (by decide +kernel) ⟨(Nat.le_of_ble_eq_true rfl), (Nat.le_of_ble_eq_true rfl)⟩) (preV hE hK hP hD hS hA [1] rfl (by decide) [] rfl (va_recv hK hP (ci := 16) (q0 := 1) rfl rfl)) rfl rfl hl.1 rfl (lv_room (Nat.le_of_ble_eq_true rfl)) dL_law_2222 ⟨(Nat.le_of_ble_eq_true rfl), (Nat.le_of_ble_eq_true rfl)⟩) hS (fun q _ h => hFc q h) hFc (fun r_3 u t H1 locs ht hvm hw hB hz1 hk1 hS => ?_)
  try dsimp only at hw
  obtain ⟨hP, hD, hK⟩ := jn (wc := [(m0, .inr (16, [.int 1, .ref kl, .null, .ref tl]))]) (wr := [(kl, .inr (6, [.int 0, .ref (κ 0), .int 0]))]) (w1 := [(m0, .inr (16, [.int 1, .ref kl, .null, .ref tl]))]) (t1 := []) hP hD hK hS0 hA [1] [0] rfl rfl (by decide) (by decide) ht hvm hk1 hB
  generalize H1 = H at hP hS ⊢
  have hP : va_P D vwCl ([(kl, .inr (6, [.int 0, .ref (κ 0), .int 0])), (m0, .inr (16, [.int 1, .ref kl, .null, .ref tl]))]) H := hP
  have hD : va_D (LA s) ([(kl, .inr (6, [.int 0, .ref (κ 0), .int 0])), (m0, .inr (16, [.int 1, .ref kl, .null, .ref tl]))]) := hD
  have hK : va_K D vwCl [(cD, .double)] s := hK
  refine W.widen (k := 301) (n := 40006) (Nat.le_of_ble_eq_true rfl) (Nat.le_of_ble_eq_true rfl) ?_
  subst hw
  refine lv_iload hx hb dL_law_2225 (lv_at hl 1 rfl) ?_
  refine lv_icmp_eq (tgt := 2232) hx hb dL_law_2227 (by decide) (fun _ => ?_) (fun c_2227 => absurd c_2227 (by decide))
  refine lv_iload hx hb dL_law_2232 (lv_at hl 1 rfl) ?_
  refine lv_if_ne (tgt := 2270) hx hb dL_law_2234 (by decide) (fun _ => ?_) (fun c_2234 => absurd c_2234 (by decide))
  refine lv_goto (tgt := 2351) hx hb dL_law_2270 (by decide) ?_
  refine W.widen (k := 400) (n := 41000) (Nat.le_of_ble_eq_true rfl) (Nat.le_of_ble_eq_true rfl) ?_
  exact law_end C1 H locs ls hS (lv_sub hl [7, 2] rfl)

set_option maxHeartbeats 8000000 in
set_option maxRecDepth 100000 in
theorem law_meanUnlike {p : Program} {l : Launch} {e : Env} {s : State} {m : MethodId} {below : List Frame} {meth : Method} {c : Code} {b : Nat} {xs : Nat → Int32} {κ : Nat → Nat} (C0 : law_At2 p l s m meth c b xs κ) {D : va_G} {h0 : Nat} {o0 : Nat} {g0 : Nat} {o2 : Nat} {o3 : Nat} {o4 : Nat} {o5 : Nat} {o6 : Nat} {g1 : Nat} {g2 : Nat} {g3 : Nat} {g4 : Nat} {g5 : Nat} {g6 : Nat} {m0 : Nat} {kl : Nat} {tl : Nat} {u0 : Nat} {w0 : Nat} {cL : ClassId} {cD : ClassId}  (H : Heap) (locs : List Loc) (ls : Array Slot) (hK : va_K D vwCl [(cD, .double)] s) (hP : va_P D vwCl [(h0, .inr (12, [.ref o0, .int 0, .ref g0, .ref o2, .ref o3, .ref o4, .ref o5, .int 0, .ref o6])), (g0, .inr (8, [.ref g1, .ref g2, .ref g3, .ref g4, .ref g5, .ref g6, .int 0, .int 0, .int 0, .int 0])), (m0, .inr (16, [.int 0, .ref kl, .null, .ref tl])), (kl, .inr (6, [.int 0, .ref (κ 0), .int 0])), (w0, .inl (cD, 1, .inr (.inr (.inr (.inl (fun _ => 0))))))] H) (hD : va_D (LA s) [(h0, .inr (12, [.ref o0, .int 0, .ref g0, .ref o2, .ref o3, .ref o4, .ref o5, .int 0, .ref o6])), (g0, .inr (8, [.ref g1, .ref g2, .ref g3, .ref g4, .ref g5, .ref g6, .int 0, .int 0, .int 0, .int 0])), (m0, .inr (16, [.int 0, .ref kl, .null, .ref tl])), (kl, .inr (6, [.int 0, .ref (κ 0), .int 0])), (w0, .inl (cD, 1, .inr (.inr (.inr (.inl (fun _ => 0))))))]) (hS : va_S (LA s) s.heap H locs) (hl : lv_has ls 9 [(0, .ref b), (1, .ref h0), (2, .ref m0), (3, .ref u0), (4, .ref w0), (5, .int 0)]) : W p l e room_1 s m #[Value.ref b] below meth c H locs 300 40000 (lw_Z below #[Value.ref b] s) (F0 m 2273 ls []) := by
  have C1 := C0
  obtain ⟨hl0, hx, hb, hr, hml, hown, hts, hX, hbl, hlocks, hE⟩ := C0
  have hA : ∀ q : Nat, s.heap.size ≤ q → LA s q := fun _ h => h
  have hbA : ¬ LA s b := Nat.not_le.mpr hbl
  refine lv_aload_n hx hb dL_law_2273 rfl (lv_at hl 1 rfl) ?_
  refine lv_aload hx hb dL_law_2274 (lv_at hl 4 rfl) ?_
  have hS0 := hS
  have hFc := va_free (wc := [(h0, .inr (12, [.ref o0, .int 0, .ref g0, .ref o2, .ref o3, .ref o4, .ref o5, .int 0, .ref o6])), (w0, .inl (cD, 1, .inr (.inr (.inr (.inl (fun _ => 0))))))]) hD hS hA [0, 4] rfl
  refine va_calli (vx_runSW (As := [.ref h0, .ref w0]) (rest := []) ⟨hx, hb, hml, hown, hts⟩ (c_L_meanUnlike l hl0 κ D (H).size (h0) (o0) (g0) (o2) (o3) (o4) (o5) (o6) (w0) (cD) ((fun _ => 0)) ) (vx_cwSW 2 hts gd_law_c_L_meanUnlike rfl rfl rfl (by decide +kernel) ⟨(Nat.le_of_ble_eq_true rfl), (Nat.le_of_ble_eq_true rfl)⟩) (preS hE hK hP hD hS hA [0, 4] rfl (by decide) [0] rfl) rfl rfl hl.1 rfl (lv_room (Nat.le_of_ble_eq_true rfl)) dL_law_2276 ⟨(Nat.le_of_ble_eq_true rfl), (Nat.le_of_ble_eq_true rfl)⟩) hS (fun q _ h => hFc q h) hFc (fun r_1 u t H1 locs ht hvm hw hB hz1 hk1 hS => ?_)
  try dsimp only at hw
  obtain ⟨hP, hD, hK⟩ := jn (wc := [(h0, .inr (12, [.ref o0, .int 0, .ref g0, .ref o2, .ref o3, .ref o4, .ref o5, .int 0, .ref o6])), (w0, .inl (cD, 1, .inr (.inr (.inr (.inl (fun _ => 0))))))]) (wr := [(g0, .inr (8, [.ref g1, .ref g2, .ref g3, .ref g4, .ref g5, .ref g6, .int 0, .int 0, .int 0, .int 0])), (m0, .inr (16, [.int 0, .ref kl, .null, .ref tl])), (kl, .inr (6, [.int 0, .ref (κ 0), .int 0]))]) (w1 := []) (t1 := []) hP hD hK hS0 hA [0, 4] [1, 2, 3] rfl rfl (by decide) (by decide) ht hvm hk1 hB
  generalize H1 = H at hP hS ⊢
  have hP : va_P D vwCl ([(g0, .inr (8, [.ref g1, .ref g2, .ref g3, .ref g4, .ref g5, .ref g6, .int 0, .int 0, .int 0, .int 0])), (m0, .inr (16, [.int 0, .ref kl, .null, .ref tl])), (kl, .inr (6, [.int 0, .ref (κ 0), .int 0]))]) H := hP
  have hD : va_D (LA s) ([(g0, .inr (8, [.ref g1, .ref g2, .ref g3, .ref g4, .ref g5, .ref g6, .int 0, .int 0, .int 0, .int 0])), (m0, .inr (16, [.int 0, .ref kl, .null, .ref tl])), (kl, .inr (6, [.int 0, .ref (κ 0), .int 0]))]) := hD
  have hK : va_K D vwCl [(cD, .double)] s := hK
  refine W.widen (k := 301) (n := 40006) (Nat.le_of_ble_eq_true rfl) (Nat.le_of_ble_eq_true rfl) ?_
  subst hw
  refine lv_istore (lv' := [(6, .int 1), (0, .ref b), (1, .ref h0), (2, .ref m0), (3, .ref u0), (4, .ref w0), (5, .int 0)]) hx hb dL_law_2279 hl (by decide) rfl (fun ls hl => ?_)
  refine lv_aload_n hx hb dL_law_2281 rfl (lv_at hl 3 rfl) ?_
  have hS0 := hS
  have hFc := va_free (wc := [(m0, .inr (16, [.int 0, .ref kl, .null, .ref tl])), (kl, .inr (6, [.int 0, .ref (κ 0), .int 0]))]) hD hS hA [1, 2] rfl
  refine va_calld (va_runV (As := []) (rest := []) ⟨hx, hb, hml, hown, hts⟩ (c_X9_meanUnlike l κ D (H).size (m0) (kl) (tl) ) (cwV 0 hts gd_law_c_X9_meanUnlike rfl rfl rfl (by decide +kernel) ⟨(Nat.le_of_ble_eq_true rfl), (Nat.le_of_ble_eq_true rfl)⟩) (preV hE hK hP hD hS hA [1, 2] rfl (by decide) [] rfl (va_recv hK hP (ci := 16) (q0 := 1) rfl rfl)) rfl rfl hl.1 rfl (lv_room (Nat.le_of_ble_eq_true rfl)) dL_law_2282 ⟨(Nat.le_of_ble_eq_true rfl), (Nat.le_of_ble_eq_true rfl)⟩) hS (fun q _ h => hFc q h) hFc (fun r_2 u t H1 locs ht hvm hw hB hz1 hk1 hS => ?_)
  try dsimp only at hw
  obtain ⟨hP, hD, hK⟩ := jn (wc := [(m0, .inr (16, [.int 0, .ref kl, .null, .ref tl])), (kl, .inr (6, [.int 0, .ref (κ 0), .int 0]))]) (wr := [(g0, .inr (8, [.ref g1, .ref g2, .ref g3, .ref g4, .ref g5, .ref g6, .int 0, .int 0, .int 0, .int 0]))]) (w1 := [(m0, .inr (16, [.int 1, .ref kl, .null, .ref tl]))]) (t1 := []) hP hD hK hS0 hA [1, 2] [0] rfl rfl (by decide) (by decide) ht hvm hk1 hB
  generalize H1 = H at hP hS ⊢
  have hP : va_P D vwCl ([(g0, .inr (8, [.ref g1, .ref g2, .ref g3, .ref g4, .ref g5, .ref g6, .int 0, .int 0, .int 0, .int 0])), (m0, .inr (16, [.int 1, .ref kl, .null, .ref tl]))]) H := hP
  have hD : va_D (LA s) ([(g0, .inr (8, [.ref g1, .ref g2, .ref g3, .ref g4, .ref g5, .ref g6, .int 0, .int 0, .int 0, .int 0])), (m0, .inr (16, [.int 1, .ref kl, .null, .ref tl]))]) := hD
  have hK : va_K D vwCl [(cD, .double)] s := hK
  refine W.widen (k := 301) (n := 40006) (Nat.le_of_ble_eq_true rfl) (Nat.le_of_ble_eq_true rfl) ?_
  refine lv_dstore (lv' := [(7, .double r_2), (6, .int 1), (0, .ref b), (1, .ref h0), (2, .ref m0), (3, .ref u0), (4, .ref w0), (5, .int 0)]) hx hb dL_law_2285 hl (by decide) rfl (fun ls hl => ?_)
  refine lv_aload_n hx hb dL_law_2287 rfl (lv_at hl 4 rfl) ?_
  have hS0 := hS
  have hFc := va_free (wc := [(m0, .inr (16, [.int 1, .ref kl, .null, .ref tl]))]) hD hS hA [1] rfl
  refine va_calli (va_runV (As := []) (rest := []) ⟨hx, hb, hml, hown, hts⟩ (c_X9_thrown l κ D (H).size (m0) (kl) (tl) (1) ) (cwV 0 hts gd_law_c_X9_thrown rfl rfl rfl (by decide +kernel) ⟨(Nat.le_of_ble_eq_true rfl), (Nat.le_of_ble_eq_true rfl)⟩) (preV hE hK hP hD hS hA [1] rfl (by decide) [] rfl (va_recv hK hP (ci := 16) (q0 := 1) rfl rfl)) rfl rfl hl.1 rfl (lv_room (Nat.le_of_ble_eq_true rfl)) dL_law_2288 ⟨(Nat.le_of_ble_eq_true rfl), (Nat.le_of_ble_eq_true rfl)⟩) hS (fun q _ h => hFc q h) hFc (fun r_3 u t H1 locs ht hvm hw hB hz1 hk1 hS => ?_)
  try dsimp only at hw
  obtain ⟨hP, hD, hK⟩ := jn (wc := [(m0, .inr (16, [.int 1, .ref kl, .null, .ref tl]))]) (wr := [(g0, .inr (8, [.ref g1, .ref g2, .ref g3, .ref g4, .ref g5, .ref g6, .int 0, .int 0, .int 0, .int 0]))]) (w1 := [(m0, .inr (16, [.int 1, .ref kl, .null, .ref tl]))]) (t1 := []) hP hD hK hS0 hA [1] [0] rfl rfl (by decide) (by decide) ht hvm hk1 hB
  generalize H1 = H at hP hS ⊢
  have hP : va_P D vwCl ([(g0, .inr (8, [.ref g1, .ref g2, .ref g3, .ref g4, .ref g5, .ref g6, .int 0, .int 0, .int 0, .int 0])), (m0, .inr (16, [.int 1, .ref kl, .null, .ref tl]))]) H := hP
  have hD : va_D (LA s) ([(g0, .inr (8, [.ref g1, .ref g2, .ref g3, .ref g4, .ref g5, .ref g6, .int 0, .int 0, .int 0, .int 0])), (m0, .inr (16, [.int 1, .ref kl, .null, .ref tl]))]) := hD
  have hK : va_K D vwCl [(cD, .double)] s := hK
  refine W.widen (k := 301) (n := 40006) (Nat.le_of_ble_eq_true rfl) (Nat.le_of_ble_eq_true rfl) ?_
  subst hw
  refine lv_iload hx hb dL_law_2291 (lv_at hl 1 rfl) ?_
  refine lv_icmp_eq (tgt := 2298) hx hb dL_law_2293 (by decide) (fun _ => ?_) (fun c_2293 => absurd c_2293 (by decide))
  refine lv_iload hx hb dL_law_2298 (lv_at hl 1 rfl) ?_
  refine lv_if_ne (tgt := 2335) hx hb dL_law_2300 (by decide) (fun _ => ?_) (fun c_2300 => absurd c_2300 (by decide))
  refine lv_goto (tgt := 2351) hx hb dL_law_2335 (by decide) ?_
  refine W.widen (k := 400) (n := 41000) (Nat.le_of_ble_eq_true rfl) (Nat.le_of_ble_eq_true rfl) ?_
  exact law_end C1 H locs ls hS (lv_sub hl [7, 2] rfl)
