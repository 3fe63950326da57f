section SAT
variable {p : Program} {l : Launch} {e : Env} {R : Room} {s : State} {m : MethodId} {args : Array Value} {below : List Frame} {meth : Method} {c : Code} {cells slots : Nat} {Q : State → Prop} {H : Heap} {locs : List Loc}
set_option maxHeartbeats 4000000 in
set_option maxRecDepth 100000 in
/-- the inner loop of Rows.seedsAt -/
theorem sa_inner (hx : p.tables.exec = Jvm.exec) (hb : c.code = cX3_seedsAt) (hown : s.vm.findClass RX3 = some m.cls) {Ts : List Cond} (hts : ∀ w ∈ Ts, w.before args s = true) (iRX3 : ∀ w ∈ u_ws RX3 TX3 1, w ∈ Ts) (h11 : (Cond.fieldLink RX3 11 "Sowingcourt$Rows" "ways" "[[J").before args s = true)
    {D : va_G} {tys : List (ClassId × FieldType)} (hK : va_K D vwCl tys s) {tO tJ : Nat} {cO cJ : ClassId} (hO : tys[tO]? = some (cO, .array .long)) (hJ : tys[tJ]? = some (cJ, .long)) {ws : va_W} (hP : va_P D vwCl ws H)
    {h0 q : Nat} {rr : Nat → Nat} {FF : Nat → Nat → Int64} {kx kq : Nat} (hxw : ws[kx]? = some (h0, .inr (10, [.ref q]))) (hqw : ws[kq]? = some (q, .inl (cO, 11, .inr (.inr (.inr (.inr (fun i => if i < 11 then some (rr i) else none))))))) (hrow : ∀ k, k < 11 → ∃ z : Nat, ws[z]? = some (rr k, .inl (cJ, 91, .inr (.inl (FF k))))) (hFF : ∀ k, k < 11 → ∀ z, z < 91 → FF k z = WW k z)
    {xi xp xh : Int32} {h' : Nat} (hh : h' < 11) (hxx : xi - 1 - xp = nI h') {F9 L9 N9 : Nat} (hL9 : L9 < 51)
    (kk : ∀ ls : Array Slot, lv_has ls 11 [(10, .int xp), (9, .int (nI (F9))), (8, .int (nI (L9))), (6, .long (lN (N9))), (5, .int xh), (1, .int xi), (0, .ref h0)] → W p l e R s m args below meth c H locs cells slots Q (F0 m 87 ls [])) :
    ∀ (r f n : Nat) (ls : Array Slot), f + r = L9 → f + (goR h' r n).1 = F9 → (goR h' r n).2 = N9 → n < 2 ^ 62 → lv_has ls 11 [(10, .int xp), (9, .int (nI (f))), (8, .int (nI (L9))), (6, .long (lN (n))), (5, .int xh), (1, .int xi), (0, .ref h0)] → W p l e R s m args below meth c H locs cells slots Q (F0 m 29 ls []) := by
  have hin : vp_in (nI h') 11 := vp_in_nI hh (by omega)
  have clh : (nI h').toNatClampNeg = h' := nI_clamp (by omega)
  obtain ⟨kz, hkz⟩ := hrow h' hh
  intro r
  induction r with
  | zero =>
    intro f n ls hf hF hN hn hl
    refine lv_iload hx hb dX3_seedsAt_29 (lv_at hl 1 rfl) ?_
    refine lv_iload hx hb dX3_seedsAt_31 (lv_at hl 2 rfl) ?_
    refine lv_icmp_ge (tgt := 87) hx hb dX3_seedsAt_33 (by decide) (fun _ => ?_) (fun c33 => absurd (nI_le (show L9 ≤ f by omega) (by omega)) c33)
    have e1 : f = F9 := hF
    have e2 : n = N9 := hN
    subst e1
    subst e2
    exact kk ls hl
  | succ r ih =>
    intro f n ls hf hF hN hn hl
    have hr51 : r + 1 < 51 := by omega
    have hwb : WN h' (r + 1) < 2 ^ 62 := WN_b hh hr51
    have hsub : nI L9 - nI f = nI (r + 1) := by rw [pk_sub (by omega)]; exact congrArg nI (by omega)
    have hin2 : vp_in (nI (r + 1)) 91 := vp_in_nI (by omega) (by omega)
    have clr : (nI (r + 1)).toNatClampNeg = r + 1 := nI_clamp (by omega)
    refine lv_iload hx hb dX3_seedsAt_29 (lv_at hl 1 rfl) ?_
    refine lv_iload hx hb dX3_seedsAt_31 (lv_at hl 2 rfl) ?_
    refine lv_icmp_ge (tgt := 87) hx hb dX3_seedsAt_33 (by decide) (fun c33 => absurd c33 (nI_ge (show f < L9 by omega) (by omega))) (fun _ => ?_)
    refine lv_lload hx hb dX3_seedsAt_36 (lv_at hl 3 rfl) ?_
    refine lv_aload_n hx hb dX3_seedsAt_38 rfl (lv_at hl 6 rfl) ?_
    refine va_get (D := D) (ci := 10) (v := .ref q) (C := RX3) (T := TX3) (N := 1) hx hb hts iRX3 hown hK hP kx hxw rfl 0 (by decide) h11 (fun _ h9 => h9) rfl dX3_seedsAt_39 ?_
    refine lv_iload_n hx hb dX3_seedsAt_42 rfl (lv_at hl 5 rfl) ?_
    refine lv_iconst (v := 1) hx hb dX3_seedsAt_43 (by decide) ?_
    refine lv_isub hx hb dX3_seedsAt_44 ?_
    refine lv_iload hx hb dX3_seedsAt_45 (lv_at hl 0 rfl) ?_
    refine lv_isub hx hb dX3_seedsAt_47 ?_
    rw [hxx]
    refine va_aldg hx hb hK hP kq tO hqw hO hin dX3_seedsAt_48 ?_
    rw [clh, if_pos hh]
    show W p l e R s m args below meth c H locs cells slots Q (F0 m 49 ls [.ref (rr h'), .long (lN n)])
    refine lv_iload hx hb dX3_seedsAt_49 (lv_at hl 2 rfl) ?_
    refine lv_iload hx hb dX3_seedsAt_51 (lv_at hl 1 rfl) ?_
    refine lv_isub hx hb dX3_seedsAt_53 ?_
    rw [hsub]
    refine va_lald hx hb hK hP kz tJ hkz hJ hin2 dX3_seedsAt_54 ?_
    rw [clr, hFF h' hh (r + 1) (by omega), WW_N]
    refine W.lcmp hx hb dX3_seedsAt_55 ?_
    refine lv_if_lt (tgt := 87) hx hb dX3_seedsAt_56 (by decide) (fun c56 => ?_) (fun c56 => ?_)
    · have hlt : n < WN h' (r + 1) := (pk_lLT (by omega) (by omega)).mp ((lg_cmp_lt _ _).mp c56)
      rw [goR, if_neg (Nat.not_le.mpr hlt)] at hF hN
      have e1 : f = F9 := hF
      have e2 : n = N9 := hN
      subst e1
      subst e2
      exact kk ls hl
    · have hge : WN h' (r + 1) ≤ n := by
        rcases Nat.lt_or_ge n (WN h' (r + 1)) with h | h
        · exact absurd ((lg_cmp_lt _ _).mpr ((pk_lLT (by omega) (by omega)).mpr h)) c56
        · exact h
      rw [goR, if_pos hge] at hF hN
      refine lv_lload hx hb dX3_seedsAt_59 (lv_at hl 3 rfl) ?_
      refine lv_aload_n hx hb dX3_seedsAt_61 rfl (lv_at hl 6 rfl) ?_
      refine va_get (D := D) (ci := 10) (v := .ref q) (C := RX3) (T := TX3) (N := 1) hx hb hts iRX3 hown hK hP kx hxw rfl 0 (by decide) h11 (fun _ h9 => h9) rfl dX3_seedsAt_62 ?_
      refine lv_iload_n hx hb dX3_seedsAt_65 rfl (lv_at hl 5 rfl) ?_
      refine lv_iconst (v := 1) hx hb dX3_seedsAt_66 (by decide) ?_
      refine lv_isub hx hb dX3_seedsAt_67 ?_
      refine lv_iload hx hb dX3_seedsAt_68 (lv_at hl 0 rfl) ?_
      refine lv_isub hx hb dX3_seedsAt_70 ?_
      rw [hxx]
      refine va_aldg hx hb hK hP kq tO hqw hO hin dX3_seedsAt_71 ?_
      rw [clh, if_pos hh]
      show W p l e R s m args below meth c H locs cells slots Q (F0 m 72 ls [.ref (rr h'), .long (lN n)])
      refine lv_iload hx hb dX3_seedsAt_72 (lv_at hl 2 rfl) ?_
      refine lv_iload hx hb dX3_seedsAt_74 (lv_at hl 1 rfl) ?_
      refine lv_isub hx hb dX3_seedsAt_76 ?_
      rw [hsub]
      refine va_lald hx hb hK hP kz tJ hkz hJ hin2 dX3_seedsAt_77 ?_
      rw [clr, hFF h' hh (r + 1) (by omega), WW_N]
      refine lv_lsub hx hb dX3_seedsAt_78 ?_
      rw [lN_sub hge]
      refine lv_lstore (lv' := [(6, .long (lN (n - WN h' (r + 1)))), (10, .int xp), (9, .int (nI f)), (8, .int (nI L9)), (5, .int xh), (1, .int xi), (0, .ref h0)]) hx hb dX3_seedsAt_79 hl (by decide) rfl (fun ls hl => ?_)
      refine lv_iinc (v := nI (f + 1)) (lv' := [(9, .int (nI (f + 1))), (6, .long (lN (n - WN h' (r + 1)))), (10, .int xp), (8, .int (nI L9)), (5, .int xh), (1, .int xi), (0, .ref h0)]) hx hb dX3_seedsAt_81 hl (k := 2) rfl (nI_1 f) (by decide) rfl (fun ls hl => ?_)
      refine lv_goto (tgt := 29) hx hb dX3_seedsAt_84 (by decide) ?_
      exact ih (f + 1) (n - WN h' (r + 1)) ls (by omega) (by rw [← hF]; show _ = f + ((goR h' r (n - WN h' (r + 1))).1 + 1); omega) hN (by omega) (lv_sub hl [2, 0, 3, 1, 4, 5, 6] rfl)
set_option maxHeartbeats 4000000 in
set_option maxRecDepth 100000 in
/-- the outer loop of Rows.seedsAt -/
theorem sa_outer (hx : p.tables.exec = Jvm.exec) (hb : c.code = cX3_seedsAt) (hown : s.vm.findClass RX3 = some m.cls) {Ts : List Cond} (hts : ∀ w ∈ Ts, w.before args s = true) (iRX3 : ∀ w ∈ u_ws RX3 TX3 1, w ∈ Ts) (h11 : (Cond.fieldLink RX3 11 "Sowingcourt$Rows" "ways" "[[J").before args s = true)
    {D : va_G} {tys : List (ClassId × FieldType)} (hK : va_K D vwCl tys s) {tO tJ : Nat} {cO cJ : ClassId} (hO : tys[tO]? = some (cO, .array .long)) (hJ : tys[tJ]? = some (cJ, .long)) {ws : va_W} (hP : va_P D vwCl ws H)
    {h0 q : Nat} {rr : Nat → Nat} {FF : Nat → Nat → Int64} {kx kq : Nat} (hxw : ws[kx]? = some (h0, .inr (10, [.ref q]))) (hqw : ws[kq]? = some (q, .inl (cO, 11, .inr (.inr (.inr (.inr (fun i => if i < 11 then some (rr i) else none))))))) (hrow : ∀ k, k < 11 → ∃ z : Nat, ws[z]? = some (rr k, .inl (cJ, 91, .inr (.inl (FF k))))) (hFF : ∀ k, k < 11 → ∀ z, z < 91 → FF k z = WW k z)
    {xi xh : Int32} {hs : Nat} (exi : xi = nI hs) (hhs : hs < 11) {V : Nat}
    (kk : ∀ ls : Array Slot, lv_has ls 11 [(9, .int (nI V))] → W p l e R s m args below meth c H locs cells slots Q (F0 m 93 ls [])) :
    ∀ (k pl f r n : Nat) (ls : Array Slot), xh = nI (pl + k) → pl + k < hs → f + r < 51 → n < 2 ^ 62 → IR (hs - pl) k r n = V → lv_has ls 11 [(10, .int (nI pl)), (9, .int (nI f)), (8, .int (nI (f + r))), (6, .long (lN n)), (5, .int xh), (1, .int xi), (0, .ref h0)] → W p l e R s m args below meth c H locs cells slots Q (F0 m 12 ls []) := by
  intro k
  induction k with
  | zero =>
    intro pl f r n ls exh hp hfr hn hV hl
    have hxx : xi - 1 - nI pl = nI (hs - pl - 1) := by
      rw [exi, show (1 : Int32) = nI 1 from rfl, pk_sub (by omega), pk_sub (by omega)]
      exact congrArg nI (by omega)
    refine lv_iload hx hb dX3_seedsAt_12 (lv_at hl 0 rfl) ?_
    refine lv_iload hx hb dX3_seedsAt_14 (lv_at hl 4 rfl) ?_
    refine lv_icmp_gt (tgt := 93) hx hb dX3_seedsAt_16 (by decide) (fun c16 => absurd c16 (by rw [exh]; exact nI_nlt (by omega) (by omega))) (fun _ => ?_)
    refine lv_iload hx hb dX3_seedsAt_19 (lv_at hl 2 rfl) ?_
    refine lv_iload hx hb dX3_seedsAt_21 (lv_at hl 1 rfl) ?_
    refine lv_isub hx hb dX3_seedsAt_23 ?_
    rw [pk_sub (show f ≤ f + r by omega), show f + r - f = r by omega]
    refine lv_istore (lv' := [(8, .int (nI r)), (10, .int (nI pl)), (9, .int (nI f)), (6, .long (lN n)), (5, .int xh), (1, .int xi), (0, .ref h0)]) hx hb dX3_seedsAt_24 hl (by decide) rfl (fun ls hl => ?_)
    refine lv_iconst (v := 0) hx hb dX3_seedsAt_26 (by decide) ?_
    refine lv_istore (lv' := [(9, .int 0), (8, .int (nI r)), (10, .int (nI pl)), (6, .long (lN n)), (5, .int xh), (1, .int xi), (0, .ref h0)]) hx hb dX3_seedsAt_27 hl (by decide) rfl (fun ls hl => ?_)
    have hV2 : (goR (hs - pl - 1) r n).1 = V := hV
    refine sa_inner hx hb hown hts iRX3 h11 hK hO hJ hP hxw hqw hrow hFF (h' := hs - pl - 1) (by omega) hxx (F9 := V) (L9 := r) (N9 := (goR (hs - pl - 1) r n).2) (by omega) (fun ls hl => ?_) r 0 n ls (Nat.zero_add r) (by rw [Nat.zero_add]; exact hV2) rfl hn (lv_sub hl [2, 0, 1, 3, 4, 5, 6] rfl)
    refine lv_iinc (v := nI (pl + 1)) (lv' := [(10, .int (nI (pl + 1))), (9, .int (nI V)), (8, .int (nI r)), (6, .long (lN (goR (hs - pl - 1) r n).2)), (5, .int xh), (1, .int xi), (0, .ref h0)]) hx hb dX3_seedsAt_87 hl (k := 0) rfl (nI_1 pl) (by decide) rfl (fun ls hl => ?_)
    refine lv_goto (tgt := 12) hx hb dX3_seedsAt_90 (by decide) ?_
    refine lv_iload hx hb dX3_seedsAt_12 (lv_at hl 0 rfl) ?_
    refine lv_iload hx hb dX3_seedsAt_14 (lv_at hl 4 rfl) ?_
    refine lv_icmp_gt (tgt := 93) hx hb dX3_seedsAt_16 (by decide) (fun _ => ?_) (fun c16 => absurd (show xh < nI (pl + 1) by rw [exh]; exact nI_lt (by omega) (by omega)) c16)
    exact kk ls (lv_sub hl [1] rfl)
  | succ k ih =>
    intro pl f r n ls exh hp hfr hn hV hl
    have hxx : xi - 1 - nI pl = nI (hs - pl - 1) := by
      rw [exi, show (1 : Int32) = nI 1 from rfl, pk_sub (by omega), pk_sub (by omega)]
      exact congrArg nI (by omega)
    refine lv_iload hx hb dX3_seedsAt_12 (lv_at hl 0 rfl) ?_
    refine lv_iload hx hb dX3_seedsAt_14 (lv_at hl 4 rfl) ?_
    refine lv_icmp_gt (tgt := 93) hx hb dX3_seedsAt_16 (by decide) (fun c16 => absurd c16 (by rw [exh]; exact nI_nlt (by omega) (by omega))) (fun _ => ?_)
    refine lv_iload hx hb dX3_seedsAt_19 (lv_at hl 2 rfl) ?_
    refine lv_iload hx hb dX3_seedsAt_21 (lv_at hl 1 rfl) ?_
    refine lv_isub hx hb dX3_seedsAt_23 ?_
    rw [pk_sub (show f ≤ f + r by omega), show f + r - f = r by omega]
    refine lv_istore (lv' := [(8, .int (nI r)), (10, .int (nI pl)), (9, .int (nI f)), (6, .long (lN n)), (5, .int xh), (1, .int xi), (0, .ref h0)]) hx hb dX3_seedsAt_24 hl (by decide) rfl (fun ls hl => ?_)
    refine lv_iconst (v := 0) hx hb dX3_seedsAt_26 (by decide) ?_
    refine lv_istore (lv' := [(9, .int 0), (8, .int (nI r)), (10, .int (nI pl)), (6, .long (lN n)), (5, .int xh), (1, .int xi), (0, .ref h0)]) hx hb dX3_seedsAt_27 hl (by decide) rfl (fun ls hl => ?_)
    have ha := goR_le (hs - pl - 1) r n
    have hb2 := goR_le2 (hs - pl - 1) r n
    refine sa_inner hx hb hown hts iRX3 h11 hK hO hJ hP hxw hqw hrow hFF (h' := hs - pl - 1) (by omega) hxx (F9 := (goR (hs - pl - 1) r n).1) (L9 := r) (N9 := (goR (hs - pl - 1) r n).2) (by omega) (fun ls hl => ?_) r 0 n ls (Nat.zero_add r) (Nat.zero_add _) rfl hn (lv_sub hl [2, 0, 1, 3, 4, 5, 6] rfl)
    refine lv_iinc (v := nI (pl + 1)) (lv' := [(10, .int (nI (pl + 1))), (9, .int (nI (goR (hs - pl - 1) r n).1)), (8, .int (nI r)), (6, .long (lN (goR (hs - pl - 1) r n).2)), (5, .int xh), (1, .int xi), (0, .ref h0)]) hx hb dX3_seedsAt_87 hl (k := 0) rfl (nI_1 pl) (by decide) rfl (fun ls hl => ?_)
    refine lv_goto (tgt := 12) hx hb dX3_seedsAt_90 (by decide) ?_
    refine ih (pl + 1) (goR (hs - pl - 1) r n).1 (r - (goR (hs - pl - 1) r n).1) (goR (hs - pl - 1) r n).2 ls (by rw [exh]; exact congrArg nI (by omega)) (by omega) (by omega) (by omega) ?_ (by rw [show (goR (hs - pl - 1) r n).1 + (r - (goR (hs - pl - 1) r n).1) = r by omega]; exact hl)
    rw [← hV]
    show IR (hs - (pl + 1)) k _ _ = IR (hs - pl - 1) k _ _
    rw [show hs - (pl + 1) = hs - pl - 1 by omega]
end SAT
