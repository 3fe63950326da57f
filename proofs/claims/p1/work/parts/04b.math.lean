/-- how many rows there are of h holes with s seeds, as the class's table is made -/
def rowW (f : Nat → Int64) : Nat → Int64
  | 0 => f 0
  | s + 1 => rowW f s + f (s + 1)
def WW : Nat → Nat → Int64
  | 0 => fun s => if s = 0 then 1 else 0
  | h + 1 => rowW (WW h)
theorem WW_0 (h : Nat) : WW (h + 1) 0 = WW h 0 := rfl
theorem WW_s (h s : Nat) : WW (h + 1) (s + 1) = WW (h + 1) s + WW h (s + 1) := rfl
abbrev rowsW (rr : Nat → Nat) (FF : Nat → Nat → Int64) (cJ : ClassId) : va_W := [(rr 0, .inl (cJ, 91, .inr (.inl (FF 0)))), (rr 1, .inl (cJ, 91, .inr (.inl (FF 1)))), (rr 2, .inl (cJ, 91, .inr (.inl (FF 2)))), (rr 3, .inl (cJ, 91, .inr (.inl (FF 3)))), (rr 4, .inl (cJ, 91, .inr (.inl (FF 4)))), (rr 5, .inl (cJ, 91, .inr (.inl (FF 5)))), (rr 6, .inl (cJ, 91, .inr (.inl (FF 6)))), (rr 7, .inl (cJ, 91, .inr (.inl (FF 7)))), (rr 8, .inl (cJ, 91, .inr (.inl (FF 8)))), (rr 9, .inl (cJ, 91, .inr (.inl (FF 9)))), (rr 10, .inl (cJ, 91, .inr (.inl (FF 10))))]
theorem rows_at (rr : Nat → Nat) (FF : Nat → Nat → Int64) (cJ : ClassId) : ∀ h : Nat, h < 11 → (rowsW rr FF cJ)[h]? = some (rr h, .inl (cJ, 91, .inr (.inl (FF h))))
  | 0, _ => rfl
  | 1, _ => rfl
  | 2, _ => rfl
  | 3, _ => rfl
  | 4, _ => rfl
  | 5, _ => rfl
  | 6, _ => rfl
  | 7, _ => rfl
  | 8, _ => rfl
  | 9, _ => rfl
  | 10, _ => rfl
  | n + 11, h => absurd h (by omega)
theorem ifn {P : Prop} [Decidable P] {r : Int32} (h : r = if P then 1 else 0) (n : ¬ r = 0) : P := by
  by_cases q : P
  · exact q
  · rw [if_neg q] at h
    exact absurd h n
theorem ifp {P : Prop} [Decidable P] {r : Int32} (h : r = if P then 1 else 0) (n : r = 0) : ¬ P := by
  intro q
  rw [if_pos q] at h
  rw [h] at n
  exact absurd n (by decide)
theorem set_at {α : Type} {l : List α} {k : Nat} {a : α} (h : l[k]? = some a) : l.set k a = l := by
  obtain ⟨hk, rfl⟩ := List.getElem?_eq_some_iff.mp h
  exact List.set_getElem_self hk
section X3I
variable {p : Program} {l : Launch} {e : Env} {R : Room} {s : State} {m : MethodId} {args : Array Value} {below : List Frame} {meth : Method} {c : Code} {cells slots : Nat} {Q : State → Prop}
set_option maxHeartbeats 4000000 in
set_option maxRecDepth 100000 in
/-- the inner loop of Rows(): the row i out of the row i - 1 -/
theorem x3_inner (hx : p.tables.exec = Jvm.exec) (hb : c.code = cX3_init) (hown : s.vm.findClass RX3 = some m.cls) {Ts : List Cond} (hts : ∀ w ∈ Ts, w.before args s = true) (iRX3 : ∀ w ∈ u_ws RX3 TX3 1, w ∈ Ts) (h11 : (Cond.fieldLink RX3 11 "Sowingcourt$Rows" "ways" "[[J").before args s = true)
    {D : va_G} {tys : List (ClassId × FieldType)} (hK : va_K D vwCl tys s) {A : Nat → Prop} {tO tJ : Nat} {cO cJ : ClassId} (hO : tys[tO]? = some (cO, .array .long)) (hJ : tys[tJ]? = some (cJ, .long))
    {h0 q a1 a0 : Nat} {g : Nat → Option Nat} {i : Nat} {xi : Int32} (exi : xi = nI (i + 1)) (hi : i + 1 < 11) (g1 : g (i + 1) = some a1) (g0 : g i = some a0) {k0 k1 kx kq : Nat} (n0 : k1 ≠ k0) (nx : k1 ≠ kx) (nq : k1 ≠ kq) {f0 : Nat → Int64} (hf0 : ∀ z, z < 91 → f0 z = WW i z) {ws0 : va_W}
    (kk : ∀ (f1 : Nat → Int64) (H : Heap) (locs : List Loc) (ls : Array Slot), (∀ z, z < 91 → f1 z = WW (i + 1) z) → va_P D vwCl (ws0.set k1 (a1, .inl (cJ, 91, .inr (.inl f1)))) H → va_D A (ws0.set k1 (a1, .inl (cJ, 91, .inr (.inl f1)))) → va_S A s.heap H locs → lv_has ls 3 [(0, .ref h0), (1, .int xi)] → W p l e R s m args below meth c H locs cells slots Q (F0 m 94 ls [])) :
    ∀ (n j : Nat) (f1 : Nat → Int64) (ws : va_W) (H : Heap) (locs : List Loc) (ls : Array Slot), 91 - j < n → j < 91 → (∀ z, z < j + 1 → f1 z = WW (i + 1) z) → (∀ z, ws.set k1 z = ws0.set k1 z) → ws[kx]? = some (h0, .inr (10, [.ref q])) → ws[kq]? = some (q, .inl (cO, 11, .inr (.inr (.inr (.inr g))))) → ws[k1]? = some (a1, .inl (cJ, 91, .inr (.inl f1))) → ws[k0]? = some (a0, .inl (cJ, 91, .inr (.inl f0))) → va_P D vwCl ws H → va_D A ws → va_S A s.heap H locs → lv_has ls 3 [(2, .int (nI (j + 1))), (1, .int xi), (0, .ref h0)] → W p l e R s m args below meth c H locs cells slots Q (F0 m 53 ls []) := by
  have hi1 : vp_in xi 11 := by rw [exi]; exact vp_in_nI hi (by omega)
  have cl1 : xi.toNatClampNeg = i + 1 := by rw [exi]; exact nI_clamp (by omega)
  have hxm : xi - 1 = nI i := by rw [exi]; exact nI_pred i
  have hi0 : vp_in (nI i) 11 := vp_in_nI (by omega) (by omega)
  have cl0 : (nI i).toNatClampNeg = i := nI_clamp (by omega)
  intro n
  induction n with
  | zero => intro j f1 ws H locs ls h; exact absurd h (by omega)
  | succ n ih =>
    intro j f1 ws H locs ls hn hj hf1 hset hxw hqw h1w h0w hP hD hS hl
    refine lv_iload_n hx hb dX3_init_53 rfl (lv_at hl 0 rfl) ?_
    refine lv_bipush (v := 90) hx hb dX3_init_54 (by decide) ?_
    refine lv_icmp_gt (tgt := 94) hx hb dX3_init_56 (by decide) (fun c56 => ?_) (fun c56 => ?_)
    · have hj2 : j = 90 := by
        rcases Nat.lt_or_ge j 90 with h | h
        · exact absurd c56 (show ¬ nI 90 < nI (j + 1) from nI_nlt (by omega) (by omega))
        · omega
      refine kk f1 H locs ls (fun z hz => hf1 z (by omega)) ?_ ?_ hS (lv_sub hl [2, 1] rfl)
      · have h9 := hset (a1, .inl (cJ, 91, .inr (.inl f1)))
        rw [← h9, set_at h1w]
        exact hP
      · have h9 := hset (a1, .inl (cJ, 91, .inr (.inl f1)))
        rw [← h9, set_at h1w]
        exact hD
    · have hj2 : j + 1 < 91 := by
        rcases Nat.lt_or_ge (j + 1) 91 with h | h
        · exact h
        · exact absurd (show nI 90 < nI (j + 1) from nI_lt (by omega) (by omega)) c56
      have hjI : vp_in (nI (j + 1)) 91 := vp_in_nI hj2 (by omega)
      have hjm : nI (j + 1) - 1 = nI j := nI_pred j
      have hjI0 : vp_in (nI j) 91 := vp_in_nI (by omega) (by omega)
      have clj : (nI (j + 1)).toNatClampNeg = j + 1 := nI_clamp (by omega)
      have clj0 : (nI j).toNatClampNeg = j := nI_clamp (by omega)
      refine lv_aload_n hx hb dX3_init_59 rfl (lv_at hl 2 rfl) ?_
      refine va_get (D := D) (ci := 10) (v := .ref q) (C := RX3) (T := TX3) (N := 1) hx hb hts iRX3 hown hK hP kx hxw rfl 0 (by decide) h11 (fun _ h9 => h9) rfl dX3_init_60 ?_
      refine lv_iload_n hx hb dX3_init_63 rfl (lv_at hl 1 rfl) ?_
      refine va_aldg hx hb hK hP kq tO hqw hO hi1 dX3_init_64 ?_
      rw [cl1, g1]
      show W p l e R s m args below meth c H locs cells slots Q (F0 m 65 ls [.ref a1])
      refine lv_iload_n hx hb dX3_init_65 rfl (lv_at hl 0 rfl) ?_
      refine lv_aload_n hx hb dX3_init_66 rfl (lv_at hl 2 rfl) ?_
      refine va_get (D := D) (ci := 10) (v := .ref q) (C := RX3) (T := TX3) (N := 1) hx hb hts iRX3 hown hK hP kx hxw rfl 0 (by decide) h11 (fun _ h9 => h9) rfl dX3_init_67 ?_
      refine lv_iload_n hx hb dX3_init_70 rfl (lv_at hl 1 rfl) ?_
      refine va_aldg hx hb hK hP kq tO hqw hO hi1 dX3_init_71 ?_
      rw [cl1, g1]
      show W p l e R s m args below meth c H locs cells slots Q (F0 m 72 ls [.ref a1, .int (nI (j + 1)), .ref a1])
      refine lv_iload_n hx hb dX3_init_72 rfl (lv_at hl 0 rfl) ?_
      refine lv_iconst (v := 1) hx hb dX3_init_73 (by decide) ?_
      refine lv_isub hx hb dX3_init_74 ?_
      rw [hjm]
      refine va_lald hx hb hK hP k1 tJ h1w hJ hjI0 dX3_init_75 ?_
      rw [clj0, hf1 j (by omega)]
      refine lv_aload_n hx hb dX3_init_76 rfl (lv_at hl 2 rfl) ?_
      refine va_get (D := D) (ci := 10) (v := .ref q) (C := RX3) (T := TX3) (N := 1) hx hb hts iRX3 hown hK hP kx hxw rfl 0 (by decide) h11 (fun _ h9 => h9) rfl dX3_init_77 ?_
      refine lv_iload_n hx hb dX3_init_80 rfl (lv_at hl 1 rfl) ?_
      refine lv_iconst (v := 1) hx hb dX3_init_81 (by decide) ?_
      refine lv_isub hx hb dX3_init_82 ?_
      rw [hxm]
      refine va_aldg hx hb hK hP kq tO hqw hO hi0 dX3_init_83 ?_
      rw [cl0, g0]
      show W p l e R s m args below meth c H locs cells slots Q (F0 m 84 ls [.ref a0, .long (WW (i + 1) j), .int (nI (j + 1)), .ref a1])
      refine lv_iload_n hx hb dX3_init_84 rfl (lv_at hl 0 rfl) ?_
      refine va_lald hx hb hK hP k0 tJ h0w hJ hjI dX3_init_85 ?_
      rw [clj, hf0 (j + 1) hj2]
      refine lv_ladd hx hb dX3_init_86 ?_
      rw [← WW_s]
      refine va_last hx hb hK hP hD hS k1 tJ h1w hJ hjI dX3_init_87 (fun H locs hP hD hS => ?_)
      rw [clj] at hP hD
      refine lv_iinc (v := nI (j + 1 + 1)) (lv' := [(2, .int (nI (j + 1 + 1))), (1, .int xi), (0, .ref h0)]) hx hb dX3_init_88 hl (k := 0) rfl (nI_1 (j + 1)) (by decide) rfl (fun ls hl => ?_)
      refine lv_goto (tgt := 53) hx hb dX3_init_91 (by decide) ?_
      refine ih (j + 1) (vp_updL f1 (j + 1) (WW (i + 1) (j + 1))) _ H locs ls (by omega) hj2 (fun z hz => ?_) (fun z => ?_) ?_ ?_ ?_ ?_ hP hD hS hl
      · by_cases h : z = j + 1
        · rw [h]; exact pk_uLs
        · rw [pk_uLn h]; exact hf1 z (by omega)
      · rw [List.set_set]; exact hset z
      · rw [List.getElem?_set_ne nx]; exact hxw
      · rw [List.getElem?_set_ne nq]; exact hqw
      · rw [List.getElem?_set_self ((List.getElem?_eq_some_iff.mp h1w).1)]
      · rw [List.getElem?_set_ne n0]; exact h0w
end X3I
