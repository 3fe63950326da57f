/-! how many rows there are, in whole numbers: as the class's table is made, and as the reference multiplies -/
def rowN (f : Nat → Nat) : Nat → Nat
  | 0 => f 0
  | s + 1 => rowN f s + f (s + 1)
def WN : Nat → Nat → Nat
  | 0 => fun s => if s = 0 then 1 else 0
  | h + 1 => rowN (WN h)
theorem WW_N : ∀ h s : Nat, WW h s = lN (WN h s) := by
  intro h
  induction h with
  | zero =>
    intro s
    show (if s = 0 then (1 : Int64) else 0) = lN (if s = 0 then 1 else 0)
    split <;> rfl
  | succ h ih =>
    intro s
    induction s with
    | zero => exact ih 0
    | succ s is =>
      show rowW (WW h) s + WW h (s + 1) = lN (rowN (WN h) s + WN h (s + 1))
      rw [ih (s + 1), show rowW (WW h) s = lN (rowN (WN h) s) from is, lN_add]
def RN (s : Nat) : Nat → Nat
  | 0 => 1
  | k + 1 => RN s k * (s + (k + 1)) / (k + 1)
def RR (h s : Nat) : Nat := if h = 0 then (if s = 0 then 1 else 0) else RN s (h - 1)
def scl : Nat → List Nat → List Nat
  | _, [] => []
  | a, x :: l => (a + x) :: scl (a + x) l
def rl : Nat → List Nat
  | 0 => 1 :: List.replicate 50 0
  | h + 1 => scl 0 (rl h)
theorem rowN_shift (f : Nat → Nat) : ∀ s : Nat, rowN f (s + 1) = f 0 + rowN (fun i => f (i + 1)) s := by
  intro s
  induction s with
  | zero => rfl
  | succ s ih =>
    show rowN f (s + 1) + f (s + 1 + 1) = f 0 + (rowN (fun i => f (i + 1)) s + f (s + 1 + 1))
    rw [ih]
    omega
theorem scl_len : ∀ (l : List Nat) (a : Nat), (scl a l).length = l.length
  | [], _ => rfl
  | x :: l, a => by
    show (scl (a + x) l).length + 1 = l.length + 1
    rw [scl_len l]
theorem scl_at : ∀ (l : List Nat) (a : Nat) (f : Nat → Nat), (∀ s, s < l.length → l[s]? = some (f s)) → ∀ s, s < l.length → (scl a l)[s]? = some (a + rowN f s) := by
  intro l
  induction l with
  | nil => intro a f _ s hs; exact absurd hs (Nat.not_lt_zero s)
  | cons x l ih =>
    intro a f hf s hs
    have h0 : f 0 = x := (Option.some.inj (hf 0 (Nat.succ_pos _))).symm
    cases s with
    | zero =>
      show some (a + x) = some (a + f 0)
      rw [h0]
    | succ s =>
      show (scl (a + x) l)[s]? = some (a + rowN f (s + 1))
      rw [ih (a + x) (fun i => f (i + 1)) (fun i hi => hf (i + 1) (Nat.succ_lt_succ hi)) s (Nat.lt_of_succ_lt_succ hs), rowN_shift, h0]
      congr 1
      omega
theorem rl_len : ∀ h : Nat, (rl h).length = 51
  | 0 => rfl
  | h + 1 => by
    show (scl 0 (rl h)).length = 51
    rw [scl_len, rl_len h]
theorem rl_at : ∀ h s : Nat, s < 51 → (rl h)[s]? = some (WN h s)
  | 0, 0, _ => rfl
  | 0, s + 1, hs => by
    show (List.replicate 50 0)[s]? = some 0
    rw [List.getElem?_replicate, if_pos (by omega)]
  | h + 1, s, hs => by
    have h9 := scl_at (rl h) 0 (WN h) (fun z hz => rl_at h z (by rw [rl_len] at hz; exact hz)) s (by rw [rl_len]; exact hs)
    rw [Nat.zero_add] at h9
    exact h9
set_option maxRecDepth 100000 in
theorem rl_R : ∀ h, h < 11 → rl h = (List.range 51).map (RR h) := by decide +kernel
theorem WN_R {h s : Nat} (hh : h < 11) (hs : s < 51) : WN h s = RR h s := by
  have h1 := rl_at h s hs
  rw [rl_R h hh, List.getElem?_map, List.getElem?_range hs] at h1
  exact (Option.some.inj h1).symm
set_option maxRecDepth 100000 in
theorem RN_b : ∀ s, s < 51 → ∀ k, k < 10 → RN s k * (s + (k + 1)) < 2 ^ 62 := by decide +kernel
set_option maxRecDepth 100000 in
theorem RR_b : ∀ h, h < 11 → ∀ s, s < 51 → RR h s < 2 ^ 62 := by decide +kernel
theorem WN_b {h s : Nat} (hh : h < 11) (hs : s < 51) : WN h s < 2 ^ 62 := by rw [WN_R hh hs]; exact RR_b h hh s hs
theorem WN_0 : ∀ h : Nat, WN h 0 = 1
  | 0 => rfl
  | h + 1 => WN_0 h
theorem WN_s (h s : Nat) : WN (h + 1) (s + 1) = WN (h + 1) s + WN h (s + 1) := rfl
/-- the seeds of one hole, and what is left of the number: h holes behind it, r seeds left -/
def goR (h : Nat) : Nat → Nat → Nat × Nat
  | 0, n => (0, n)
  | r + 1, n => if WN h (r + 1) ≤ n then ((goR h r (n - WN h (r + 1))).1 + 1, (goR h r (n - WN h (r + 1))).2) else (0, n)
theorem goR_le (h : Nat) : ∀ r n : Nat, (goR h r n).1 ≤ r := by
  intro r
  induction r with
  | zero => intro n; exact Nat.le_refl 0
  | succ r ih =>
    intro n
    by_cases c : WN h (r + 1) ≤ n
    · rw [goR, if_pos c]; exact Nat.succ_le_succ (ih _)
    · rw [goR, if_neg c]; exact Nat.zero_le _
theorem goR_le2 (h : Nat) : ∀ r n : Nat, (goR h r n).2 ≤ n := by
  intro r
  induction r with
  | zero => intro n; exact Nat.le_refl n
  | succ r ih =>
    intro n
    by_cases c : WN h (r + 1) ≤ n
    · rw [goR, if_pos c]; exact Nat.le_trans (ih _) (Nat.sub_le _ _)
    · rw [goR, if_neg c]; exact Nat.le_refl n
/-- the number that is left is one of a row of the holes behind -/
theorem goR_lt (h : Nat) : ∀ r n : Nat, n < WN (h + 1) r → (goR h r n).2 < WN h (r - (goR h r n).1) := by
  intro r
  induction r with
  | zero =>
    intro n hn
    show n < WN h 0
    rw [WN_0] at hn ⊢
    exact hn
  | succ r ih =>
    intro n hn
    by_cases c : WN h (r + 1) ≤ n
    · rw [goR, if_pos c]
      have h1 := ih (n - WN h (r + 1)) (by rw [WN_s] at hn; omega)
      show _ < WN h (r + 1 - ((goR h r (n - WN h (r + 1))).1 + 1))
      rw [Nat.add_sub_add_right]
      exact h1
    · rw [goR, if_neg c]
      exact Nat.not_le.mp c
/-- the seeds of the hole k in the row with the number n of h holes with r seeds -/
def IR : Nat → Nat → Nat → Nat → Nat
  | h, 0, r, n => (goR (h - 1) r n).1
  | h, k + 1, r, n => IR (h - 1) k (r - (goR (h - 1) r n).1) (goR (h - 1) r n).2
