/-! ===== how deep a knot sinks, on both sides ===== -/
def cbN (C : Nat → Int32) (k o : Nat) : Bool := decide (bv (C k) (nI o) = nI 1)
def tbN (T : Int32) (k : Nat) : Bool := decide (bv T (nI k) = nI 1)
def cntN (c : Nat → Bool) : Nat → Nat
  | 0 => 0
  | n + 1 => cntN c n + (if c n = true then 1 else 0)
def sumN (c : Nat → Bool) (p : Nat → Nat) : Nat → Nat
  | 0 => 0
  | n + 1 => sumN c p n + (if c n = true then p n else 0)
def snkN (c : Nat → Bool) (t : Bool) (l : Nat) (p : Nat → Nat) : Nat := if t = true then 0 else if cntN c 20 = 0 then 999 else min 999 ((l + sumN c p 20) / cntN c 20)
theorem cntN_le (c : Nat → Bool) (n : Nat) : cntN c n ≤ n := by
  induction n with
  | zero => exact Nat.le_refl _
  | succ n ih =>
    unfold cntN
    split <;> omega
theorem sumN_le (c : Nat → Bool) (p : Nat → Nat) (M : Nat) (n : Nat) (hp : ∀ o, o < n → p o ≤ M) : sumN c p n ≤ n * M := by
  induction n with
  | zero => exact Nat.le_of_eq (Nat.zero_mul _).symm
  | succ n ih =>
    have h1 := ih (fun o ho => hp o (by omega))
    have h2 := hp n (by omega)
    unfold sumN
    rw [Nat.succ_mul]
    split <;> omega
def stN (d : Nat) : Int32 := [-5, -1, 1, 5].getD d 0
def nb (k d : Nat) : Option Nat := match d with
  | 0 => if 5 ≤ k then some (k - 5) else none
  | 1 => if 1 ≤ k then some (k - 1) else none
  | 2 => if k < 19 then some (k + 1) else none
  | _ => if k < 15 then some (k + 5) else none
def cxN (k : Nat) (c : Nat → Bool) : Nat → Nat
  | 0 => 0
  | n + 1 => cxN k c n + (match nb k n with | some o => if c o = true then 1 else 0 | none => 0)
def sxN (k : Nat) (c : Nat → Bool) (p : Nat → Nat) : Nat → Nat
  | 0 => 0
  | n + 1 => sxN k c p n + (match nb k n with | some o => if c o = true then p o else 0 | none => 0)
theorem nb_fact : ∀ k, k < 20 → ∀ d, d < 4 → (match nb k d with | some o => decide (o < 20 ∧ nI k + stN d = nI o) | none => decide (¬ (nI 0 ≤ nI k + stN d ∧ nI k + stN d ≤ nI 19))) = true := by decide +kernel
theorem nb_sum (k : Nat) (hk : k < 20) (c : Nat → Bool) (p : Nat → Nat) (hc : ∀ o, o < 20 → besN k o = false → c o = false) : sxN k c p 4 = sumN c p 20 ∧ cxN k c 4 = cntN c 20 := by
  match k, hk with
  | 0, _ =>
    have h0 := hc 0 (by decide) (by decide)
    have h2 := hc 2 (by decide) (by decide)
    have h3 := hc 3 (by decide) (by decide)
    have h4 := hc 4 (by decide) (by decide)
    have h6 := hc 6 (by decide) (by decide)
    have h7 := hc 7 (by decide) (by decide)
    have h8 := hc 8 (by decide) (by decide)
    have h9 := hc 9 (by decide) (by decide)
    have h10 := hc 10 (by decide) (by decide)
    have h11 := hc 11 (by decide) (by decide)
    have h12 := hc 12 (by decide) (by decide)
    have h13 := hc 13 (by decide) (by decide)
    have h14 := hc 14 (by decide) (by decide)
    have h15 := hc 15 (by decide) (by decide)
    have h16 := hc 16 (by decide) (by decide)
    have h17 := hc 17 (by decide) (by decide)
    have h18 := hc 18 (by decide) (by decide)
    have h19 := hc 19 (by decide) (by decide)
    constructor
    · simp only [sxN, nb, sumN, h0, h2, h3, h4, h6, h7, h8, h9, h10, h11, h12, h13, h14, h15, h16, h17, h18, h19, Bool.false_eq_true, if_false, Nat.add_zero, Nat.zero_add, Nat.reduceLeDiff, Nat.reduceLT, Nat.reduceSub, Nat.reduceAdd, if_true]
    · simp only [cxN, nb, cntN, h0, h2, h3, h4, h6, h7, h8, h9, h10, h11, h12, h13, h14, h15, h16, h17, h18, h19, Bool.false_eq_true, if_false, Nat.add_zero, Nat.zero_add, Nat.reduceLeDiff, Nat.reduceLT, Nat.reduceSub, Nat.reduceAdd, if_true]
  | 1, _ =>
    have h1 := hc 1 (by decide) (by decide)
    have h3 := hc 3 (by decide) (by decide)
    have h4 := hc 4 (by decide) (by decide)
    have h5 := hc 5 (by decide) (by decide)
    have h7 := hc 7 (by decide) (by decide)
    have h8 := hc 8 (by decide) (by decide)
    have h9 := hc 9 (by decide) (by decide)
    have h10 := hc 10 (by decide) (by decide)
    have h11 := hc 11 (by decide) (by decide)
    have h12 := hc 12 (by decide) (by decide)
    have h13 := hc 13 (by decide) (by decide)
    have h14 := hc 14 (by decide) (by decide)
    have h15 := hc 15 (by decide) (by decide)
    have h16 := hc 16 (by decide) (by decide)
    have h17 := hc 17 (by decide) (by decide)
    have h18 := hc 18 (by decide) (by decide)
    have h19 := hc 19 (by decide) (by decide)
    constructor
    · simp only [sxN, nb, sumN, h1, h3, h4, h5, h7, h8, h9, h10, h11, h12, h13, h14, h15, h16, h17, h18, h19, Bool.false_eq_true, if_false, Nat.add_zero, Nat.zero_add, Nat.reduceLeDiff, Nat.reduceLT, Nat.reduceSub, Nat.reduceAdd, if_true]
    · simp only [cxN, nb, cntN, h1, h3, h4, h5, h7, h8, h9, h10, h11, h12, h13, h14, h15, h16, h17, h18, h19, Bool.false_eq_true, if_false, Nat.add_zero, Nat.zero_add, Nat.reduceLeDiff, Nat.reduceLT, Nat.reduceSub, Nat.reduceAdd, if_true]
  | 2, _ =>
    have h0 := hc 0 (by decide) (by decide)
    have h2 := hc 2 (by decide) (by decide)
    have h4 := hc 4 (by decide) (by decide)
    have h5 := hc 5 (by decide) (by decide)
    have h6 := hc 6 (by decide) (by decide)
    have h8 := hc 8 (by decide) (by decide)
    have h9 := hc 9 (by decide) (by decide)
    have h10 := hc 10 (by decide) (by decide)
    have h11 := hc 11 (by decide) (by decide)
    have h12 := hc 12 (by decide) (by decide)
    have h13 := hc 13 (by decide) (by decide)
    have h14 := hc 14 (by decide) (by decide)
    have h15 := hc 15 (by decide) (by decide)
    have h16 := hc 16 (by decide) (by decide)
    have h17 := hc 17 (by decide) (by decide)
    have h18 := hc 18 (by decide) (by decide)
    have h19 := hc 19 (by decide) (by decide)
    constructor
    · simp only [sxN, nb, sumN, h0, h2, h4, h5, h6, h8, h9, h10, h11, h12, h13, h14, h15, h16, h17, h18, h19, Bool.false_eq_true, if_false, Nat.add_zero, Nat.zero_add, Nat.reduceLeDiff, Nat.reduceLT, Nat.reduceSub, Nat.reduceAdd, if_true]
    · simp only [cxN, nb, cntN, h0, h2, h4, h5, h6, h8, h9, h10, h11, h12, h13, h14, h15, h16, h17, h18, h19, Bool.false_eq_true, if_false, Nat.add_zero, Nat.zero_add, Nat.reduceLeDiff, Nat.reduceLT, Nat.reduceSub, Nat.reduceAdd, if_true]
  | 3, _ =>
    have h0 := hc 0 (by decide) (by decide)
    have h1 := hc 1 (by decide) (by decide)
    have h3 := hc 3 (by decide) (by decide)
    have h5 := hc 5 (by decide) (by decide)
    have h6 := hc 6 (by decide) (by decide)
    have h7 := hc 7 (by decide) (by decide)
    have h9 := hc 9 (by decide) (by decide)
    have h10 := hc 10 (by decide) (by decide)
    have h11 := hc 11 (by decide) (by decide)
    have h12 := hc 12 (by decide) (by decide)
    have h13 := hc 13 (by decide) (by decide)
    have h14 := hc 14 (by decide) (by decide)
    have h15 := hc 15 (by decide) (by decide)
    have h16 := hc 16 (by decide) (by decide)
    have h17 := hc 17 (by decide) (by decide)
    have h18 := hc 18 (by decide) (by decide)
    have h19 := hc 19 (by decide) (by decide)
    constructor
    · simp only [sxN, nb, sumN, h0, h1, h3, h5, h6, h7, h9, h10, h11, h12, h13, h14, h15, h16, h17, h18, h19, Bool.false_eq_true, if_false, Nat.add_zero, Nat.zero_add, Nat.reduceLeDiff, Nat.reduceLT, Nat.reduceSub, Nat.reduceAdd, if_true]
    · simp only [cxN, nb, cntN, h0, h1, h3, h5, h6, h7, h9, h10, h11, h12, h13, h14, h15, h16, h17, h18, h19, Bool.false_eq_true, if_false, Nat.add_zero, Nat.zero_add, Nat.reduceLeDiff, Nat.reduceLT, Nat.reduceSub, Nat.reduceAdd, if_true]
  | 4, _ =>
    have h0 := hc 0 (by decide) (by decide)
    have h1 := hc 1 (by decide) (by decide)
    have h2 := hc 2 (by decide) (by decide)
    have h4 := hc 4 (by decide) (by decide)
    have h5 := hc 5 (by decide) (by decide)
    have h6 := hc 6 (by decide) (by decide)
    have h7 := hc 7 (by decide) (by decide)
    have h8 := hc 8 (by decide) (by decide)
    have h10 := hc 10 (by decide) (by decide)
    have h11 := hc 11 (by decide) (by decide)
    have h12 := hc 12 (by decide) (by decide)
    have h13 := hc 13 (by decide) (by decide)
    have h14 := hc 14 (by decide) (by decide)
    have h15 := hc 15 (by decide) (by decide)
    have h16 := hc 16 (by decide) (by decide)
    have h17 := hc 17 (by decide) (by decide)
    have h18 := hc 18 (by decide) (by decide)
    have h19 := hc 19 (by decide) (by decide)
    constructor
    · simp only [sxN, nb, sumN, h0, h1, h2, h4, h5, h6, h7, h8, h10, h11, h12, h13, h14, h15, h16, h17, h18, h19, Bool.false_eq_true, if_false, Nat.add_zero, Nat.zero_add, Nat.reduceLeDiff, Nat.reduceLT, Nat.reduceSub, Nat.reduceAdd, if_true]
    · simp only [cxN, nb, cntN, h0, h1, h2, h4, h5, h6, h7, h8, h10, h11, h12, h13, h14, h15, h16, h17, h18, h19, Bool.false_eq_true, if_false, Nat.add_zero, Nat.zero_add, Nat.reduceLeDiff, Nat.reduceLT, Nat.reduceSub, Nat.reduceAdd, if_true]
  | 5, _ =>
    have h1 := hc 1 (by decide) (by decide)
    have h2 := hc 2 (by decide) (by decide)
    have h3 := hc 3 (by decide) (by decide)
    have h4 := hc 4 (by decide) (by decide)
    have h5 := hc 5 (by decide) (by decide)
    have h7 := hc 7 (by decide) (by decide)
    have h8 := hc 8 (by decide) (by decide)
    have h9 := hc 9 (by decide) (by decide)
    have h11 := hc 11 (by decide) (by decide)
    have h12 := hc 12 (by decide) (by decide)
    have h13 := hc 13 (by decide) (by decide)
    have h14 := hc 14 (by decide) (by decide)
    have h15 := hc 15 (by decide) (by decide)
    have h16 := hc 16 (by decide) (by decide)
    have h17 := hc 17 (by decide) (by decide)
    have h18 := hc 18 (by decide) (by decide)
    have h19 := hc 19 (by decide) (by decide)
    constructor
    · simp only [sxN, nb, sumN, h1, h2, h3, h4, h5, h7, h8, h9, h11, h12, h13, h14, h15, h16, h17, h18, h19, Bool.false_eq_true, if_false, Nat.add_zero, Nat.zero_add, Nat.reduceLeDiff, Nat.reduceLT, Nat.reduceSub, Nat.reduceAdd, if_true]
    · simp only [cxN, nb, cntN, h1, h2, h3, h4, h5, h7, h8, h9, h11, h12, h13, h14, h15, h16, h17, h18, h19, Bool.false_eq_true, if_false, Nat.add_zero, Nat.zero_add, Nat.reduceLeDiff, Nat.reduceLT, Nat.reduceSub, Nat.reduceAdd, if_true]
  | 6, _ =>
    have h0 := hc 0 (by decide) (by decide)
    have h2 := hc 2 (by decide) (by decide)
    have h3 := hc 3 (by decide) (by decide)
    have h4 := hc 4 (by decide) (by decide)
    have h6 := hc 6 (by decide) (by decide)
    have h8 := hc 8 (by decide) (by decide)
    have h9 := hc 9 (by decide) (by decide)
    have h10 := hc 10 (by decide) (by decide)
    have h12 := hc 12 (by decide) (by decide)
    have h13 := hc 13 (by decide) (by decide)
    have h14 := hc 14 (by decide) (by decide)
    have h15 := hc 15 (by decide) (by decide)
    have h16 := hc 16 (by decide) (by decide)
    have h17 := hc 17 (by decide) (by decide)
    have h18 := hc 18 (by decide) (by decide)
    have h19 := hc 19 (by decide) (by decide)
    constructor
    · simp only [sxN, nb, sumN, h0, h2, h3, h4, h6, h8, h9, h10, h12, h13, h14, h15, h16, h17, h18, h19, Bool.false_eq_true, if_false, Nat.add_zero, Nat.zero_add, Nat.reduceLeDiff, Nat.reduceLT, Nat.reduceSub, Nat.reduceAdd, if_true]
    · simp only [cxN, nb, cntN, h0, h2, h3, h4, h6, h8, h9, h10, h12, h13, h14, h15, h16, h17, h18, h19, Bool.false_eq_true, if_false, Nat.add_zero, Nat.zero_add, Nat.reduceLeDiff, Nat.reduceLT, Nat.reduceSub, Nat.reduceAdd, if_true]
  | 7, _ =>
    have h0 := hc 0 (by decide) (by decide)
    have h1 := hc 1 (by decide) (by decide)
    have h3 := hc 3 (by decide) (by decide)
    have h4 := hc 4 (by decide) (by decide)
    have h5 := hc 5 (by decide) (by decide)
    have h7 := hc 7 (by decide) (by decide)
    have h9 := hc 9 (by decide) (by decide)
    have h10 := hc 10 (by decide) (by decide)
    have h11 := hc 11 (by decide) (by decide)
    have h13 := hc 13 (by decide) (by decide)
    have h14 := hc 14 (by decide) (by decide)
    have h15 := hc 15 (by decide) (by decide)
    have h16 := hc 16 (by decide) (by decide)
    have h17 := hc 17 (by decide) (by decide)
    have h18 := hc 18 (by decide) (by decide)
    have h19 := hc 19 (by decide) (by decide)
    constructor
    · simp only [sxN, nb, sumN, h0, h1, h3, h4, h5, h7, h9, h10, h11, h13, h14, h15, h16, h17, h18, h19, Bool.false_eq_true, if_false, Nat.add_zero, Nat.zero_add, Nat.reduceLeDiff, Nat.reduceLT, Nat.reduceSub, Nat.reduceAdd, if_true]
    · simp only [cxN, nb, cntN, h0, h1, h3, h4, h5, h7, h9, h10, h11, h13, h14, h15, h16, h17, h18, h19, Bool.false_eq_true, if_false, Nat.add_zero, Nat.zero_add, Nat.reduceLeDiff, Nat.reduceLT, Nat.reduceSub, Nat.reduceAdd, if_true]
  | 8, _ =>
    have h0 := hc 0 (by decide) (by decide)
    have h1 := hc 1 (by decide) (by decide)
    have h2 := hc 2 (by decide) (by decide)
    have h4 := hc 4 (by decide) (by decide)
    have h5 := hc 5 (by decide) (by decide)
    have h6 := hc 6 (by decide) (by decide)
    have h8 := hc 8 (by decide) (by decide)
    have h10 := hc 10 (by decide) (by decide)
    have h11 := hc 11 (by decide) (by decide)
    have h12 := hc 12 (by decide) (by decide)
    have h14 := hc 14 (by decide) (by decide)
    have h15 := hc 15 (by decide) (by decide)
    have h16 := hc 16 (by decide) (by decide)
    have h17 := hc 17 (by decide) (by decide)
    have h18 := hc 18 (by decide) (by decide)
    have h19 := hc 19 (by decide) (by decide)
    constructor
    · simp only [sxN, nb, sumN, h0, h1, h2, h4, h5, h6, h8, h10, h11, h12, h14, h15, h16, h17, h18, h19, Bool.false_eq_true, if_false, Nat.add_zero, Nat.zero_add, Nat.reduceLeDiff, Nat.reduceLT, Nat.reduceSub, Nat.reduceAdd, if_true]
    · simp only [cxN, nb, cntN, h0, h1, h2, h4, h5, h6, h8, h10, h11, h12, h14, h15, h16, h17, h18, h19, Bool.false_eq_true, if_false, Nat.add_zero, Nat.zero_add, Nat.reduceLeDiff, Nat.reduceLT, Nat.reduceSub, Nat.reduceAdd, if_true]
  | 9, _ =>
    have h0 := hc 0 (by decide) (by decide)
    have h1 := hc 1 (by decide) (by decide)
    have h2 := hc 2 (by decide) (by decide)
    have h3 := hc 3 (by decide) (by decide)
    have h5 := hc 5 (by decide) (by decide)
    have h6 := hc 6 (by decide) (by decide)
    have h7 := hc 7 (by decide) (by decide)
    have h9 := hc 9 (by decide) (by decide)
    have h10 := hc 10 (by decide) (by decide)
    have h11 := hc 11 (by decide) (by decide)
    have h12 := hc 12 (by decide) (by decide)
    have h13 := hc 13 (by decide) (by decide)
    have h15 := hc 15 (by decide) (by decide)
    have h16 := hc 16 (by decide) (by decide)
    have h17 := hc 17 (by decide) (by decide)
    have h18 := hc 18 (by decide) (by decide)
    have h19 := hc 19 (by decide) (by decide)
    constructor
    · simp only [sxN, nb, sumN, h0, h1, h2, h3, h5, h6, h7, h9, h10, h11, h12, h13, h15, h16, h17, h18, h19, Bool.false_eq_true, if_false, Nat.add_zero, Nat.zero_add, Nat.reduceLeDiff, Nat.reduceLT, Nat.reduceSub, Nat.reduceAdd, if_true]
    · simp only [cxN, nb, cntN, h0, h1, h2, h3, h5, h6, h7, h9, h10, h11, h12, h13, h15, h16, h17, h18, h19, Bool.false_eq_true, if_false, Nat.add_zero, Nat.zero_add, Nat.reduceLeDiff, Nat.reduceLT, Nat.reduceSub, Nat.reduceAdd, if_true]
  | 10, _ =>
    have h0 := hc 0 (by decide) (by decide)
    have h1 := hc 1 (by decide) (by decide)
    have h2 := hc 2 (by decide) (by decide)
    have h3 := hc 3 (by decide) (by decide)
    have h4 := hc 4 (by decide) (by decide)
    have h6 := hc 6 (by decide) (by decide)
    have h7 := hc 7 (by decide) (by decide)
    have h8 := hc 8 (by decide) (by decide)
    have h9 := hc 9 (by decide) (by decide)
    have h10 := hc 10 (by decide) (by decide)
    have h12 := hc 12 (by decide) (by decide)
    have h13 := hc 13 (by decide) (by decide)
    have h14 := hc 14 (by decide) (by decide)
    have h16 := hc 16 (by decide) (by decide)
    have h17 := hc 17 (by decide) (by decide)
    have h18 := hc 18 (by decide) (by decide)
    have h19 := hc 19 (by decide) (by decide)
    constructor
    · simp only [sxN, nb, sumN, h0, h1, h2, h3, h4, h6, h7, h8, h9, h10, h12, h13, h14, h16, h17, h18, h19, Bool.false_eq_true, if_false, Nat.add_zero, Nat.zero_add, Nat.reduceLeDiff, Nat.reduceLT, Nat.reduceSub, Nat.reduceAdd, if_true]
    · simp only [cxN, nb, cntN, h0, h1, h2, h3, h4, h6, h7, h8, h9, h10, h12, h13, h14, h16, h17, h18, h19, Bool.false_eq_true, if_false, Nat.add_zero, Nat.zero_add, Nat.reduceLeDiff, Nat.reduceLT, Nat.reduceSub, Nat.reduceAdd, if_true]
  | 11, _ =>
    have h0 := hc 0 (by decide) (by decide)
    have h1 := hc 1 (by decide) (by decide)
    have h2 := hc 2 (by decide) (by decide)
    have h3 := hc 3 (by decide) (by decide)
    have h4 := hc 4 (by decide) (by decide)
    have h5 := hc 5 (by decide) (by decide)
    have h7 := hc 7 (by decide) (by decide)
    have h8 := hc 8 (by decide) (by decide)
    have h9 := hc 9 (by decide) (by decide)
    have h11 := hc 11 (by decide) (by decide)
    have h13 := hc 13 (by decide) (by decide)
    have h14 := hc 14 (by decide) (by decide)
    have h15 := hc 15 (by decide) (by decide)
    have h17 := hc 17 (by decide) (by decide)
    have h18 := hc 18 (by decide) (by decide)
    have h19 := hc 19 (by decide) (by decide)
    constructor
    · simp only [sxN, nb, sumN, h0, h1, h2, h3, h4, h5, h7, h8, h9, h11, h13, h14, h15, h17, h18, h19, Bool.false_eq_true, if_false, Nat.add_zero, Nat.zero_add, Nat.reduceLeDiff, Nat.reduceLT, Nat.reduceSub, Nat.reduceAdd, if_true]
    · simp only [cxN, nb, cntN, h0, h1, h2, h3, h4, h5, h7, h8, h9, h11, h13, h14, h15, h17, h18, h19, Bool.false_eq_true, if_false, Nat.add_zero, Nat.zero_add, Nat.reduceLeDiff, Nat.reduceLT, Nat.reduceSub, Nat.reduceAdd, if_true]
  | 12, _ =>
    have h0 := hc 0 (by decide) (by decide)
    have h1 := hc 1 (by decide) (by decide)
    have h2 := hc 2 (by decide) (by decide)
    have h3 := hc 3 (by decide) (by decide)
    have h4 := hc 4 (by decide) (by decide)
    have h5 := hc 5 (by decide) (by decide)
    have h6 := hc 6 (by decide) (by decide)
    have h8 := hc 8 (by decide) (by decide)
    have h9 := hc 9 (by decide) (by decide)
    have h10 := hc 10 (by decide) (by decide)
    have h12 := hc 12 (by decide) (by decide)
    have h14 := hc 14 (by decide) (by decide)
    have h15 := hc 15 (by decide) (by decide)
    have h16 := hc 16 (by decide) (by decide)
    have h18 := hc 18 (by decide) (by decide)
    have h19 := hc 19 (by decide) (by decide)
    constructor
    · simp only [sxN, nb, sumN, h0, h1, h2, h3, h4, h5, h6, h8, h9, h10, h12, h14, h15, h16, h18, h19, Bool.false_eq_true, if_false, Nat.add_zero, Nat.zero_add, Nat.reduceLeDiff, Nat.reduceLT, Nat.reduceSub, Nat.reduceAdd, if_true]
    · simp only [cxN, nb, cntN, h0, h1, h2, h3, h4, h5, h6, h8, h9, h10, h12, h14, h15, h16, h18, h19, Bool.false_eq_true, if_false, Nat.add_zero, Nat.zero_add, Nat.reduceLeDiff, Nat.reduceLT, Nat.reduceSub, Nat.reduceAdd, if_true]
  | 13, _ =>
    have h0 := hc 0 (by decide) (by decide)
    have h1 := hc 1 (by decide) (by decide)
    have h2 := hc 2 (by decide) (by decide)
    have h3 := hc 3 (by decide) (by decide)
    have h4 := hc 4 (by decide) (by decide)
    have h5 := hc 5 (by decide) (by decide)
    have h6 := hc 6 (by decide) (by decide)
    have h7 := hc 7 (by decide) (by decide)
    have h9 := hc 9 (by decide) (by decide)
    have h10 := hc 10 (by decide) (by decide)
    have h11 := hc 11 (by decide) (by decide)
    have h13 := hc 13 (by decide) (by decide)
    have h15 := hc 15 (by decide) (by decide)
    have h16 := hc 16 (by decide) (by decide)
    have h17 := hc 17 (by decide) (by decide)
    have h19 := hc 19 (by decide) (by decide)
    constructor
    · simp only [sxN, nb, sumN, h0, h1, h2, h3, h4, h5, h6, h7, h9, h10, h11, h13, h15, h16, h17, h19, Bool.false_eq_true, if_false, Nat.add_zero, Nat.zero_add, Nat.reduceLeDiff, Nat.reduceLT, Nat.reduceSub, Nat.reduceAdd, if_true]
    · simp only [cxN, nb, cntN, h0, h1, h2, h3, h4, h5, h6, h7, h9, h10, h11, h13, h15, h16, h17, h19, Bool.false_eq_true, if_false, Nat.add_zero, Nat.zero_add, Nat.reduceLeDiff, Nat.reduceLT, Nat.reduceSub, Nat.reduceAdd, if_true]
  | 14, _ =>
    have h0 := hc 0 (by decide) (by decide)
    have h1 := hc 1 (by decide) (by decide)
    have h2 := hc 2 (by decide) (by decide)
    have h3 := hc 3 (by decide) (by decide)
    have h4 := hc 4 (by decide) (by decide)
    have h5 := hc 5 (by decide) (by decide)
    have h6 := hc 6 (by decide) (by decide)
    have h7 := hc 7 (by decide) (by decide)
    have h8 := hc 8 (by decide) (by decide)
    have h10 := hc 10 (by decide) (by decide)
    have h11 := hc 11 (by decide) (by decide)
    have h12 := hc 12 (by decide) (by decide)
    have h14 := hc 14 (by decide) (by decide)
    have h15 := hc 15 (by decide) (by decide)
    have h16 := hc 16 (by decide) (by decide)
    have h17 := hc 17 (by decide) (by decide)
    have h18 := hc 18 (by decide) (by decide)
    constructor
    · simp only [sxN, nb, sumN, h0, h1, h2, h3, h4, h5, h6, h7, h8, h10, h11, h12, h14, h15, h16, h17, h18, Bool.false_eq_true, if_false, Nat.add_zero, Nat.zero_add, Nat.reduceLeDiff, Nat.reduceLT, Nat.reduceSub, Nat.reduceAdd, if_true]
    · simp only [cxN, nb, cntN, h0, h1, h2, h3, h4, h5, h6, h7, h8, h10, h11, h12, h14, h15, h16, h17, h18, Bool.false_eq_true, if_false, Nat.add_zero, Nat.zero_add, Nat.reduceLeDiff, Nat.reduceLT, Nat.reduceSub, Nat.reduceAdd, if_true]
  | 15, _ =>
    have h0 := hc 0 (by decide) (by decide)
    have h1 := hc 1 (by decide) (by decide)
    have h2 := hc 2 (by decide) (by decide)
    have h3 := hc 3 (by decide) (by decide)
    have h4 := hc 4 (by decide) (by decide)
    have h5 := hc 5 (by decide) (by decide)
    have h6 := hc 6 (by decide) (by decide)
    have h7 := hc 7 (by decide) (by decide)
    have h8 := hc 8 (by decide) (by decide)
    have h9 := hc 9 (by decide) (by decide)
    have h11 := hc 11 (by decide) (by decide)
    have h12 := hc 12 (by decide) (by decide)
    have h13 := hc 13 (by decide) (by decide)
    have h14 := hc 14 (by decide) (by decide)
    have h15 := hc 15 (by decide) (by decide)
    have h17 := hc 17 (by decide) (by decide)
    have h18 := hc 18 (by decide) (by decide)
    have h19 := hc 19 (by decide) (by decide)
    constructor
    · simp only [sxN, nb, sumN, h0, h1, h2, h3, h4, h5, h6, h7, h8, h9, h11, h12, h13, h14, h15, h17, h18, h19, Bool.false_eq_true, if_false, Nat.add_zero, Nat.zero_add, Nat.reduceLeDiff, Nat.reduceLT, Nat.reduceSub, Nat.reduceAdd, if_true]
    · simp only [cxN, nb, cntN, h0, h1, h2, h3, h4, h5, h6, h7, h8, h9, h11, h12, h13, h14, h15, h17, h18, h19, Bool.false_eq_true, if_false, Nat.add_zero, Nat.zero_add, Nat.reduceLeDiff, Nat.reduceLT, Nat.reduceSub, Nat.reduceAdd, if_true]
  | 16, _ =>
    have h0 := hc 0 (by decide) (by decide)
    have h1 := hc 1 (by decide) (by decide)
    have h2 := hc 2 (by decide) (by decide)
    have h3 := hc 3 (by decide) (by decide)
    have h4 := hc 4 (by decide) (by decide)
    have h5 := hc 5 (by decide) (by decide)
    have h6 := hc 6 (by decide) (by decide)
    have h7 := hc 7 (by decide) (by decide)
    have h8 := hc 8 (by decide) (by decide)
    have h9 := hc 9 (by decide) (by decide)
    have h10 := hc 10 (by decide) (by decide)
    have h12 := hc 12 (by decide) (by decide)
    have h13 := hc 13 (by decide) (by decide)
    have h14 := hc 14 (by decide) (by decide)
    have h16 := hc 16 (by decide) (by decide)
    have h18 := hc 18 (by decide) (by decide)
    have h19 := hc 19 (by decide) (by decide)
    constructor
    · simp only [sxN, nb, sumN, h0, h1, h2, h3, h4, h5, h6, h7, h8, h9, h10, h12, h13, h14, h16, h18, h19, Bool.false_eq_true, if_false, Nat.add_zero, Nat.zero_add, Nat.reduceLeDiff, Nat.reduceLT, Nat.reduceSub, Nat.reduceAdd, if_true]
    · simp only [cxN, nb, cntN, h0, h1, h2, h3, h4, h5, h6, h7, h8, h9, h10, h12, h13, h14, h16, h18, h19, Bool.false_eq_true, if_false, Nat.add_zero, Nat.zero_add, Nat.reduceLeDiff, Nat.reduceLT, Nat.reduceSub, Nat.reduceAdd, if_true]
  | 17, _ =>
    have h0 := hc 0 (by decide) (by decide)
    have h1 := hc 1 (by decide) (by decide)
    have h2 := hc 2 (by decide) (by decide)
    have h3 := hc 3 (by decide) (by decide)
    have h4 := hc 4 (by decide) (by decide)
    have h5 := hc 5 (by decide) (by decide)
    have h6 := hc 6 (by decide) (by decide)
    have h7 := hc 7 (by decide) (by decide)
    have h8 := hc 8 (by decide) (by decide)
    have h9 := hc 9 (by decide) (by decide)
    have h10 := hc 10 (by decide) (by decide)
    have h11 := hc 11 (by decide) (by decide)
    have h13 := hc 13 (by decide) (by decide)
    have h14 := hc 14 (by decide) (by decide)
    have h15 := hc 15 (by decide) (by decide)
    have h17 := hc 17 (by decide) (by decide)
    have h19 := hc 19 (by decide) (by decide)
    constructor
    · simp only [sxN, nb, sumN, h0, h1, h2, h3, h4, h5, h6, h7, h8, h9, h10, h11, h13, h14, h15, h17, h19, Bool.false_eq_true, if_false, Nat.add_zero, Nat.zero_add, Nat.reduceLeDiff, Nat.reduceLT, Nat.reduceSub, Nat.reduceAdd, if_true]
    · simp only [cxN, nb, cntN, h0, h1, h2, h3, h4, h5, h6, h7, h8, h9, h10, h11, h13, h14, h15, h17, h19, Bool.false_eq_true, if_false, Nat.add_zero, Nat.zero_add, Nat.reduceLeDiff, Nat.reduceLT, Nat.reduceSub, Nat.reduceAdd, if_true]
  | 18, _ =>
    have h0 := hc 0 (by decide) (by decide)
    have h1 := hc 1 (by decide) (by decide)
    have h2 := hc 2 (by decide) (by decide)
    have h3 := hc 3 (by decide) (by decide)
    have h4 := hc 4 (by decide) (by decide)
    have h5 := hc 5 (by decide) (by decide)
    have h6 := hc 6 (by decide) (by decide)
    have h7 := hc 7 (by decide) (by decide)
    have h8 := hc 8 (by decide) (by decide)
    have h9 := hc 9 (by decide) (by decide)
    have h10 := hc 10 (by decide) (by decide)
    have h11 := hc 11 (by decide) (by decide)
    have h12 := hc 12 (by decide) (by decide)
    have h14 := hc 14 (by decide) (by decide)
    have h15 := hc 15 (by decide) (by decide)
    have h16 := hc 16 (by decide) (by decide)
    have h18 := hc 18 (by decide) (by decide)
    constructor
    · simp only [sxN, nb, sumN, h0, h1, h2, h3, h4, h5, h6, h7, h8, h9, h10, h11, h12, h14, h15, h16, h18, Bool.false_eq_true, if_false, Nat.add_zero, Nat.zero_add, Nat.reduceLeDiff, Nat.reduceLT, Nat.reduceSub, Nat.reduceAdd, if_true]
    · simp only [cxN, nb, cntN, h0, h1, h2, h3, h4, h5, h6, h7, h8, h9, h10, h11, h12, h14, h15, h16, h18, Bool.false_eq_true, if_false, Nat.add_zero, Nat.zero_add, Nat.reduceLeDiff, Nat.reduceLT, Nat.reduceSub, Nat.reduceAdd, if_true]
  | 19, _ =>
    have h0 := hc 0 (by decide) (by decide)
    have h1 := hc 1 (by decide) (by decide)
    have h2 := hc 2 (by decide) (by decide)
    have h3 := hc 3 (by decide) (by decide)
    have h4 := hc 4 (by decide) (by decide)
    have h5 := hc 5 (by decide) (by decide)
    have h6 := hc 6 (by decide) (by decide)
    have h7 := hc 7 (by decide) (by decide)
    have h8 := hc 8 (by decide) (by decide)
    have h9 := hc 9 (by decide) (by decide)
    have h10 := hc 10 (by decide) (by decide)
    have h11 := hc 11 (by decide) (by decide)
    have h12 := hc 12 (by decide) (by decide)
    have h13 := hc 13 (by decide) (by decide)
    have h15 := hc 15 (by decide) (by decide)
    have h16 := hc 16 (by decide) (by decide)
    have h17 := hc 17 (by decide) (by decide)
    have h19 := hc 19 (by decide) (by decide)
    constructor
    · simp only [sxN, nb, sumN, h0, h1, h2, h3, h4, h5, h6, h7, h8, h9, h10, h11, h12, h13, h15, h16, h17, h19, Bool.false_eq_true, if_false, Nat.add_zero, Nat.zero_add, Nat.reduceLeDiff, Nat.reduceLT, Nat.reduceSub, Nat.reduceAdd, if_true]
    · simp only [cxN, nb, cntN, h0, h1, h2, h3, h4, h5, h6, h7, h8, h9, h10, h11, h12, h13, h15, h16, h17, h19, Bool.false_eq_true, if_false, Nat.add_zero, Nat.zero_add, Nat.reduceLeDiff, Nat.reduceLT, Nat.reduceSub, Nat.reduceAdd, if_true]
  | n + 20, h => exact absurd h (by omega)
theorem nI_min {a b : Nat} (ha : a < 2 ^ 31) (hb : b < 2 ^ 31) : (if nI b < nI a then nI b else nI a) = nI (min a b) := by
  by_cases h : b < a
  · rw [if_pos (nI_lt h ha), Nat.min_eq_right (by omega)]
  · rw [if_neg (fun q => h ((nI_ltI hb ha).mp q)), Nat.min_eq_left (by omega)]
section S46
variable {L : Nat} {xs : Nat → Int32} {d : Nat} {w : x_W} {Q : Option Value → x_W → Prop}
theorem S177 {k : Nat} (hs : Sh w) : X_R L xs d 177 0 [.ref 41, .int (nI k)] [] w Q = Q (some (.int (bv (x_i w 41 1) (nI k)))) w := by
  simp only [X177_0, X177_1, X177_4, X177_5, X177_6, X177_7, X177_8, X177_9, X177_12, X177_13, X177_16, X177_17, Nat.zero_le, and_true, true_and, x_nb0, x_nb1, x_nbp, x_isL_int, x_isL_ref, x_isL_junk, x_isR_ref, x_cat_nil, x_cat_int, x_cat_ref, x_cat_long, Option.toList_some, Option.toList_none, List.cons_append, List.nil_append, Nat.reduceAdd, Nat.reduceLeDiff, Nat.reduceLT, t_tag_si, t_tag_sr, t_tag_sI, x_r_si, x_i_sr, t_r_sI, x_ia_si, x_ia_sI, x_ia_sr, x_ra_si, x_ra_sI, x_ra_sr, g_t41 hs]
  have e : x_i w 41 1 >>> (nI k &&& 31) &&& nI 1 = bv (x_i w 41 1) (nI k) := rfl
  rw [e]
  rcases bv_cases (x_i w 41 1) (nI k) with h | h
  · rw [h, if_neg (by decide)]
  · rw [h, if_pos rfl]
theorem S176 {k l : Nat} {p : Nat → Nat} (hs : Sh w) (hk : k < 20) (hl : x_i w 60 k = nI l) (hl9 : l ≤ 9000) (hp : ∀ o, o < 20 → x_i w 62 o = nI (p o) ∧ p o ≤ 999) :
    X_R L xs (d + 1) 176 0 [.ref 41, .int (nI k), x_junk, x_junk, x_junk] [] w Q = Q (some (.int (nI (snkN (cbN (x_i w 42) k) (tbN (x_i w 41 1) k) l p)))) w := by
  have hkx := x_ix_nI hk (show 20 < 2 ^ 31 by decide)
  have hkc := nI_cl (show k < 2 ^ 31 by omega)
  have hfin : ∀ many sum : Nat, many ≤ 20 → sum ≤ 40000 → X_R L xs (d + 1) 176 77 [.ref 41, .int (nI k), .int (nI many), .int (nI sum), .int (nI 20)] [] w Q = Q (some (.int (nI (if many = 0 then 999 else min 999 (sum / many))))) w := by
    intro many sum hm hsu
    by_cases h0 : many = 0
    · subst h0
      simp only [X176_77, X176_78, X176_81, X176_84, X176_97, Nat.zero_le, and_true, true_and, x_nb0, x_nb1, x_nbp, x_isL_int, x_isL_ref, x_isL_junk, x_isR_ref, x_cat_nil, x_cat_int, x_cat_ref, x_cat_long, Option.toList_some, Option.toList_none, List.cons_append, List.nil_append, Nat.reduceAdd, Nat.reduceLeDiff, Nat.reduceLT, t_tag_si, t_tag_sr, t_tag_sI, x_r_si, x_i_sr, t_r_sI, x_ia_si, x_ia_sI, x_ia_sr, x_ra_si, x_ra_sI, x_ra_sr, if_true]
    · have hne : (nI many = nI 0) = False := nI_eqF h0 (by omega) (by decide)
      have hdv : nI sum / nI many = nI (sum / many) := pk_div (by omega) (by omega) (by omega)
      have hq : sum / many ≤ sum := Nat.div_le_self _ _
      have h0le : (nI 0 ≤ nI (sum / many)) = True := nI_leT (Nat.zero_le _) (by omega)
      simp only [X176_77, X176_78, X176_87, X176_88, X176_89, X176_90, X176_91, X176_94, X176_97, Nat.zero_le, and_true, true_and, x_nb0, x_nb1, x_nbp, x_isL_int, x_isL_ref, x_isL_junk, x_isR_ref, x_cat_nil, x_cat_int, x_cat_ref, x_cat_long, Option.toList_some, Option.toList_none, List.cons_append, List.nil_append, Nat.reduceAdd, Nat.reduceLeDiff, Nat.reduceLT, t_tag_si, t_tag_sr, t_tag_sI, x_r_si, x_i_sr, t_r_sI, x_ia_si, x_ia_sI, x_ia_sr, x_ra_si, x_ra_sI, x_ra_sr, hne, if_false, not_false_eq_true, hdv, S166, h0le, if_true, h0]
      by_cases h9 : sum / many ≤ 999
      · rw [if_pos (nI_le h9 (by decide)), Nat.min_eq_right h9]
      · rw [if_neg (nI_ge (by omega) (by omega)), Nat.min_eq_left (by omega)]
  have loop : ∀ n j, j + n = 20 → X_R L xs (d + 1) 176 22 [.ref 41, .int (nI k), .int (nI (cntN (cbN (x_i w 42) k) j)), .int (nI (l + sumN (cbN (x_i w 42) k) p j)), .int (nI j)] [] w Q = Q (some (.int (nI (if cntN (cbN (x_i w 42) k) 20 = 0 then 999 else min 999 ((l + sumN (cbN (x_i w 42) k) p 20) / cntN (cbN (x_i w 42) k) 20))))) w := by
    intro n
    induction n with
    | zero =>
      intro j hj
      obtain rfl : j = 20 := by omega
      have h1 := cntN_le (cbN (x_i w 42) k) 20
      have h2 := sumN_le (cbN (x_i w 42) k) p 999 20 (fun o ho => (hp o ho).2)
      rw [X176_22]
      simp only [X176_24, X176_26, Nat.zero_le, and_true, true_and, x_nb0, x_nb1, x_nbp, x_isL_int, x_isL_ref, x_isL_junk, x_isR_ref, x_cat_nil, x_cat_int, x_cat_ref, x_cat_long, Option.toList_some, Option.toList_none, List.cons_append, List.nil_append, Nat.reduceAdd, Nat.reduceLeDiff, Nat.reduceLT, t_tag_si, t_tag_sr, t_tag_sI, x_r_si, x_i_sr, t_r_sI, x_ia_si, x_ia_sI, x_ia_sr, x_ra_si, x_ra_sI, x_ra_sr, nI_leT (Nat.le_refl 20) (by decide), if_true]
      exact hfin _ _ h1 (by omega)
    | succ n ih =>
      intro j hj
      have hix := x_ix_nI (show j < 20 by omega) (show 20 < 2 ^ 31 by decide)
      have hjc := nI_cl (show j < 2 ^ 31 by omega)
      have e := ih (j + 1) (by omega)
      have hpj := (hp j (by omega)).1
      unfold cntN sumN at e
      rw [X176_22]
      rcases bv_cases (x_i w 42 k) (nI j) with hb | hb
      · have hc : cbN (x_i w 42) k j = false := by unfold cbN; rw [hb]; decide
        rw [hc] at e
        simp only [Bool.false_eq_true, if_false] at e
        simp only [X176_0, X176_1, X176_2, X176_5, X176_8, X176_9, X176_10, X176_11, X176_12, X176_13, X176_16, X176_17, X176_18, X176_19, X176_20, X176_24, X176_26, X176_29, X176_30, X176_31, X176_32, X176_34, X176_37, X176_40, X176_41, X176_44, X176_45, X176_46, X176_47, X176_48, X176_49, X176_50, X176_52, X176_55, X176_58, X176_59, X176_62, X176_64, X176_65, X176_68, X176_69, X176_70, X176_71, X176_74, Nat.zero_le, and_true, true_and, x_nb0, x_nb1, x_nbp, x_isL_int, x_isL_ref, x_isL_junk, x_isR_ref, x_cat_nil, x_cat_int, x_cat_ref, x_cat_long, Option.toList_some, Option.toList_none, List.cons_append, List.nil_append, Nat.reduceAdd, Nat.reduceLeDiff, Nat.reduceLT, t_tag_si, t_tag_sr, t_tag_sI, x_r_si, x_i_sr, t_r_sI, x_ia_si, x_ia_sI, x_ia_sr, x_ra_si, x_ra_sI, x_ra_sr, nI_leF (show j < 20 by omega) (by decide), if_false, g_t41 hs, S152 hs hkx, hkc, hb, if_true, nI_add]
        exact e
      · have hc : cbN (x_i w 42) k j = true := by unfold cbN; rw [hb]; decide
        rw [hc] at e
        simp only [if_true] at e
        simp only [X176_0, X176_1, X176_2, X176_5, X176_8, X176_9, X176_10, X176_11, X176_12, X176_13, X176_16, X176_17, X176_18, X176_19, X176_20, X176_24, X176_26, X176_29, X176_30, X176_31, X176_32, X176_34, X176_37, X176_40, X176_41, X176_44, X176_45, X176_46, X176_47, X176_48, X176_49, X176_50, X176_52, X176_55, X176_58, X176_59, X176_62, X176_64, X176_65, X176_68, X176_69, X176_70, X176_71, X176_74, Nat.zero_le, and_true, true_and, x_nb0, x_nb1, x_nbp, x_isL_int, x_isL_ref, x_isL_junk, x_isR_ref, x_cat_nil, x_cat_int, x_cat_ref, x_cat_long, Option.toList_some, Option.toList_none, List.cons_append, List.nil_append, Nat.reduceAdd, Nat.reduceLeDiff, Nat.reduceLT, t_tag_si, t_tag_sr, t_tag_sI, x_r_si, x_i_sr, t_r_sI, x_ia_si, x_ia_sI, x_ia_sr, x_ra_si, x_ra_sI, x_ra_sr, nI_leF (show j < 20 by omega) (by decide), if_false, g_t41 hs, S152 hs hkx, hkc, hb, n10, g_r41_36 hs, g_a62 hs, hix, hjc, hpj, nI_add, Nat.add_assoc]
        exact e
  rcases bv_cases (x_i w 41 1) (nI k) with hb | hb
  · have ht : tbN (x_i w 41 1) k = false := by unfold tbN; rw [hb]; decide
    have h0 := loop 20 0 rfl
    simp only [X176_0, X176_1, X176_2, X176_5, X176_10, X176_11, X176_12, X176_13, X176_16, X176_17, X176_18, X176_19, X176_20, Nat.zero_le, and_true, true_and, x_nb0, x_nb1, x_nbp, x_isL_int, x_isL_ref, x_isL_junk, x_isR_ref, x_cat_nil, x_cat_int, x_cat_ref, x_cat_long, Option.toList_some, Option.toList_none, List.cons_append, List.nil_append, Nat.reduceAdd, Nat.reduceLeDiff, Nat.reduceLT, t_tag_si, t_tag_sr, t_tag_sI, x_r_si, x_i_sr, t_r_sI, x_ia_si, x_ia_sI, x_ia_sr, x_ra_si, x_ra_sI, x_ra_sr, g_t41 hs, S177 hs, hb, if_true, g_r41_34 hs, g_a60 hs, hkx, hkc, hl, snkN, ht, Bool.false_eq_true, if_false]
    exact h0
  · have ht : tbN (x_i w 41 1) k = true := by unfold tbN; rw [hb]; decide
    simp only [X176_0, X176_1, X176_2, X176_5, X176_8, X176_9, Nat.zero_le, and_true, true_and, x_nb0, x_nb1, x_nbp, x_isL_int, x_isL_ref, x_isL_junk, x_isR_ref, x_cat_nil, x_cat_int, x_cat_ref, x_cat_long, Option.toList_some, Option.toList_none, List.cons_append, List.nil_append, Nat.reduceAdd, Nat.reduceLeDiff, Nat.reduceLT, t_tag_si, t_tag_sr, t_tag_sI, x_r_si, x_i_sr, t_r_sI, x_ia_si, x_ia_sI, x_ia_sr, x_ra_si, x_ra_sI, x_ra_sr, g_t41 hs, S177 hs, hb, n10, if_false, snkN, ht, if_true]
theorem S92 {k l A : Nat} {p : Nat → Nat} (hs : Sh w) (hk : k < 20) (hl : x_i w 25 k = nI l) (hl9 : l ≤ 9000) (hA : x_r w 23 4 = .ref A) (hAt : ∀ i, x_ia w A i = x_ix i 20) (hp : ∀ o, o < 20 → x_i w A o = nI (p o) ∧ p o ≤ 999) (hc : ∀ o, o < 20 → besN k o = false → cbN (x_i w 24) k o = false) :
    X_R L xs (d + 1) 92 0 [.ref 23, .int (nI k), x_junk, x_junk, x_junk, x_junk] [] w Q = Q (some (.int (nI (snkN (cbN (x_i w 24) k) (tbN (x_i w 23 1) k) l p)))) w := by
  have hkx := x_ix_nI hk (show 20 < 2 ^ 31 by decide)
  have hkc := nI_cl (show k < 2 ^ 31 by omega)
  obtain ⟨n1, n2⟩ := nb_sum k hk (cbN (x_i w 24) k) p hc
  have hcx := cntN_le (cbN (x_i w 24) k) 20
  have hsx := sumN_le (cbN (x_i w 24) k) p 999 20 (fun o ho => (hp o ho).2)
  have hfin : ∀ (many sum : Nat) (v5 : Value), many ≤ 20 → sum ≤ 40000 → X_R L xs (d + 1) 92 71 [.ref 23, .int (nI k), .int (nI sum), .int (nI many), .int (nI 4), v5] [] w Q = Q (some (.int (nI (if many = 0 then 999 else min 999 (sum / many))))) w := by
    intro many sum v5 hm hsu
    by_cases h0 : many = 0
    · subst h0
      simp only [X92_71, X92_72, X92_75, X92_78, X92_90, Nat.zero_le, and_true, true_and, x_nb0, x_nb1, x_nbp, x_isL_int, x_isL_ref, x_isL_junk, x_isR_ref, x_cat_nil, x_cat_int, x_cat_ref, x_cat_long, Option.toList_some, Option.toList_none, List.cons_append, List.nil_append, Nat.reduceAdd, Nat.reduceLeDiff, Nat.reduceLT, t_tag_si, t_tag_sr, t_tag_sI, x_r_si, x_i_sr, t_r_sI, x_ia_si, x_ia_sI, x_ia_sr, x_ra_si, x_ra_sI, x_ra_sr, if_true]
    · have hne : (nI many = nI 0) = False := nI_eqF h0 (by omega) (by decide)
      have hdv : nI sum / nI many = nI (sum / many) := pk_div (by omega) (by omega) (by omega)
      have hq : sum / many ≤ sum := Nat.div_le_self _ _
      simp only [X92_71, X92_72, X92_81, X92_84, X92_85, X92_86, X92_87, X92_90, Nat.zero_le, and_true, true_and, x_nb0, x_nb1, x_nbp, x_isL_int, x_isL_ref, x_isL_junk, x_isR_ref, x_cat_nil, x_cat_int, x_cat_ref, x_cat_long, Option.toList_some, Option.toList_none, List.cons_append, List.nil_append, Nat.reduceAdd, Nat.reduceLeDiff, Nat.reduceLT, t_tag_si, t_tag_sr, t_tag_sI, x_r_si, x_i_sr, t_r_sI, x_ia_si, x_ia_sI, x_ia_sr, x_ra_si, x_ra_sI, x_ra_sr, hne, if_false, not_false_eq_true, hdv, h0, nI_min (show 999 < 2 ^ 31 by decide) (show sum / many < 2 ^ 31 by omega)]
  have loop : ∀ n j (v5 : Value), j + n = 4 → X_R L xs (d + 1) 92 26 [.ref 23, .int (nI k), .int (nI (l + sxN k (cbN (x_i w 24) k) p j)), .int (nI (cxN k (cbN (x_i w 24) k) j)), .int (nI j), v5] [] w Q = Q (some (.int (nI (if cntN (cbN (x_i w 24) k) 20 = 0 then 999 else min 999 ((l + sumN (cbN (x_i w 24) k) p 20) / cntN (cbN (x_i w 24) k) 20))))) w := by
    intro n
    induction n with
    | zero =>
      intro j v5 hj
      obtain rfl : j = 4 := by omega
      rw [X92_26, n1, n2]
      simp only [X92_28, X92_29, Nat.zero_le, and_true, true_and, x_nb0, x_nb1, x_nbp, x_isL_int, x_isL_ref, x_isL_junk, x_isR_ref, x_cat_nil, x_cat_int, x_cat_ref, x_cat_long, Option.toList_some, Option.toList_none, List.cons_append, List.nil_append, Nat.reduceAdd, Nat.reduceLeDiff, Nat.reduceLT, t_tag_si, t_tag_sr, t_tag_sI, x_r_si, x_i_sr, t_r_sI, x_ia_si, x_ia_sI, x_ia_sr, x_ra_si, x_ra_sI, x_ra_sr, nI_leT (Nat.le_refl 4) (by decide), if_true]
      exact hfin _ _ _ hcx (by omega)
    | succ n ih =>
      intro j v5 hj
      have hjx := x_ix_nI (show j < 4 by omega) (show 4 < 2 ^ 31 by decide)
      have hjc := nI_cl (show j < 2 ^ 31 by omega)
      have hnb := nb_fact k hk j (by omega)
      have e := ih (j + 1)
      have est : ([-5, -1, 1, 5] : List Int32).getD j 0 = stN j := rfl
      unfold sxN cxN at e
      rw [X92_26]
      cases hn : nb k j with
      | none =>
        rw [hn] at hnb
        have hnb' : ¬ (kn (nI k) ∧ kn (nI k + stN j)) := fun q => absurd q.2 (of_decide_eq_true hnb)
        have e2 := e (.int (nI k + stN j)) (by omega)
        rw [hn] at e2
        simp only [Nat.add_zero] at e2
        simp only [X92_28, X92_29, X92_32, X92_33, X92_36, X92_38, X92_38s, X92_39, X92_40, X92_42, X92_43, X92_44, X92_46, X92_49, X92_65, X92_68, Nat.zero_le, and_true, true_and, x_nb0, x_nb1, x_nbp, x_isL_int, x_isL_ref, x_isL_junk, x_isR_ref, x_cat_nil, x_cat_int, x_cat_ref, x_cat_long, Option.toList_some, Option.toList_none, List.cons_append, List.nil_append, Nat.reduceAdd, Nat.reduceLeDiff, Nat.reduceLT, t_tag_si, t_tag_sr, t_tag_sI, x_r_si, x_i_sr, t_r_sI, x_ia_si, x_ia_sI, x_ia_sr, x_ra_si, x_ra_sI, x_ra_sr, nI_leF (show j < 4 by omega) (by decide), if_false, g_t23 hs, hjx, hjc, est, S88f hnb', if_true, nI_add]
        exact e2
      | some o =>
        rw [hn] at hnb
        obtain ⟨ho, hoe⟩ := of_decide_eq_true hnb
        have hox := x_ix_nI ho (show 20 < 2 ^ 31 by decide)
        have hoc := nI_cl (show o < 2 ^ 31 by omega)
        have hpo := (hp o ho).1
        have e2 := e (.int (nI o)) (by omega)
        rw [hn] at e2
        rcases bv_cases (x_i w 24 k) (nI o) with hb | hb
        · have hcb : cbN (x_i w 24) k o = false := by unfold cbN; rw [hb]; decide
          simp only [hcb, Bool.false_eq_true, if_false, Nat.add_zero] at e2
          simp only [X92_28, X92_29, X92_32, X92_33, X92_36, X92_38, X92_38s, X92_39, X92_40, X92_42, X92_43, X92_44, X92_46, X92_49, X92_65, X92_68, Nat.zero_le, and_true, true_and, x_nb0, x_nb1, x_nbp, x_isL_int, x_isL_ref, x_isL_junk, x_isR_ref, x_cat_nil, x_cat_int, x_cat_ref, x_cat_long, Option.toList_some, Option.toList_none, List.cons_append, List.nil_append, Nat.reduceAdd, Nat.reduceLeDiff, Nat.reduceLT, t_tag_si, t_tag_sr, t_tag_sI, x_r_si, x_i_sr, t_r_sI, x_ia_si, x_ia_sI, x_ia_sr, x_ra_si, x_ra_sI, x_ra_sr, nI_leF (show j < 4 by omega) (by decide), if_false, g_t23 hs, hjx, hjc, est, hoe, S88t hs (kn_nI hk) (kn_nI ho), hkc, hb, if_true, nI_add]
          exact e2
        · have hcb : cbN (x_i w 24) k o = true := by unfold cbN; rw [hb]; decide
          simp only [hcb, if_true] at e2
          simp only [X92_28, X92_29, X92_32, X92_33, X92_36, X92_38, X92_38s, X92_39, X92_40, X92_42, X92_43, X92_44, X92_46, X92_49, X92_52, X92_53, X92_54, X92_57, X92_59, X92_59s, X92_60, X92_61, X92_62, X92_65, X92_68, Nat.zero_le, and_true, true_and, x_nb0, x_nb1, x_nbp, x_isL_int, x_isL_ref, x_isL_junk, x_isR_ref, x_cat_nil, x_cat_int, x_cat_ref, x_cat_long, Option.toList_some, Option.toList_none, List.cons_append, List.nil_append, Nat.reduceAdd, Nat.reduceLeDiff, Nat.reduceLT, t_tag_si, t_tag_sr, t_tag_sI, x_r_si, x_i_sr, t_r_sI, x_ia_si, x_ia_sI, x_ia_sr, x_ra_si, x_ra_sI, x_ra_sr, nI_leF (show j < 4 by omega) (by decide), if_false, g_t23 hs, hA, hAt, hjx, hjc, est, hoe, S88t hs (kn_nI hk) (kn_nI ho), hkc, hb, n10, hox, hoc, hpo, nI_add, Nat.add_assoc]
          exact e2
  have et : x_i w 23 1 >>> (nI k &&& 31) &&& nI 1 = bv (x_i w 23 1) (nI k) := rfl
  rcases bv_cases (x_i w 23 1) (nI k) with hb | hb
  · have ht : tbN (x_i w 23 1) k = false := by unfold tbN; rw [hb]; decide
    have h0 := loop 4 0 x_junk rfl
    have e01 : (nI 0 = nI 1) = False := nI_eqF (by decide) (by decide) (by decide)
    simp only [X92_0, X92_1, X92_4, X92_5, X92_6, X92_7, X92_8, X92_9, X92_14, X92_15, X92_18, X92_19, X92_19s, X92_20, X92_21, X92_22, X92_23, X92_24, Nat.zero_le, and_true, true_and, x_nb0, x_nb1, x_nbp, x_isL_int, x_isL_ref, x_isL_junk, x_isR_ref, x_cat_nil, x_cat_int, x_cat_ref, x_cat_long, Option.toList_some, Option.toList_none, List.cons_append, List.nil_append, Nat.reduceAdd, Nat.reduceLeDiff, Nat.reduceLT, t_tag_si, t_tag_sr, t_tag_sI, x_r_si, x_i_sr, t_r_sI, x_ia_si, x_ia_sI, x_ia_sr, x_ra_si, x_ra_sI, x_ra_sr, g_t23 hs, et, hb, e01, if_false, g_r23_2 hs, g_a25 hs, hkx, hkc, hl, snkN, ht, Bool.false_eq_true]
    exact h0
  · have ht : tbN (x_i w 23 1) k = true := by unfold tbN; rw [hb]; decide
    simp only [X92_0, X92_1, X92_4, X92_5, X92_6, X92_7, X92_8, X92_9, X92_12, X92_13, Nat.zero_le, and_true, true_and, x_nb0, x_nb1, x_nbp, x_isL_int, x_isL_ref, x_isL_junk, x_isR_ref, x_cat_nil, x_cat_int, x_cat_ref, x_cat_long, Option.toList_some, Option.toList_none, List.cons_append, List.nil_append, Nat.reduceAdd, Nat.reduceLeDiff, Nat.reduceLT, t_tag_si, t_tag_sr, t_tag_sI, x_r_si, x_i_sr, t_r_sI, x_ia_si, x_ia_sI, x_ia_sr, x_ra_si, x_ra_sI, x_ra_sr, g_t23 hs, et, hb, if_true, snkN, ht]
end S46
