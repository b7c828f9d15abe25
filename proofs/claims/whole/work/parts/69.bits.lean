/-! ===== sets of knots as masks ===== -/
def meB (x : Int32) (k : Nat) : Bool := decide (bv x (nI k) = nI 1)
theorem i32_or_and (x y z : Int32) : (x ||| y) &&& z = (x &&& z) ||| (y &&& z) := by
  apply Int32.toBitVec_inj.1
  simp only [Int32.toBitVec_and, Int32.toBitVec_or]
  apply BitVec.eq_of_getLsbD_eq
  intro i hi
  simp only [BitVec.getLsbD_and, BitVec.getLsbD_or]
  cases x.toBitVec.getLsbD i <;> cases y.toBitVec.getLsbD i <;> cases z.toBitVec.getLsbD i <;> rfl
theorem i32_and_and (x y z : Int32) : (x &&& y) &&& z = (x &&& z) &&& (y &&& z) := by
  apply Int32.toBitVec_inj.1
  simp only [Int32.toBitVec_and]
  apply BitVec.eq_of_getLsbD_eq
  intro i hi
  simp only [BitVec.getLsbD_and]
  cases x.toBitVec.getLsbD i <;> cases y.toBitVec.getLsbD i <;> cases z.toBitVec.getLsbD i <;> rfl
theorem i32_xor_and (x y z : Int32) : (x ^^^ y) &&& z = (x &&& z) ^^^ (y &&& z) := by
  apply Int32.toBitVec_inj.1
  simp only [Int32.toBitVec_and, Int32.toBitVec_xor]
  apply BitVec.eq_of_getLsbD_eq
  intro i hi
  simp only [BitVec.getLsbD_and, BitVec.getLsbD_xor]
  cases x.toBitVec.getLsbD i <;> cases y.toBitVec.getLsbD i <;> cases z.toBitVec.getLsbD i <;> rfl
theorem bv_or (x y b : Int32) : bv (x ||| y) b = bv x b ||| bv y b := by
  unfold bv
  rw [Int32.shiftRight_or, i32_or_and]
theorem bv_and (x y b : Int32) : bv (x &&& y) b = bv x b &&& bv y b := by
  unfold bv
  rw [Int32.shiftRight_and, i32_and_and]
theorem bv_xor (x y b : Int32) : bv (x ^^^ y) b = bv x b ^^^ bv y b := by
  unfold bv
  rw [Int32.shiftRight_xor, i32_xor_and]
theorem bv_m1 : ∀ k, k < 32 → bv (-1) (nI k) = nI 1 := by decide +kernel
theorem meB_or (x y : Int32) (k : Nat) : meB (x ||| y) k = (meB x k || meB y k) := by
  unfold meB
  rw [bv_or]
  rcases bv_cases x (nI k) with h1 | h1 <;> rcases bv_cases y (nI k) with h2 | h2 <;> rw [h1, h2] <;> decide
theorem meB_and (x y : Int32) (k : Nat) : meB (x &&& y) k = (meB x k && meB y k) := by
  unfold meB
  rw [bv_and]
  rcases bv_cases x (nI k) with h1 | h1 <;> rcases bv_cases y (nI k) with h2 | h2 <;> rw [h1, h2] <;> decide
theorem meB_not (x : Int32) {k : Nat} (hk : k < 32) : meB (x ^^^ (-1)) k = !meB x k := by
  unfold meB
  rw [bv_xor, bv_m1 k hk]
  rcases bv_cases x (nI k) with h1 | h1 <;> rw [h1] <;> decide
theorem meB_0 : ∀ k, k < 32 → meB (nI 0) k = false := by decide +kernel
theorem meB_one : ∀ a, a < 20 → ∀ k, k < 20 → meB (nI 1 <<< (nI a &&& 31)) k = decide (k = a) := by decide +kernel
/-- who is beside some knot of a set -/
def adB (C : Nat → Int32) (N : Int32) : Nat → Nat → Bool
  | 0, _ => false
  | n + 1, k => adB C N n k || (meB N n && meB (C n) k)
theorem meB_nxt (C : Nat → Int32) (N : Int32) (n : Nat) {k : Nat} (hk : k < 32) : meB (nxtN C N n) k = adB C N n k := by
  induction n with
  | zero => exact meB_0 k hk
  | succ n ih =>
    unfold nxtN adB
    rw [← ih]
    by_cases h : bv N (nI n) = nI 1
    · rw [if_pos h, meB_or]
      have : meB N n = true := decide_eq_true h
      rw [this, Bool.true_and]
    · rw [if_neg h]
      have : meB N n = false := decide_eq_false h
      rw [this, Bool.false_and, Bool.or_false]
theorem meB_spr (C : Nat → Int32) (m : Int32) (n : Nat) {k : Nat} (hk : k < 32) : meB (sprN C m n) k = (meB m k || adB C m n k) := by
  induction n with
  | zero => unfold sprN adB; rw [Bool.or_false]
  | succ n ih =>
    unfold sprN adB
    rw [meB_or, ih]
    by_cases h : bv m (nI n) = nI 1
    · have : meB m n = true := decide_eq_true h
      rw [if_pos h, this, Bool.true_and, Bool.or_assoc]
    · have : meB m n = false := decide_eq_false h
      rw [if_neg h, meB_0 k hk, this, Bool.false_and, Bool.or_false, Bool.or_false]
