/-! ===== the spreading sets ===== -/
def LrB (C : Nat → Int32) (a r k : Nat) : Bool := meB (rchN C (nI a) r) k
/-- reached before step r -/
def LpB (C : Nat → Int32) (a : Nat) : Nat → Nat → Bool
  | 0, _ => false
  | r + 1, k => LrB C a r k
theorem LrB_s (C : Nat → Int32) (a r : Nat) {k : Nat} (hk : k < 32) : LrB C a (r + 1) k = (LrB C a r k || adB C (rchN C (nI a) r) 20 k) := meB_spr C _ 20 hk
theorem LpB_le (C : Nat → Int32) (a r : Nat) {k : Nat} (hk : k < 32) (h : LpB C a r k = true) : LrB C a r k = true := by
  cases r with
  | zero => exact absurd h (show ¬ (false = true) by decide)
  | succ r =>
    rw [LrB_s C a r hk]
    have h' : LrB C a r k = true := h
    rw [h', Bool.true_or]
theorem adB_t {C : Nat → Int32} {N : Int32} {k : Nat} : ∀ n, adB C N n k = true ↔ ∃ q, q < n ∧ meB N q = true ∧ meB (C q) k = true := by
  intro n
  induction n with
  | zero => exact ⟨fun h => absurd h (by unfold adB; decide), fun ⟨q, h, _⟩ => absurd h (Nat.not_lt_zero _)⟩
  | succ n ih =>
    unfold adB
    rw [Bool.or_eq_true, Bool.and_eq_true, ih]
    constructor
    · rintro (⟨q, h1, h2⟩ | h)
      · exact ⟨q, by omega, h2⟩
      · exact ⟨n, Nat.lt_succ_self _, h⟩
    · rintro ⟨q, h1, h2⟩
      by_cases hq : q = n
      · subst hq; exact Or.inr h2
      · exact Or.inl ⟨q, by omega, h2⟩
/-- what is new lies beside what was new -/
theorem ad_new {C : Nat → Int32} {a r k : Nat} {N : Int32} (hk : k < 20) (hN : ∀ q, q < 20 → meB N q = (LrB C a r q && !LpB C a r q)) (hL : LrB C a r k = false) : adB C N 20 k = adB C (rchN C (nI a) r) 20 k := by
  apply Bool.eq_iff_iff.mpr
  rw [adB_t, adB_t]
  constructor
  · rintro ⟨q, h1, h2, h3⟩
    rw [hN q h1, Bool.and_eq_true] at h2
    exact ⟨q, h1, h2.1, h3⟩
  · rintro ⟨q, h1, h2, h3⟩
    refine ⟨q, h1, ?_, h3⟩
    rw [hN q h1]
    have h2' : LrB C a r q = true := h2
    rw [h2', Bool.true_and]
    cases hp : LpB C a r q with
    | false => rfl
    | true =>
      cases r with
      | zero => exact absurd hp (show ¬ (false = true) by decide)
      | succ r =>
        have hp' : meB (rchN C (nI a) r) q = true := hp
        have h4 : adB C (rchN C (nI a) r) 20 k = true := (adB_t 20).mpr ⟨q, h1, hp', h3⟩
        rw [LrB_s C a r (by omega), h4, Bool.or_true] at hL
        exact absurd hL (by decide)
/-- a step of the class's sets -/
theorem sets_s {C : Nat → Int32} {a r : Nat} {R N : Int32} (hR : ∀ q, q < 20 → meB R q = LrB C a r q) (hN : ∀ q, q < 20 → meB N q = (LrB C a r q && !LpB C a r q)) :
    (∀ q, q < 20 → meB (R ||| nxtN C N 20) q = LrB C a (r + 1) q) ∧ ∀ q, q < 20 → meB (nxtN C N 20 &&& (R ^^^ (-1))) q = (LrB C a (r + 1) q && !LpB C a (r + 1) q) := by
  have key : ∀ q, q < 20 → (LrB C a r q = true ∨ (LrB C a r q = false ∧ adB C N 20 q = adB C (rchN C (nI a) r) 20 q)) := by
    intro q hq
    cases h : LrB C a r q with
    | true => exact Or.inl rfl
    | false => exact Or.inr ⟨rfl, ad_new hq hN h⟩
  constructor
  · intro q hq
    rw [meB_or, meB_nxt C N 20 (by omega), hR q hq, LrB_s C a r (by omega)]
    rcases key q hq with h | ⟨h, e⟩
    · rw [h, Bool.true_or, Bool.true_or]
    · rw [e]
  · intro q hq
    rw [meB_and, meB_not R (by omega), meB_nxt C N 20 (by omega), hR q hq, LrB_s C a r (by omega)]
    show _ = ((LrB C a r q || adB C (rchN C (nI a) r) 20 q) && !LrB C a r q)
    rcases key q hq with h | ⟨h, e⟩
    · rw [h, Bool.not_true, Bool.and_false, Bool.and_false]
    · rw [e, h, Bool.false_or]
theorem sets_0 (C : Nat → Int32) {a : Nat} : (∀ q, q < 20 → meB (nI 1 <<< (nI a &&& 31)) q = LrB C a 0 q) ∧ ∀ q, q < 20 → meB (nI 1 <<< (nI a &&& 31)) q = (LrB C a 0 q && !LpB C a 0 q) := by
  refine ⟨fun q _ => rfl, fun q _ => ?_⟩
  show _ = (meB (nI 1 <<< (nI a &&& 31)) q && !false)
  rw [Bool.not_false, Bool.and_true]
