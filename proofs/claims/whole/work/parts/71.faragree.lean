/-! ===== the class's distances are the reference's ===== -/
theorem stag1 {C : Nat → Int32} {a r : Nat} (h : ∀ q, q < 20 → LrB C a r q = LpB C a r q) : ∀ q, q < 20 → LrB C a (r + 1) q = LrB C a r q := by
  intro q hq
  rw [LrB_s C a r (by omega)]
  cases hL : LrB C a r q with
  | true => rw [Bool.true_or]
  | false =>
    rw [← ad_new (N := nI 0) hq (fun z hz => by rw [meB_0 z (by omega), h z hz]; cases LpB C a r z <;> rfl) hL, Bool.false_or]
    cases hA : adB C (nI 0) 20 q with
    | false => rfl
    | true =>
      obtain ⟨z, h1, h2, _⟩ := (adB_t 20).mp hA
      rw [meB_0 z (by omega)] at h2
      exact absurd h2 (by decide)
theorem stag {C : Nat → Int32} {a : Nat} : ∀ s r, (∀ q, q < 20 → LrB C a r q = LpB C a r q) → ∀ q, q < 20 → LrB C a (r + s) q = LrB C a r q := by
  intro s
  induction s with
  | zero => intro r h q hq; rfl
  | succ s ih =>
    intro r h q hq
    have h1 := stag1 h
    rw [show r + (s + 1) = (r + 1) + s by omega, ih (r + 1) h1 q hq]
    exact h1 q hq
theorem farF_no {C : Nat → Int32} {a k : Nat} : ∀ n r, (∀ s, LrB C a (r + s) k = false) → farF C (nI a) (nI k) n r = -1 := by
  intro n
  induction n with
  | zero => intro r h; rfl
  | succ n ih =>
    intro r h
    unfold farF
    have h0 : ¬ bv (rchN C (nI a) r) (nI k) = nI 1 := of_decide_eq_false (h 0)
    rw [if_neg h0]
    exact ih (r + 1) (fun s => by have := h (s + 1); rw [show r + (s + 1) = r + 1 + s by omega] at this; exact this)
theorem layN_in (N : Int32) (a F : Nat) (f : Nat → Int32) (k : Nat) : ∀ n, layN N a F f n (a * 20 + k) = if k < n ∧ meB N k = true then nI F else f (a * 20 + k) := by
  intro n
  induction n with
  | zero => rw [if_neg (fun z => absurd z.1 (Nat.not_lt_zero _))]; rfl
  | succ n ih =>
    unfold layN
    by_cases hb : bv N (nI n) = nI 1
    · rw [if_pos hb]
      unfold upd
      by_cases hk : k = n
      · subst hk
        rw [if_pos rfl, if_pos ⟨Nat.lt_succ_self _, decide_eq_true hb⟩]
      · rw [if_neg (by omega), ih]
        by_cases h2 : k < n ∧ meB N k = true
        · rw [if_pos h2, if_pos ⟨by omega, h2.2⟩]
        · rw [if_neg h2, if_neg (fun z => h2 ⟨by omega, z.2⟩)]
    · rw [if_neg hb, ih]
      by_cases h2 : k < n ∧ meB N k = true
      · rw [if_pos h2, if_pos ⟨by omega, h2.2⟩]
      · rw [if_neg h2]
        by_cases hk : k = n
        · subst hk
          rw [if_neg (fun z => hb (of_decide_eq_true z.2))]
        · rw [if_neg (fun z => h2 ⟨by omega, z.2⟩)]
theorem layN_out (N : Int32) (a F : Nat) (f : Nat → Int32) (q : Nat) (hq : q < a * 20 ∨ a * 20 + 20 ≤ q) : ∀ n, n ≤ 20 → layN N a F f n q = f q := by
  intro n
  induction n with
  | zero => intro _; rfl
  | succ n ih =>
    intro hn
    unfold layN
    by_cases hb : bv N (nI n) = nI 1
    · rw [if_pos hb]
      unfold upd
      rw [if_neg (by omega), ih (by omega)]
    · rw [if_neg hb, ih (by omega)]
theorem msN_out (C : Nat → Int32) (a q : Nat) (hq : q < a * 20 ∨ a * 20 + 20 ≤ q) : ∀ n F R N f, msN C a n F R N f q = f q := by
  intro n
  induction n with
  | zero => intro F R N f; rfl
  | succ n ih =>
    intro F R N f
    unfold msN
    by_cases hN : N = nI 0
    · rw [if_pos hN]
    · rw [if_neg hN, ih, layN_out N a F f q hq 20 (Nat.le_refl _)]
theorem msN_in {C : Nat → Int32} {a : Nat} : ∀ n r (R N : Int32) (f : Nat → Int32), (∀ q, q < 20 → meB R q = LrB C a r q) → (∀ q, q < 20 → meB N q = (LrB C a r q && !LpB C a r q)) → (∀ k, k < 20 → LpB C a r k = false → f (a * 20 + k) = -1) → ∀ k, k < 20 → msN C a n r R N f (a * 20 + k) = if LpB C a r k = true then f (a * 20 + k) else farF C (nI a) (nI k) n r := by
  intro n
  induction n with
  | zero =>
    intro r R N f hR hN hf k hk
    by_cases h : LpB C a r k = true
    · rw [if_pos h]; rfl
    · rw [if_neg h]; exact hf k hk (Bool.not_eq_true _ ▸ h)
  | succ n ih =>
    intro r R N f hR hN hf k hk
    unfold msN
    by_cases h0 : N = nI 0
    · rw [if_pos h0]
      by_cases h : LpB C a r k = true
      · rw [if_pos h]
      · rw [if_neg h]
        have hp : LpB C a r k = false := by cases hc : LpB C a r k with
          | true => exact absurd hc h
          | false => rfl
        have hst : ∀ q, q < 20 → LrB C a r q = LpB C a r q := by
          intro q hq
          have h1 := hN q hq
          rw [h0, meB_0 q (by omega)] at h1
          have h2 := LpB_le C a r (k := q) (by omega)
          cases h3 : LrB C a r q <;> cases h4 : LpB C a r q
          · rfl
          · have := h2 h4; rw [h3] at this; exact absurd this (by decide)
          · rw [h3, h4] at h1; exact absurd h1 (by decide)
          · rfl
        rw [hf k hk hp, farF_no (n + 1) r (fun s => by rw [stag s r hst k hk, hst k hk, hp])]
    · rw [if_neg h0]
      obtain ⟨s1, s2⟩ := sets_s hR hN
      have hNk := hN k hk
      have hle := LpB_le C a r (k := k) (by omega)
      rw [ih (r + 1) _ _ _ s1 s2 (fun z hz h => by
        have hz0 : LrB C a r z = false := h
        have hzp : LpB C a r z = false := by
          cases hc : LpB C a r z with
          | true => have := LpB_le C a r (k := z) (by omega) hc; rw [hz0] at this; exact absurd this (by decide)
          | false => rfl
        have hzN : meB N z = false := by rw [hN z hz, hz0]; rfl
        rw [layN_in, if_neg (fun y => by have := y.2; rw [hzN] at this; exact absurd this (by decide))]
        exact hf z hz hzp) k hk]
      rw [layN_in]
      show (if LrB C a r k = true then _ else _) = _
      have ef : farF C (nI a) (nI k) (n + 1) r = if bv (rchN C (nI a) r) (nI k) = nI 1 then nI r else farF C (nI a) (nI k) n (r + 1) := rfl
      rw [ef]
      cases hL : LrB C a r k with
      | true =>
        have hb : bv (rchN C (nI a) r) (nI k) = nI 1 := of_decide_eq_true hL
        rw [if_pos rfl, if_pos hb]
        cases hp : LpB C a r k with
        | true =>
          have : meB N k = false := by rw [hNk, hL, hp]; rfl
          rw [this, if_neg (fun z => absurd z.2 (by decide)), if_pos rfl]
        | false =>
          have : meB N k = true := by rw [hNk, hL, hp]; rfl
          rw [this, if_pos ⟨hk, rfl⟩, if_neg (by decide)]
      | false =>
        have hb : ¬ bv (rchN C (nI a) r) (nI k) = nI 1 := of_decide_eq_false hL
        have hp : LpB C a r k = false := by
          cases hc : LpB C a r k with
          | true => have := hle hc; rw [hL] at this; exact absurd this (by decide)
          | false => rfl
        rw [if_neg (by decide), hp, if_neg (by decide), if_neg hb]
