/-! ===== both find the same word ===== -/
def wdD (q q2 : Nat) : Bool := q == q2 || wl q != wl q2 || (List.range 6).any fun i => decide (i < wl q) && wdC q i != wdC q2 i
theorem wdD_all : ∀ q, q < 12 → ∀ q2, q2 < 12 → wdD q q2 = true := by decide +kernel
theorem wdE_one {b : Nat → Nat} {s e q q2 : Nat} (hq : q < 12) (hq2 : q2 < 12) (h : wdE b s e q = true) (h2 : wdE b s e q2 = true) : q = q2 := by
  have hd := wdD_all q hq q2 hq2
  have a := wdE_iff.mp h
  have a2 := wdE_iff.mp h2
  unfold wdD at hd
  rw [Bool.or_eq_true, Bool.or_eq_true, beq_iff_eq, bne_iff_ne, List.any_eq_true] at hd
  rcases hd with (z | z) | ⟨i, _, z⟩
  · exact z
  · exact absurd (a.1.symm.trans a2.1) z
  · rw [Bool.and_eq_true, decide_eq_true_eq, bne_iff_ne] at z
    have hl : wl q = wl q2 := a.1.symm.trans a2.1
    exact absurd ((a.2 i z.1).symm.trans (a2.2 i (by omega))) z.2
theorem wdF_sp (b : Nat → Nat) (s e : Nat) : ∀ m q, q + m = 12 → (wdF b s e m q < 12 ∧ wdE b s e (wdF b s e m q) = true) ∨ (wdF b s e m q = 12 ∧ ∀ q2, q ≤ q2 → q2 < 12 → ¬ wdE b s e q2 = true) := by
  intro m
  induction m with
  | zero => intro q hq; exact Or.inr ⟨rfl, fun q2 h1 h2 => by omega⟩
  | succ m ih =>
    intro q hq
    unfold wdF
    by_cases h : wdE b s e q = true
    · rw [if_pos h]
      exact Or.inl ⟨by omega, h⟩
    · rw [if_neg h]
      rcases ih (q + 1) (by omega) with z | ⟨z1, z2⟩
      · exact Or.inl z
      · refine Or.inr ⟨z1, fun q2 h1 h2 => ?_⟩
        by_cases hq2 : q2 = q
        · rw [hq2]; exact h
        · exact z2 q2 (by omega) h2
theorem wdG_sp (b : Nat → Nat) (s e : Nat) : ∀ m r, r + m = 12 → (wdG b s e m r < 12 ∧ wdE b s e (mqi (wdG b s e m r)) = true) ∨ (wdG b s e m r = 12 ∧ ∀ r2, r ≤ r2 → r2 < 12 → ¬ wdE b s e (mqi r2) = true) := by
  intro m
  induction m with
  | zero => intro r hr; exact Or.inr ⟨rfl, fun r2 h1 h2 => by omega⟩
  | succ m ih =>
    intro r hr
    unfold wdG
    by_cases h : wdE b s e (mqi r) = true
    · rw [if_pos h]
      exact Or.inl ⟨by omega, h⟩
    · rw [if_neg h]
      rcases ih (r + 1) (by omega) with z | ⟨z1, z2⟩
      · exact Or.inl z
      · refine Or.inr ⟨z1, fun r2 h1 h2 => ?_⟩
        by_cases hr2 : r2 = r
        · rw [hr2]; exact h
        · exact z2 r2 (by omega) h2
theorem mqi_on : ∀ q, q < 12 → mqi (if q < 6 then q + 3 else if q < 9 then q - 6 else q) = q ∧ (if q < 6 then q + 3 else if q < 9 then q - 6 else q) < 12 := by decide
/-- the reference's number of a word, from the class's -/
theorem wdG_eq (b : Nat → Nat) (s e : Nat) : (wdG b s e 12 0 = 12 ∧ wdF b s e 12 0 = 12) ∨ (wdG b s e 12 0 < 12 ∧ wdF b s e 12 0 = mqi (wdG b s e 12 0)) := by
  rcases wdG_sp b s e 12 0 rfl with ⟨g1, g2⟩ | ⟨g1, g2⟩
  · rcases wdF_sp b s e 12 0 rfl with ⟨f1, f2⟩ | ⟨f1, f2⟩
    · exact Or.inr ⟨g1, wdE_one f1 (mqi_lt _ g1) f2 g2⟩
    · exact absurd g2 (f2 _ (Nat.zero_le _) (mqi_lt _ g1))
  · rcases wdF_sp b s e 12 0 rfl with ⟨f1, f2⟩ | ⟨f1, f2⟩
    · have h := mqi_on _ f1
      have h2 := g2 _ (Nat.zero_le _) h.2
      rw [h.1] at h2
      exact absurd f2 h2
    · exact Or.inl ⟨g1, f1⟩
