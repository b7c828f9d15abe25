/-! ===== far on both sides ===== -/
theorem farA_hi (C : Nat → Int32) (f0 : Nat → Int32) (q n : Nat) (hq : n * 20 ≤ q) : farA C f0 n q = f0 q := by
  induction n with
  | zero => rfl
  | succ n ih =>
    unfold farA
    rw [msN_out C n q (Or.inr (by omega)), ih (by omega)]
theorem farA_eq {C : Nat → Int32} {f0 : Nat → Int32} (h0 : ∀ q, q < 400 → f0 q = -1) : ∀ n, n ≤ 20 → ∀ a k, a < n → k < 20 → farA C f0 n (a * 20 + k) = farF C (nI a) (nI k) 20 0 := by
  intro n
  induction n with
  | zero => intro _ a k ha; exact absurd ha (Nat.not_lt_zero _)
  | succ n ih =>
    intro hn a k ha hk
    unfold farA
    by_cases h : a = n
    · subst h
      obtain ⟨s1, s2⟩ := sets_0 C (a := a)
      rw [msN_in 20 0 _ _ _ s1 s2 (fun z hz _ => by rw [farA_hi C f0 _ a (by omega)]; exact h0 _ (by omega)) k hk, if_neg (show ¬ (LpB C a 0 k = true) from show ¬ (false = true) by decide)]
    · rw [msN_out C n (a * 20 + k) (Or.inl (by omega)), ih (by omega) a k (by omega) hk]
/-- what stands between the calls: the row of distances is unknown or right -/
def FarOk (w : x_W) : Prop := x_i w 23 6 = nI 0 ∨ (x_i w 23 6 = nI 1 ∧ ∀ i j, i < 20 → j < 20 → x_i w 28 (i * 20 + j) = farF (x_i w 24) (nI i) (nI j) 20 0)
section S72
variable {L : Nat} {xs : Nat → Int32} {d : Nat} {w : x_W} {Q : Option Value → x_W → Prop}
theorem FarOk_WF : FarOk (WF w) := by
  refine Or.inr ⟨?_, fun i j hi hj => ?_⟩
  · show x_i (x_si (x_sI w 28 _) 23 6 (nI 1)) 23 6 = nI 1
    unfold x_si
    rw [x_i_sI]
    rfl
  · have e1 : x_i (WF w) 28 = farA (x_i w 24) (x_fn 400 (fun _ => -1) (x_i w 28)) 20 := by
      unfold WF x_si
      rw [x_i_sIn _ _ _ (by decide), x_i_sI]
    have e2 : x_i (WF w) 24 = x_i w 24 := by
      unfold WF x_si
      rw [x_i_sIn _ _ _ (by decide), x_i_sIn _ _ _ (by decide)]
    rw [e1, e2]
    exact farA_eq (fun q hq => x_fn_in hq) 20 (Nat.le_refl _) i j hi hj
/-- the class's distance is the reference's, known before or not -/
theorem S97w {i j : Nat} (hs : Sh w) (hi : i < 20) (hj : j < 20) (hF : FarOk w) : ∃ w', (w' = w ∨ w' = WF w) ∧ FarOk w' ∧ x_i w' 23 6 = nI 1 ∧ ∀ Q, X_R L xs (d + 1) 97 0 [.ref 23, .int (nI i), .int (nI j), x_junk] [] w Q = Q (some (.int (farF (x_i w 24) (nI i) (nI j) 20 0))) w' := by
  rcases hF with h | ⟨h, hv⟩
  · refine ⟨WF w, Or.inr rfl, FarOk_WF, ?_, fun Q => ?_⟩
    · show x_i (x_si (x_sI w 28 _) 23 6 (nI 1)) 23 6 = nI 1
      unfold x_si
      rw [x_i_sI]
      rfl
    · rw [S97 hs hi hj h, farA_eq (fun q hq => x_fn_in hq) 20 (Nat.le_refl _) i j hi hj]
  · refine ⟨w, Or.inl rfl, Or.inr ⟨h, hv⟩, h, fun Q => ?_⟩
    rw [S97k hs hi hj h, hv i j hi hj]
end S72
