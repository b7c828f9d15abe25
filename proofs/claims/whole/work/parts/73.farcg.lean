/-! ===== far: the cords of knots alone ===== -/
theorem sprN_cg {C C' : Nat → Int32} (h : ∀ k, k < 20 → C k = C' k) (m : Int32) : ∀ n, n ≤ 20 → sprN C m n = sprN C' m n := by
  intro n
  induction n with
  | zero => intro _; rfl
  | succ n ih =>
    intro hn
    unfold sprN
    rw [ih (by omega), h n (by omega)]
theorem rchN_cg {C C' : Nat → Int32} (h : ∀ k, k < 20 → C k = C' k) (a : Int32) (r : Nat) : rchN C a r = rchN C' a r := by
  induction r with
  | zero => rfl
  | succ r ih =>
    show sprN C (rchN C a r) 20 = sprN C' (rchN C' a r) 20
    rw [ih, sprN_cg h _ 20 (Nat.le_refl _)]
theorem farF_cg {C C' : Nat → Int32} (h : ∀ k, k < 20 → C k = C' k) (a b : Int32) : ∀ n r, farF C a b n r = farF C' a b n r := by
  intro n
  induction n with
  | zero => intro r; rfl
  | succ n ih =>
    intro r
    show (if bv (rchN C a r) b = nI 1 then nI r else farF C a b n (r + 1)) = (if bv (rchN C' a r) b = nI 1 then nI r else farF C' a b n (r + 1))
    rw [rchN_cg h, ih]
theorem far_eq {w : x_W} (h : AgC w) (a b : Int32) : farF (x_i w 24) a b 20 0 = farF (x_i w 42) a b 20 0 := farF_cg h.1 a b 20 0
