/-! ===== how it hangs: the class ===== -/
theorem Sh_sr {w : x_W} {a k : Nat} {v : Value} (h : ∀ q ∈ R0, ¬ (q.1 = a ∧ q.2.1 = k)) (hs : Sh w) : Sh (x_sr w a k v) := by
  refine ⟨hs.1, fun q hq => ?_⟩
  have h1 := hs.2 q hq
  show x_r (x_sr w a k v) q.1 q.2.1 = _
  unfold x_sr
  by_cases ha : q.1 = a
  · rw [ha, x_r_sR]
    unfold x_upR
    rw [if_neg (fun z => h q hq ⟨ha, z⟩)]
    rw [← ha]
    exact h1
  · rw [x_r_sRn _ _ _ ha]
    exact h1
theorem R0_23_3 : ∀ q ∈ R0, ¬ (q.1 = 23 ∧ q.2.1 = 3) := by decide
theorem R0_23_4 : ∀ q ∈ R0, ¬ (q.1 = 23 ∧ q.2.1 = 4) := by decide
theorem x_r_sr (w : x_W) (a k : Nat) (v : Value) : x_r (x_sr w a k v) a k = v := by unfold x_sr; rw [x_r_sR]; unfold x_upR; rw [if_pos rfl]
theorem x_r_srk (w : x_W) (a k : Nat) (v : Value) {j : Nat} (h : j ≠ k) : x_r (x_sr w a k v) a j = x_r w a j := by unfold x_sr; rw [x_r_sR]; unfold x_upR; rw [if_neg h]
theorem x_r_srn (w : x_W) (a k : Nat) (v : Value) {b : Nat} (h : b ≠ a) : x_r (x_sr w a k v) b = x_r w b := by unfold x_sr; rw [x_r_sRn _ _ _ h]
theorem g_all {w : x_W} (hs : Sh w) : ∀ s, s < 6 → x_r w 29 s = .ref (35 + s) ∧ x_tag w (35 + s) = some (0, 5) := by
  intro s h
  match s, h with
  | 0, _ => exact ⟨g_r29_0 hs, g_t35 hs⟩
  | 1, _ => exact ⟨g_r29_1 hs, g_t36 hs⟩
  | 2, _ => exact ⟨g_r29_2 hs, g_t37 hs⟩
  | 3, _ => exact ⟨g_r29_3 hs, g_t38 hs⟩
  | 4, _ => exact ⟨g_r29_4 hs, g_t39 hs⟩
  | 5, _ => exact ⟨g_r29_5 hs, g_t40 hs⟩
  | s + 6, h => exact absurd h (by omega)
/-- the two rows of depths, as they lie between the calls -/
def Sd (w : x_W) : Prop := x_r w 23 3 = .ref 26 ∧ x_r w 23 4 = .ref 27
def WX (w : x_W) (LD DP AH : Nat → Nat) : x_W := x_sI (x_sI (x_sI w 25 (x_fn 20 (fun k => nI (LD k)) (x_i w 25))) 26 (x_fn 20 (fun k => nI (DP k)) (x_i w 26))) 27 (x_fn 20 (fun k => nI (AH k)) (x_i w 27))
/-- cords lie between knots beside each other alone -/
def Nb (C : Nat → Int32) : Prop := ∀ k o, k < 20 → o < 20 → besN k o = false → cbN C k o = false
/-- two rounds put the two rows back -/
theorem two_sr {w : x_W} (hd : Sd w) (f1 f2 : Nat → Int32) : x_sI (x_sr (x_sr (x_sI (x_sr (x_sr w 23 4 (.ref 26)) 23 3 (.ref 27)) 27 f1) 23 4 (.ref 27)) 23 3 (.ref 26)) 26 f2 = x_sI (x_sI w 27 f1) 26 f2 := by
  obtain ⟨T, i, r⟩ := w
  obtain ⟨h1, h2⟩ := hd
  have h1' : r 23 3 = .ref 26 := h1
  have h2' : r 23 4 = .ref 27 := h2
  unfold x_sI x_sr x_sR x_r
  simp only [Prod.mk.injEq, true_and]
  funext b
  by_cases hb : b = 23
  · subst hb
    simp only [if_true]
    funext k
    unfold x_upR
    by_cases h3 : k = 3
    · subst h3; simp [h1']
    · by_cases h4 : k = 4
      · subst h4; simp [h2']
      · simp [h3, h4]
  · simp [hb]
section S49
variable {L : Nat} {xs : Nat → Int32} {d : Nat} {w : x_W} {Q : Option Value → x_W → Prop}
/-- a round of the class's -/
theorem S91r {D A r : Nat} {l p : Nat → Nat} (hs : Sh w) (hD : x_r w 23 3 = .ref D) (hA : x_r w 23 4 = .ref A) (hDA : (D = 26 ∧ A = 27) ∨ (D = 27 ∧ A = 26)) (hr : r < 12) (hl : ∀ k, k < 20 → x_i w 25 k = nI (l k) ∧ l k ≤ 9000) (hp : ∀ k, k < 20 → x_i w D k = nI (p k) ∧ p k ≤ 999) (hc : Nb (x_i w 24)) {v2 v3 : Value} (hv2 : x_isL v2 = false) :
    X_R L xs (d + 2) 91 10 [.ref 23, .int (nI r), v2, v3] [] w Q = X_R L xs (d + 2) 91 10 [.ref 23, .int (nI (r + 1)), .ref A, .int (nI 20)] [] (x_sI (x_sr (x_sr w 23 4 (.ref D)) 23 3 (.ref A)) A (x_fn 20 (fun k => nI (snkN (cbN (x_i w 24) k) (tbN (x_i w 23 1) k) (l k) p)) (x_i w A))) Q := by
  have hA26 : A ≠ 23 ∧ A ≠ 24 ∧ A ≠ 25 ∧ A ≠ D := by rcases hDA with ⟨rfl, rfl⟩ | ⟨rfl, rfl⟩ <;> decide
  have hAt : ∀ (u : x_W), Sh u → ∀ i, x_ia u A i = x_ix i 20 := by
    intro u hu i
    rcases hDA with ⟨rfl, rfl⟩ | ⟨rfl, rfl⟩
    · exact g_a27 hu i
    · exact g_a26 hu i
  have hDt : ∀ (u : x_W), Sh u → ∀ i, x_ia u D i = x_ix i 20 := by
    intro u hu i
    rcases hDA with ⟨rfl, rfl⟩ | ⟨rfl, rfl⟩
    · exact g_a26 hu i
    · exact g_a27 hu i
  generalize hu : x_sr (x_sr w 23 4 (.ref D)) 23 3 (.ref A) = u
  have hsu : Sh u := by rw [← hu]; exact Sh_sr R0_23_3 (Sh_sr R0_23_4 hs)
  have hui : ∀ b, x_i u b = x_i w b := fun b => by rw [← hu]; rfl
  have hu3 : x_r u 23 3 = .ref A := by rw [← hu, x_r_sr]
  have hu4 : x_r u 23 4 = .ref D := by rw [← hu, x_r_srk _ _ _ _ (by decide), x_r_sr]
  have loop : ∀ n j, j + n = 20 → X_R L xs (d + 2) 91 36 [.ref 23, .int (nI r), .ref A, .int (nI j)] [] (x_sI u A (x_fn j (fun k => nI (snkN (cbN (x_i w 24) k) (tbN (x_i w 23 1) k) (l k) p)) (x_i w A))) Q = X_R L xs (d + 2) 91 10 [.ref 23, .int (nI (r + 1)), .ref A, .int (nI 20)] [] (x_sI u A (x_fn 20 (fun k => nI (snkN (cbN (x_i w 24) k) (tbN (x_i w 23 1) k) (l k) p)) (x_i w A))) Q := by
    intro n
    induction n with
    | zero =>
      intro j hj
      obtain rfl : j = 20 := by omega
      rw [X91_36]
      simp only [X91_37, X91_39, X91_59, X91_62, Nat.zero_le, and_true, true_and, x_nb0, x_nb1, x_nbp, x_isL_int, x_isL_ref, x_isL_junk, x_isR_ref, x_cat_nil, x_cat_int, x_cat_ref, x_cat_long, Option.toList_some, Option.toList_none, List.cons_append, List.nil_append, Nat.reduceAdd, Nat.reduceLeDiff, Nat.reduceLT, t_tag_si, t_tag_sr, t_tag_sI, x_r_si, x_i_sr, t_r_sI, x_ia_si, x_ia_sI, x_ia_sr, x_ra_si, x_ra_sI, x_ra_sr, nI_leT (Nat.le_refl 20) (by decide), if_true, nI_add]
    | succ n ih =>
      intro j hj
      have hjx := x_ix_nI (show j < 20 by omega) (show 20 < 2 ^ 31 by decide)
      have hjc := nI_cl (show j < 2 ^ 31 by omega)
      have hsw : Sh (x_sI u A (x_fn j (fun k => nI (snkN (cbN (x_i w 24) k) (tbN (x_i w 23 1) k) (l k) p)) (x_i w A))) := hsu
      have i25 : x_i (x_sI u A (x_fn j (fun k => nI (snkN (cbN (x_i w 24) k) (tbN (x_i w 23 1) k) (l k) p)) (x_i w A))) 25 = x_i w 25 := by rw [x_i_sIn _ _ _ (Ne.symm hA26.2.2.1), hui]
      have i24 : x_i (x_sI u A (x_fn j (fun k => nI (snkN (cbN (x_i w 24) k) (tbN (x_i w 23 1) k) (l k) p)) (x_i w A))) 24 = x_i w 24 := by rw [x_i_sIn _ _ _ (Ne.symm hA26.2.1), hui]
      have i23 : x_i (x_sI u A (x_fn j (fun k => nI (snkN (cbN (x_i w 24) k) (tbN (x_i w 23 1) k) (l k) p)) (x_i w A))) 23 = x_i w 23 := by rw [x_i_sIn _ _ _ (Ne.symm hA26.1), hui]
      have iD : x_i (x_sI u A (x_fn j (fun k => nI (snkN (cbN (x_i w 24) k) (tbN (x_i w 23 1) k) (l k) p)) (x_i w A))) D = x_i w D := by rw [x_i_sIn _ _ _ (Ne.symm hA26.2.2.2), hui]
      have hdn := fun (Q' : Option Value → x_W → Prop) => S92 (L := L) (xs := xs) (d := d) (Q := Q') (w := x_sI u A (x_fn j (fun k => nI (snkN (cbN (x_i w 24) k) (tbN (x_i w 23 1) k) (l k) p)) (x_i w A))) (k := j) (l := l j) (A := D) (p := p) hsw (by omega) (by rw [i25]; exact (hl j (by omega)).1) (hl j (by omega)).2 hu4 (hDt _ hsw) (fun o ho => by rw [iD]; exact hp o ho) (fun o ho hb => by rw [i24]; exact hc j o (by omega) ho hb)
      rw [i24, i23] at hdn
      have e := ih (j + 1) (by omega)
      rw [← x_fn_s j (fun k => nI (snkN (cbN (x_i w 24) k) (tbN (x_i w 23 1) k) (l k) p)) (x_i w A)] at e
      have hu3' : x_r (x_sI u A (x_fn j (fun k => nI (snkN (cbN (x_i w 24) k) (tbN (x_i w 23 1) k) (l k) p)) (x_i w A))) 23 3 = .ref A := hu3
      rw [X91_36]
      simp only [X91_37, X91_39, X91_42, X91_43, X91_46, X91_47, X91_48, X91_49, X91_52, X91_53, X91_56, Nat.zero_le, and_true, true_and, x_nb0, x_nb1, x_nbp, x_isL_int, x_isL_ref, x_isL_junk, x_isR_ref, x_cat_nil, x_cat_int, x_cat_ref, x_cat_long, Option.toList_some, Option.toList_none, List.cons_append, List.nil_append, Nat.reduceAdd, Nat.reduceLeDiff, Nat.reduceLT, t_tag_si, t_tag_sr, t_tag_sI, x_r_si, x_i_sr, t_r_sI, x_ia_si, x_ia_sI, x_ia_sr, x_ra_si, x_ra_sI, x_ra_sr, nI_leF (show j < 20 by omega) (by decide), if_false, g_t23 hsw, hu3', hAt _ hsw, hjx, hjc, hdn, x_si_sI, nI_add, g_t23 hsu, hu3, hAt _ hsu]
      exact e
  have e := loop 20 0 rfl
  rw [x_fn_0, ← hui A, x_sI_id] at e
  rw [hui A] at e
  have hs1 : Sh (x_sr w 23 4 (.ref D)) := Sh_sr R0_23_4 hs
  have h3' : x_r (x_sr w 23 4 (.ref D)) 23 3 = .ref D := by rw [x_r_srk _ _ _ _ (by decide)]; exact hD
  rw [X91_10, ← e]
  simp only [X91_11, X91_13, X91_16, X91_17, X91_20, X91_21, X91_22, X91_23, X91_26, X91_29, X91_30, X91_31, X91_34, X91_35, Nat.zero_le, and_true, true_and, x_nb0, x_nb1, x_nbp, x_isL_int, x_isL_ref, x_isL_junk, x_isR_ref, x_cat_nil, x_cat_int, x_cat_ref, x_cat_long, Option.toList_some, Option.toList_none, List.cons_append, List.nil_append, Nat.reduceAdd, Nat.reduceLeDiff, Nat.reduceLT, t_tag_si, t_tag_sr, t_tag_sI, x_r_si, x_i_sr, t_r_sI, x_ia_si, x_ia_sI, x_ia_sr, x_ra_si, x_ra_sI, x_ra_sr, nI_leF (show r < 12 by omega) (by decide), if_false, g_t23 hs, hD, hA, hu, g_t23 hs1]
theorem S91 {l : Nat → Nat} (hs : Sh w) (hd : Sd w) (hl : ∀ k, k < 20 → x_i w 25 k = nI (l k) ∧ l k ≤ 9000) (hc : Nb (x_i w 24)) :
    X_R L xs (d + 2) 91 0 [.ref 23, x_junk, x_junk, x_junk] [] w Q = Q none (x_sI (x_sI w 26 (x_fn 20 (fun k => nI (dpN (cbN (x_i w 24)) (tbN (x_i w 23 1)) l 12 k)) (x_i w 26))) 27 (x_fn 20 (fun k => nI (dpN (cbN (x_i w 24)) (tbN (x_i w 23 1)) l 11 k)) (x_i w 27))) := by
  generalize hcc : cbN (x_i w 24) = c
  generalize htt : tbN (x_i w 23 1) = t
  let V := fun (f26 f27 : Nat → Int32) => x_sI (x_sI w 26 f26) 27 f27
  have pair : ∀ n r, 2 * r + 2 * n = 12 → ∀ (f26 f27 : Nat → Int32) (v2 v3 : Value), x_isL v2 = false → (∀ k, k < 20 → f26 k = nI (dpN c t l (2 * r) k)) → (∀ k, 20 ≤ k → f26 k = x_i w 26 k) → (∀ k, 20 ≤ k → f27 k = x_i w 27 k) → (∀ k, k < 20 → 0 < r → f27 k = nI (dpN c t l (2 * r - 1) k)) →
      X_R L xs (d + 2) 91 10 [.ref 23, .int (nI (2 * r)), v2, v3] [] (V f26 f27) Q = Q none (V (x_fn 20 (fun k => nI (dpN c t l 12 k)) (x_i w 26)) (x_fn 20 (fun k => nI (dpN c t l 11 k)) (x_i w 27))) := by
    intro n
    induction n with
    | zero =>
      intro r hr f26 f27 v2 v3 hv2 g1 g2 g3 g4
      obtain rfl : r = 6 := by omega
      rw [X91_10]
      simp only [X91_11, X91_13, X91_65, Nat.zero_le, and_true, true_and, x_nb0, x_nb1, x_nbp, x_isL_int, x_isL_ref, x_isL_junk, x_isR_ref, x_cat_nil, x_cat_int, x_cat_ref, x_cat_long, Option.toList_some, Option.toList_none, List.cons_append, List.nil_append, Nat.reduceAdd, Nat.reduceLeDiff, Nat.reduceLT, t_tag_si, t_tag_sr, t_tag_sI, x_r_si, x_i_sr, t_r_sI, x_ia_si, x_ia_sI, x_ia_sr, x_ra_si, x_ra_sI, x_ra_sr, nI_leT (show 12 ≤ 2 * 6 by decide) (by decide), if_true]
      have e1 : f26 = x_fn 20 (fun k => nI (dpN c t l 12 k)) (x_i w 26) := by
        funext k
        by_cases hk : k < 20
        · rw [x_fn_in hk]; exact g1 k hk
        · rw [x_fn_out (by omega)]; exact g2 k (by omega)
      have e2 : f27 = x_fn 20 (fun k => nI (dpN c t l 11 k)) (x_i w 27) := by
        funext k
        by_cases hk : k < 20
        · rw [x_fn_in hk]; exact g4 k hk (by decide)
        · rw [x_fn_out (by omega)]; exact g3 k (by omega)
      rw [e1, e2]
    | succ n ih =>
      intro r hr f26 f27 v2 v3 hv2 g1 g2 g3 g4
      have hsV : Sh (V f26 f27) := hs
      have i26 : x_i (V f26 f27) 26 = f26 := by show x_i (x_sI (x_sI w 26 f26) 27 f27) 26 = _; rw [x_i_sIn _ _ _ (by decide), x_i_sI]
      have i27 : x_i (V f26 f27) 27 = f27 := by show x_i (x_sI (x_sI w 26 f26) 27 f27) 27 = _; rw [x_i_sI]
      have io : ∀ b : Nat, b ≠ 26 → b ≠ 27 → x_i (V f26 f27) b = x_i w b := fun b h1 h2 => by show x_i (x_sI (x_sI w 26 f26) 27 f27) b = _; rw [x_i_sIn _ _ _ h2, x_i_sIn _ _ _ h1]
      have r1 := S91r (L := L) (xs := xs) (d := d) (Q := Q) (w := V f26 f27) (D := 26) (A := 27) (r := 2 * r) (l := l) (p := dpN c t l (2 * r)) (v2 := v2) (v3 := v3) hsV hd.1 hd.2 (Or.inl ⟨rfl, rfl⟩) (by omega) (fun k hk => by rw [io 25 (by decide) (by decide)]; exact hl k hk) (fun k hk => ⟨by rw [i26]; exact g1 k hk, dpN_le _ _ _ _ _⟩) (by rw [io 24 (by decide) (by decide)]; exact hc) hv2
      rw [io 24 (by decide) (by decide), io 23 (by decide) (by decide), i27, hcc, htt] at r1
      have e27 : (fun k => nI (snkN (c k) (t k) (l k) (dpN c t l (2 * r)))) = fun k => nI (dpN c t l (2 * r + 1) k) := rfl
      rw [e27] at r1
      generalize hu : x_sI (x_sr (x_sr (V f26 f27) 23 4 (.ref 26)) 23 3 (.ref 27)) 27 (x_fn 20 (fun k => nI (dpN c t l (2 * r + 1) k)) f27) = u at r1
      have hsu : Sh u := by rw [← hu]; exact Sh_sr R0_23_3 (Sh_sr R0_23_4 hsV)
      have u3 : x_r u 23 3 = .ref 27 := by rw [← hu]; show x_r (x_sr (x_sr (V f26 f27) 23 4 (.ref 26)) 23 3 (.ref 27)) 23 3 = _; rw [x_r_sr]
      have u4 : x_r u 23 4 = .ref 26 := by rw [← hu]; show x_r (x_sr (x_sr (V f26 f27) 23 4 (.ref 26)) 23 3 (.ref 27)) 23 4 = _; rw [x_r_srk _ _ _ _ (by decide), x_r_sr]
      have u27 : x_i u 27 = x_fn 20 (fun k => nI (dpN c t l (2 * r + 1) k)) f27 := by rw [← hu, x_i_sI]
      have uo : ∀ b : Nat, b ≠ 27 → x_i u b = x_i (V f26 f27) b := fun b h => by rw [← hu, x_i_sIn _ _ _ h]; rfl
      have r2 := S91r (L := L) (xs := xs) (d := d) (Q := Q) (w := u) (D := 27) (A := 26) (r := 2 * r + 1) (l := l) (p := dpN c t l (2 * r + 1)) (v2 := .ref 27) (v3 := .int (nI 20)) hsu u3 u4 (Or.inr ⟨rfl, rfl⟩) (by omega) (fun k hk => by rw [uo 25 (by decide), io 25 (by decide) (by decide)]; exact hl k hk) (fun k hk => ⟨by rw [u27, x_fn_in hk], dpN_le _ _ _ _ _⟩) (by rw [uo 24 (by decide), io 24 (by decide) (by decide)]; exact hc) rfl
      rw [uo 24 (by decide), uo 23 (by decide), uo 26 (by decide), io 24 (by decide) (by decide), io 23 (by decide) (by decide), i26, hcc, htt] at r2
      have e26 : (fun k => nI (snkN (c k) (t k) (l k) (dpN c t l (2 * r + 1)))) = fun k => nI (dpN c t l (2 * r + 2) k) := rfl
      rw [e26, ← hu, two_sr (w := V f26 f27) hd] at r2
      have ev : x_sI (x_sI (V f26 f27) 27 (x_fn 20 (fun k => nI (dpN c t l (2 * r + 1) k)) f27)) 26 (x_fn 20 (fun k => nI (dpN c t l (2 * r + 2) k)) f26) = V (x_fn 20 (fun k => nI (dpN c t l (2 * r + 2) k)) f26) (x_fn 20 (fun k => nI (dpN c t l (2 * r + 1) k)) f27) := by
        show x_sI (x_sI (x_sI (x_sI w 26 f26) 27 f27) 27 _) 26 _ = x_sI (x_sI w 26 _) 27 _
        rw [x_sI_sI, x_sI_comm _ (show 27 ≠ 26 by decide), x_sI_sI]
      rw [ev] at r2
      rw [r1, ← hu, r2]
      have e := ih (r + 1) (by omega) (x_fn 20 (fun k => nI (dpN c t l (2 * r + 2) k)) f26) (x_fn 20 (fun k => nI (dpN c t l (2 * r + 1) k)) f27) (.ref 26) (.int (nI 20)) rfl (fun k hk => by rw [x_fn_in hk]; rfl) (fun k hk => by rw [x_fn_out hk]; exact g2 k hk) (fun k hk => by rw [x_fn_out hk]; exact g3 k hk) (fun k hk _ => by rw [x_fn_in hk]; rfl)
      exact e
  have e := pair 6 0 rfl (x_fn 20 (fun _ => nI 0) (x_i w 26)) (x_i w 27) x_junk x_junk rfl (fun k hk => by rw [x_fn_in hk]; rfl) (fun k hk => x_fn_out hk) (fun _ _ => rfl) (fun k _ h => absurd h (by decide))
  have ev : V (x_fn 20 (fun _ => nI 0) (x_i w 26)) (x_i w 27) = x_sI w 26 (x_fn 20 (fun _ => nI 0) (x_i w 26)) := by
    show x_sI (x_sI w 26 _) 27 _ = _
    have : x_i w 27 = x_i (x_sI w 26 (x_fn 20 (fun _ => nI 0) (x_i w 26))) 27 := by rw [x_i_sIn _ _ _ (by decide)]
    rw [this, x_sI_id]
  rw [ev] at e
  have hfill := fun (Q' : Option Value → x_W → Prop) => S244 (L := L) (xs := xs) (d := d + 1) (Q := Q') (w := w) (a := 26) (n := 20) (v := nI 0) (g_t26 hs) (by decide) (by decide)
  simp only [X91_0, X91_1, X91_4, X91_5, X91_8, X91_9, Nat.zero_le, and_true, true_and, x_nb0, x_nb1, x_nbp, x_isL_int, x_isL_ref, x_isL_junk, x_isR_ref, x_cat_nil, x_cat_int, x_cat_ref, x_cat_long, Option.toList_some, Option.toList_none, List.cons_append, List.nil_append, Nat.reduceAdd, Nat.reduceLeDiff, Nat.reduceLT, t_tag_si, t_tag_sr, t_tag_sI, x_r_si, x_i_sr, t_r_sI, x_ia_si, x_ia_sI, x_ia_sr, x_ra_si, x_ra_sI, x_ra_sr, g_t23 hs, hd.1, hfill]
  exact e
end S49
