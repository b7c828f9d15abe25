/-! ===== the reference's next: its loops ===== -/
def pM : Nat → Nat → Bool := gp [] [(41, 23), (41, 24), (41, 25), (41, 26)]
section S99992
variable {L : Nat} {xs : Nat → Int32} {b : Nat → Nat} {n : Nat} {d : Nat} {w : x_W}
theorem TPm.ch (h : TPm w b n) {P : Nat → Nat → Bool} {w1 : x_W} (hc : Ch P w w1) (h1 : P 41 8 = false) (h2 : ∀ k, P 47 k = false) (h3 : ∀ k, P 56 k = false) : TPm w1 b n := by
  unfold TPm WD at *
  rw [hc.2.2 41 8 h1, hc.i h2, hc.i h3]
  exact h
theorem S141k (hs : Sh w) (hT : TPm w b n) (v1 v2 : Value) : ∀ m p, p + m = n → ∀ w1, Ch pM w w1 → x_i w1 41 23 = nI p → ∃ w2, Ch pM w w2 ∧ x_i w2 41 23 = nI (spn isSp b m p) ∧ ∀ Q, X_R L xs d 141 0 [.ref 41, v1, v2] [] w1 Q = X_R L xs d 141 52 [.ref 41, v1, v2] [] w2 Q := by
  intro m
  induction m with
  | zero =>
    intro p hp w1 c1 h7
    obtain rfl : p = n := by omega
    have hs1 := c1.sh hs
    have hT1 := hT.ch c1 rfl (fun _ => rfl) (fun _ => rfl)
    refine ⟨w1, c1, h7, fun Q => ?_⟩
    rw [X141_0]
    simp only [X141_1, X141_4, X141_5, X141_8, Nat.zero_le, and_true, true_and, x_nb0, x_nb1, x_nbp, x_isL_int, x_isL_ref, x_isL_junk, x_isR_ref, x_cat_nil, x_cat_int, x_cat_ref, x_cat_long, Option.toList_some, Option.toList_none, List.cons_append, List.nil_append, Nat.reduceAdd, Nat.reduceLeDiff, Nat.reduceLT, t_tag_si, t_tag_sr, t_tag_sI, x_r_si, x_i_sr, t_r_sI, x_ia_si, x_ia_sI, x_ia_sr, x_ra_si, x_ra_sI, x_ra_sr, g_t41 hs1, h7, hT1.2.1, nI_leT (Nat.le_refl p) (show p < 2 ^ 31 by have := hT.1; omega), if_true]
  | succ m ih =>
    intro p hp w1 c1 h7
    have hs1 := c1.sh hs
    have hT1 := hT.ch c1 rfl (fun _ => rfl) (fun _ => rfl)
    have h160 := hT.1
    obtain ⟨hb, hb2⟩ := hT1.2.2.1 p (by omega)
    have lt := nI_leF (show p < n by omega) (show n < 2 ^ 31 by omega)
    have tx := x_ix_nI (show p < 160 by omega) (show 160 < 2 ^ 31 by decide)
    have tc := nI_cl (show p < 2 ^ 31 by omega)
    have e32 : (nI (b p) = nI 32) = (b p = 32) := nI_eqD (by omega) (by decide)
    have e10 : (nI (b p) = nI 10) = (b p = 10) := nI_eqD (by omega) (by decide)
    unfold spn
    by_cases h : isSp (b p) = true
    · have c2 : Ch pM w1 (x_si w1 41 23 (nI (p + 1))) := Ch_si rfl
      obtain ⟨w2, c3, h3, e3⟩ := ih (p + 1) (by omega) _ (c1.trans c2) si_s
      refine ⟨w2, c3, by rw [if_pos h]; exact h3, fun Q => ?_⟩
      rw [← e3 Q, X141_0]
      unfold isSp at h
      rw [Bool.or_eq_true, beq_iff_eq, beq_iff_eq] at h
      by_cases h1 : b p = 32
      · simp only [X141_1, X141_4, X141_5, X141_8, X141_11, X141_12, X141_15, X141_16, X141_19, X141_20, X141_22, X141_39, X141_40i, X141_40, X141_41, X141_44, X141_45, X141_46, X141_49, Nat.zero_le, and_true, true_and, x_nb0, x_nb1, x_nbp, x_isL_int, x_isL_ref, x_isL_junk, x_isR_ref, x_cat_nil, x_cat_int, x_cat_ref, x_cat_long, Option.toList_some, Option.toList_none, List.cons_append, List.nil_append, Nat.reduceAdd, Nat.reduceLeDiff, Nat.reduceLT, t_tag_si, t_tag_sr, t_tag_sI, x_r_si, x_i_sr, t_r_sI, x_ia_si, x_ia_sI, x_ia_sr, x_ra_si, x_ra_sI, x_ra_sr, g_t41 hs1, g_r41_7 hs1, g_a47 hs1, h7, hT1.2.1, lt, if_false, tx, tc, hb, e32, eq_true h1, if_true, nI_add]
      · have h2 : b p = 10 := h.resolve_left h1
        simp only [X141_1, X141_4, X141_5, X141_8, X141_11, X141_12, X141_15, X141_16, X141_19, X141_20, X141_22, X141_25, X141_26, X141_29, X141_30, X141_33, X141_34, X141_36, X141_39, X141_40i, X141_40, X141_41, X141_44, X141_45, X141_46, X141_49, Nat.zero_le, and_true, true_and, x_nb0, x_nb1, x_nbp, x_isL_int, x_isL_ref, x_isL_junk, x_isR_ref, x_cat_nil, x_cat_int, x_cat_ref, x_cat_long, Option.toList_some, Option.toList_none, List.cons_append, List.nil_append, Nat.reduceAdd, Nat.reduceLeDiff, Nat.reduceLT, t_tag_si, t_tag_sr, t_tag_sI, x_r_si, x_i_sr, t_r_sI, x_ia_si, x_ia_sI, x_ia_sr, x_ra_si, x_ra_sI, x_ra_sr, g_t41 hs1, g_r41_7 hs1, g_a47 hs1, h7, hT1.2.1, lt, if_false, tx, tc, hb, e32, eq_false h1, e10, eq_true h2, if_true, nI_add]
    · refine ⟨w1, c1, by rw [if_neg h]; exact h7, fun Q => ?_⟩
      rw [X141_0]
      unfold isSp at h
      rw [Bool.or_eq_true, beq_iff_eq, beq_iff_eq, not_or] at h
      simp only [X141_1, X141_4, X141_5, X141_8, X141_11, X141_12, X141_15, X141_16, X141_19, X141_20, X141_22, X141_25, X141_26, X141_29, X141_30, X141_33, X141_34, X141_36, Nat.zero_le, and_true, true_and, x_nb0, x_nb1, x_nbp, x_isL_int, x_isL_ref, x_isL_junk, x_isR_ref, x_cat_nil, x_cat_int, x_cat_ref, x_cat_long, Option.toList_some, Option.toList_none, List.cons_append, List.nil_append, Nat.reduceAdd, Nat.reduceLeDiff, Nat.reduceLT, t_tag_si, t_tag_sr, t_tag_sI, x_r_si, x_i_sr, t_r_sI, x_ia_si, x_ia_sI, x_ia_sr, x_ra_si, x_ra_sI, x_ra_sr, g_t41 hs1, g_r41_7 hs1, g_a47 hs1, h7, hT1.2.1, lt, if_false, tx, tc, hb, e32, eq_false h.1, e10, eq_false h.2]
theorem inL {c : Nat} (hc : c ≤ 255) {Q : Option Value → x_W → Prop} : X_R L xs d 138 0 [.int (nI c), .int (nI 97), .int (nI 122)] [] w Q = Q (some (.int (bI (isLt c = true)))) w := by
  rw [S138]
  by_cases h : isLt c = true
  · rw [bI_t h, bI_t]
    unfold isLt at h
    rw [Bool.and_eq_true, decide_eq_true_eq, decide_eq_true_eq] at h
    exact ⟨nI_le h.1 (by omega), nI_le h.2 (by decide)⟩
  · rw [bI_f h, bI_f]
    intro z
    apply h
    unfold isLt
    rw [Bool.and_eq_true, decide_eq_true_eq, decide_eq_true_eq]
    refine ⟨Nat.not_lt.mp fun q => ?_, Nat.not_lt.mp fun q => ?_⟩
    · have := nI_leF q (by decide); rw [this] at z; exact z.1
    · have := nI_leF q (show c < 2 ^ 31 by omega); rw [this] at z; exact z.2
theorem inD {c : Nat} (hc : c ≤ 255) {Q : Option Value → x_W → Prop} : X_R L xs d 138 0 [.int (nI c), .int (nI 48), .int (nI 57)] [] w Q = Q (some (.int (bI (isDg c = true)))) w := by
  rw [S138]
  by_cases h : isDg c = true
  · rw [bI_t h, bI_t]
    unfold isDg at h
    rw [Bool.and_eq_true, decide_eq_true_eq, decide_eq_true_eq] at h
    exact ⟨nI_le h.1 (by omega), nI_le h.2 (by decide)⟩
  · rw [bI_f h, bI_f]
    intro z
    apply h
    unfold isDg
    rw [Bool.and_eq_true, decide_eq_true_eq, decide_eq_true_eq]
    refine ⟨Nat.not_lt.mp fun q => ?_, Nat.not_lt.mp fun q => ?_⟩
    · have := nI_leF q (by decide); rw [this] at z; exact z.1
    · have := nI_leF q (show c < 2 ^ 31 by omega); rw [this] at z; exact z.2
end S99992
