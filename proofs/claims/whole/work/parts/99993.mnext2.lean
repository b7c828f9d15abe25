/-! ===== the reference's next: a word's end, a number ===== -/
/-- a number's value as the reference keeps it -/
def mV (b : Nat → Nat) (s k : Nat) : Nat := if k ≤ 4 then vN b s k else 0
section S99993
variable {L : Nat} {xs : Nat → Int32} {b : Nat → Nat} {n : Nat} {d : Nat} {w : x_W}
theorem S141w (hs : Sh w) (hT : TPm w b n) (v1 v2 : Value) : ∀ m p, p + m = n → ∀ w1, Ch pM w w1 → x_i w1 41 23 = nI p → ∃ w2, Ch (gp [] [(41, 23)]) w1 w2 ∧ x_i w2 41 23 = nI (spn isLt b m p) ∧ ∀ Q, X_R L xs (d + 1) 141 103 [.ref 41, v1, v2] [] w1 Q = X_R L xs (d + 1) 141 146 [.ref 41, v1, v2] [] w2 Q := by
  intro m
  induction m with
  | zero =>
    intro p hp w1 c1 h7
    obtain rfl : p = n := by omega
    have hs1 := c1.sh hs
    have hT1 := hT.ch c1 rfl (fun _ => rfl) (fun _ => rfl)
    refine ⟨w1, Ch.refl, h7, fun Q => ?_⟩
    rw [X141_103]
    simp only [X141_104, X141_107, X141_108, X141_111, Nat.zero_le, and_true, true_and, x_nb0, x_nb1, x_nbp, x_isL_int, x_isL_ref, x_isL_junk, x_isR_ref, x_cat_nil, x_cat_int, x_cat_ref, x_cat_long, Option.toList_some, Option.toList_none, List.cons_append, List.nil_append, Nat.reduceAdd, Nat.reduceLeDiff, Nat.reduceLT, t_tag_si, t_tag_sr, t_tag_sI, x_r_si, x_i_sr, t_r_sI, x_ia_si, x_ia_sI, x_ia_sr, x_ra_si, x_ra_sI, x_ra_sr, g_t41 hs1, h7, hT1.2.1, nI_leT (Nat.le_refl p) (show p < 2 ^ 31 by have := hT.1; omega), if_true]
  | succ m ih =>
    intro p hp w1 c1 h7
    have hs1 := c1.sh hs
    have hT1 := hT.ch c1 rfl (fun _ => rfl) (fun _ => rfl)
    have h160 := hT.1
    obtain ⟨hb, hb2⟩ := hT1.2.2.1 p (by omega)
    have lt := nI_leF (show p < n by omega) (show n < 2 ^ 31 by omega)
    have tx := x_ix_nI (show p < 160 by omega) (show 160 < 2 ^ 31 by decide)
    have tc := nI_cl (show p < 2 ^ 31 by omega)
    have e138 := fun (Q' : Option Value → x_W → Prop) => inL (L := L) (xs := xs) (d := d) (w := w1) (Q := Q') hb2
    unfold spn
    by_cases h : isLt (b p) = true
    · rw [bI_t h] at e138
      have c2 : Ch (gp [] [(41, 23)]) w1 (x_si w1 41 23 (nI (p + 1))) := Ch_si rfl
      have c2' : Ch pM w1 (x_si w1 41 23 (nI (p + 1))) := Ch_si rfl
      obtain ⟨w2, c3, h3, e3⟩ := ih (p + 1) (by omega) _ (c1.trans c2') si_s
      refine ⟨w2, c2.trans c3, by rw [if_pos h]; exact h3, fun Q => ?_⟩
      rw [← e3 Q, X141_103]
      simp only [X141_104, X141_107, X141_108, X141_111, X141_114, X141_115, X141_118, X141_119, X141_122, X141_123, X141_125, X141_127, X141_130, X141_133, X141_134i, X141_134, X141_135, X141_138, X141_139, X141_140, X141_143, Nat.zero_le, and_true, true_and, x_nb0, x_nb1, x_nbp, x_isL_int, x_isL_ref, x_isL_junk, x_isR_ref, x_cat_nil, x_cat_int, x_cat_ref, x_cat_long, Option.toList_some, Option.toList_none, List.cons_append, List.nil_append, Nat.reduceAdd, Nat.reduceLeDiff, Nat.reduceLT, t_tag_si, t_tag_sr, t_tag_sI, x_r_si, x_i_sr, t_r_sI, x_ia_si, x_ia_sI, x_ia_sr, x_ra_si, x_ra_sI, x_ra_sr, g_t41 hs1, g_r41_7 hs1, g_a47 hs1, h7, hT1.2.1, lt, if_false, tx, tc, hb, e138, n10, nI_add]
    · rw [bI_f h] at e138
      refine ⟨w1, Ch.refl, by rw [if_neg h]; exact h7, fun Q => ?_⟩
      rw [X141_103]
      simp only [X141_104, X141_107, X141_108, X141_111, X141_114, X141_115, X141_118, X141_119, X141_122, X141_123, X141_125, X141_127, X141_130, Nat.zero_le, and_true, true_and, x_nb0, x_nb1, x_nbp, x_isL_int, x_isL_ref, x_isL_junk, x_isR_ref, x_cat_nil, x_cat_int, x_cat_ref, x_cat_long, Option.toList_some, Option.toList_none, List.cons_append, List.nil_append, Nat.reduceAdd, Nat.reduceLeDiff, Nat.reduceLT, t_tag_si, t_tag_sr, t_tag_sI, x_r_si, x_i_sr, t_r_sI, x_ia_si, x_ia_sI, x_ia_sr, x_ra_si, x_ra_sI, x_ra_sr, g_t41 hs1, g_r41_7 hs1, g_a47 hs1, h7, hT1.2.1, lt, if_false, tx, tc, hb, e138, if_true]
theorem S141d (hs : Sh w) (hT : TPm w b n) {s : Nat} (v1 : Value) (hv1 : x_isL v1 = false) : ∀ m k, s + k + m = n → ∀ w1, Ch pM w w1 → x_i w1 41 23 = nI (s + k) → x_i w1 41 26 = nI (mV b s k) → ∃ w2, Ch (gp [] [(41, 23), (41, 26)]) w1 w2 ∧ x_i w2 41 23 = nI (spn isDg b m (s + k)) ∧ x_i w2 41 26 = nI (mV b s (spn isDg b m (s + k) - s)) ∧ ∀ Q, X_R L xs (d + 1) 141 230 [.ref 41, v1, .int (nI k)] [] w1 Q = X_R L xs (d + 1) 141 309 [.ref 41, v1, .int (nI (spn isDg b m (s + k) - s))] [] w2 Q := by
  intro m
  induction m with
  | zero =>
    intro k hk w1 c1 h7 h8
    have hs1 := c1.sh hs
    have hT1 := hT.ch c1 rfl (fun _ => rfl) (fun _ => rfl)
    have h160 := hT.1
    have ek : s + k = n := by omega
    unfold spn
    refine ⟨w1, Ch.refl, h7, by rw [Nat.add_sub_cancel_left]; exact h8, fun Q => ?_⟩
    rw [X141_230, Nat.add_sub_cancel_left]
    simp only [X141_231, X141_234, X141_235, X141_238, Nat.zero_le, and_true, true_and, x_nb0, x_nb1, x_nbp, x_isL_int, x_isL_ref, x_isL_junk, x_isR_ref, x_cat_nil, x_cat_int, x_cat_ref, x_cat_long, Option.toList_some, Option.toList_none, List.cons_append, List.nil_append, Nat.reduceAdd, Nat.reduceLeDiff, Nat.reduceLT, t_tag_si, t_tag_sr, t_tag_sI, x_r_si, x_i_sr, t_r_sI, x_ia_si, x_ia_sI, x_ia_sr, x_ra_si, x_ra_sI, x_ra_sr, g_t41 hs1, h7, hT1.2.1, nI_leT (show n ≤ s + k by omega) (show s + k < 2 ^ 31 by omega), if_true]
  | succ m ih =>
    intro k hk w1 c1 h7 h8
    have hs1 := c1.sh hs
    have hT1 := hT.ch c1 rfl (fun _ => rfl) (fun _ => rfl)
    have h160 := hT.1
    obtain ⟨hb, hb2⟩ := hT1.2.2.1 (s + k) (by omega)
    have lt := nI_leF (show s + k < n by omega) (show n < 2 ^ 31 by omega)
    have tx := x_ix_nI (show s + k < 160 by omega) (show 160 < 2 ^ 31 by decide)
    have tc := nI_cl (show s + k < 2 ^ 31 by omega)
    have e138 := fun (Q' : Option Value → x_W → Prop) => inD (L := L) (xs := xs) (d := d) (w := w1) (Q := Q') hb2
    unfold spn
    by_cases h : isDg (b (s + k)) = true
    · rw [bI_t h] at e138
      have h48 : 48 ≤ b (s + k) := by
        unfold isDg at h
        rw [Bool.and_eq_true] at h
        exact of_decide_eq_true h.1
      have c2 : Ch (gp [] [(41, 23), (41, 26)]) w1 (x_si (x_si w1 41 26 (nI (mV b s (k + 1)))) 41 23 (nI (s + k + 1))) := (Ch_si rfl).trans (Ch_si rfl)
      have c2' : Ch pM w1 (x_si (x_si w1 41 26 (nI (mV b s (k + 1)))) 41 23 (nI (s + k + 1))) := (Ch_si rfl).trans (Ch_si rfl)
      obtain ⟨w2, c3, h3, h4, e3⟩ := ih (k + 1) (by omega) _ (c1.trans c2') si_s (by rw [si_o (show 26 ≠ 23 by decide), si_s])
      have e17 : x_i (x_si w1 41 26 (nI (mV b s (k + 1)))) 41 23 = nI (s + k) := by rw [si_o (show 23 ≠ 26 by decide)]; exact h7
      refine ⟨w2, c2.trans c3, by rw [if_pos h]; exact h3, by rw [if_pos h]; exact h4, fun Q => ?_⟩
      rw [if_pos h, show spn isDg b m (s + k + 1) = spn isDg b m (s + (k + 1)) from rfl, ← e3 Q, X141_230]
      by_cases h4 : k < 4
      · have eN : nI 10 * nI (mV b s k) + nI (b (s + k)) - nI 48 = nI (mV b s (k + 1)) := by
          unfold mV
          rw [if_pos (by omega), if_pos (by omega), nI_mul, nI_add, nI_sub (by omega)]
          rw [Nat.add_sub_assoc h48]
          rfl
        simp only [X141_231, X141_234, X141_235, X141_238, X141_241, X141_242, X141_245, X141_246, X141_249, X141_250, X141_252, X141_254, X141_257, X141_260, X141_261, X141_262, X141_263, X141_266, X141_268, X141_269, X141_272, X141_273, X141_274, X141_277, X141_278, X141_281, X141_282, X141_283, X141_285, X141_286, X141_290, X141_293, X141_296, X141_297i, X141_297, X141_298, X141_301, X141_302, X141_303, X141_306, Nat.zero_le, and_true, true_and, x_nb0, x_nb1, x_nbp, x_isL_int, x_isL_ref, x_isL_junk, x_isR_ref, x_cat_nil, x_cat_int, x_cat_ref, x_cat_long, Option.toList_some, Option.toList_none, List.cons_append, List.nil_append, Nat.reduceAdd, Nat.reduceLeDiff, Nat.reduceLT, t_tag_si, t_tag_sr, t_tag_sI, x_r_si, x_i_sr, t_r_sI, x_ia_si, x_ia_sI, x_ia_sr, x_ra_si, x_ra_sI, x_ra_sr, hv1, g_t41 hs1, g_r41_7 hs1, g_a47 hs1, h7, h8, hT1.2.1, lt, if_false, tx, tc, hb, e138, n10, nI_leF h4 (show 4 < 2 ^ 31 by decide), eN, e17, nI_add]
      · have eN : mV b s (k + 1) = 0 := by unfold mV; rw [if_neg (by omega)]
        rw [eN] at e17 ⊢
        simp only [X141_231, X141_234, X141_235, X141_238, X141_241, X141_242, X141_245, X141_246, X141_249, X141_250, X141_252, X141_254, X141_257, X141_260, X141_261, X141_262, X141_263, X141_289, X141_290, X141_293, X141_296, X141_297i, X141_297, X141_298, X141_301, X141_302, X141_303, X141_306, Nat.zero_le, and_true, true_and, x_nb0, x_nb1, x_nbp, x_isL_int, x_isL_ref, x_isL_junk, x_isR_ref, x_cat_nil, x_cat_int, x_cat_ref, x_cat_long, Option.toList_some, Option.toList_none, List.cons_append, List.nil_append, Nat.reduceAdd, Nat.reduceLeDiff, Nat.reduceLT, t_tag_si, t_tag_sr, t_tag_sI, x_r_si, x_i_sr, t_r_sI, x_ia_si, x_ia_sI, x_ia_sr, x_ra_si, x_ra_sI, x_ra_sr, hv1, g_t41 hs1, g_r41_7 hs1, g_a47 hs1, h7, h8, hT1.2.1, lt, if_false, tx, tc, hb, e138, n10, nI_leT (Nat.not_lt.mp h4) (show k < 2 ^ 31 by omega), if_true, e17, nI_add]
    · rw [bI_f h] at e138
      refine ⟨w1, Ch.refl, by rw [if_neg h]; exact h7, by rw [if_neg h, Nat.add_sub_cancel_left]; exact h8, fun Q => ?_⟩
      rw [X141_230, if_neg h, Nat.add_sub_cancel_left]
      simp only [X141_231, X141_234, X141_235, X141_238, X141_241, X141_242, X141_245, X141_246, X141_249, X141_250, X141_252, X141_254, X141_257, Nat.zero_le, and_true, true_and, x_nb0, x_nb1, x_nbp, x_isL_int, x_isL_ref, x_isL_junk, x_isR_ref, x_cat_nil, x_cat_int, x_cat_ref, x_cat_long, Option.toList_some, Option.toList_none, List.cons_append, List.nil_append, Nat.reduceAdd, Nat.reduceLeDiff, Nat.reduceLT, t_tag_si, t_tag_sr, t_tag_sI, x_r_si, x_i_sr, t_r_sI, x_ia_si, x_ia_sI, x_ia_sr, x_ra_si, x_ra_sI, x_ra_sr, g_t41 hs1, g_r41_7 hs1, g_a47 hs1, h7, hT1.2.1, lt, if_false, tx, tc, hb, e138, if_true]
end S99993
