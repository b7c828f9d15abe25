/-! ===== the reference's words ===== -/
def TPm (w : x_W) (b : Nat → Nat) (n : Nat) : Prop := n ≤ 160 ∧ x_i w 41 8 = nI n ∧ (∀ k, k < n → x_i w 47 k = nI (b k) ∧ b k ≤ 255) ∧ WD w
/-- the letter that the reference compares with -/
def mC (b : Nat → Nat) (s e i : Nat) : Nat := if s + i < e then b (s + i) else 32
def fl (b : Nat → Nat) (s e q : Nat) : Nat → Bool
  | 0 => decide (e - s ≤ 8)
  | i + 1 => fl b s e q i && (wdC q i == mC b s e i)
theorem fl_lt (b : Nat → Nat) (s e q : Nat) : ∀ j i, fl b s e q (i + j) = true → fl b s e q i = true := by
  intro j
  induction j with
  | zero => intro i h; exact h
  | succ j ih =>
    intro i h
    have h2 : (fl b s e q (i + j) && (wdC q (i + j) == mC b s e (i + j))) = true := h
    rw [Bool.and_eq_true] at h2
    exact ih i h2.1
theorem wdC_le : ∀ q, q < 12 → ∀ i, i < 8 → wdC q i ≤ 255 := by decide +kernel
theorem mqi_lt : ∀ r, r < 12 → mqi r < 12 := by decide
section S9999
variable {L : Nat} {xs : Nat → Int32} {b : Nat → Nat} {n : Nat} {d : Nat} {w : x_W}
theorem S142i (hs : Sh w) (hT : TPm w b n) {s e r : Nat} (hr : r < 12) (hse0 : s ≤ e) (he : e ≤ n) : ∀ m i, i + m = 8 → fl b s e (mqi r) i = true → ∃ v, ∀ Q, X_R L xs d 142 26 [.ref 41, .int (nI s), .int (nI e), .int (nI r), .int (nI 1), .int (nI i)] [] w Q = X_R L xs d 142 88 [.ref 41, .int (nI s), .int (nI e), .int (nI r), .int (bI (fl b s e (mqi r) 8 = true)), .int v] [] w Q := by
  intro m
  induction m with
  | zero =>
    intro i hi hf
    obtain rfl : i = 8 := by omega
    refine ⟨nI 8, fun Q => ?_⟩
    rw [bI_t hf, X142_26]
    simp only [X142_28, X142_30, Nat.zero_le, and_true, true_and, x_nb0, x_nb1, x_nbp, x_isL_int, x_isL_ref, x_isL_junk, x_isR_ref, x_cat_nil, x_cat_int, x_cat_ref, x_cat_long, Option.toList_some, Option.toList_none, List.cons_append, List.nil_append, Nat.reduceAdd, Nat.reduceLeDiff, Nat.reduceLT, t_tag_si, t_tag_sr, t_tag_sI, x_r_si, x_i_sr, t_r_sI, x_ia_si, x_ia_sI, x_ia_sr, x_ra_si, x_ra_sI, x_ra_sr, nI_leT (Nat.le_refl 8) (show 8 < 2 ^ 31 by decide), if_true]
  | succ m ih =>
    intro i hi hf
    have h160 := hT.1
    have hq := mqi_lt r hr
    have hwd := hT.2.2.2 r i hr (by omega)
    have hwc := wdC_le (mqi r) hq i (by omega)
    have tx := x_ix_nI (show 8 * r + i < 96 by omega) (show 96 < 2 ^ 31 by decide)
    have tc := nI_cl (show 8 * r + i < 2 ^ 31 by omega)
    have hsle : i < 8 := by omega
    have l8 : (nI 8 ≤ nI i) = False := nI_leF hsle (by decide)
    by_cases hc : wdC (mqi r) i = mC b s e i
    · have hf2 : fl b s e (mqi r) (i + 1) = true := by
        show (fl b s e (mqi r) i && _) = true
        rw [hf, beq_iff_eq.mpr hc]
        rfl
      obtain ⟨v, hv⟩ := ih (i + 1) (by omega) hf2
      refine ⟨v, fun Q => ?_⟩
      rw [← hv Q, X142_26]
      unfold mC at hc
      by_cases hse : s + i < e
      · rw [if_pos hse] at hc
        obtain ⟨hb, hb2⟩ := hT.2.2.1 (s + i) (by omega)
        have tx2 := x_ix_nI (show s + i < 160 by omega) (show 160 < 2 ^ 31 by decide)
        have tc2 := nI_cl (show s + i < 2 ^ 31 by omega)
        have ee : (nI (wdC (mqi r) i) = nI (b (s + i))) = (wdC (mqi r) i = b (s + i)) := nI_eqD (by omega) (by omega)
        simp only [X142_28, X142_30, X142_33, X142_35, X142_38, X142_39, X142_42, X142_44, X142_45, X142_46, X142_48, X142_49, X142_50, X142_51, X142_53, X142_54, X142_55, X142_58, X142_59, X142_62, X142_63, X142_65, X142_66, X142_67, X142_72, X142_75, X142_76, X142_80, X142_82, X142_85, Nat.zero_le, and_true, true_and, x_nb0, x_nb1, x_nbp, x_isL_int, x_isL_ref, x_isL_junk, x_isR_ref, x_cat_nil, x_cat_int, x_cat_ref, x_cat_long, Option.toList_some, Option.toList_none, List.cons_append, List.nil_append, Nat.reduceAdd, Nat.reduceLeDiff, Nat.reduceLT, t_tag_si, t_tag_sr, t_tag_sI, x_r_si, x_i_sr, t_r_sI, x_ia_si, x_ia_sI, x_ia_sr, x_ra_si, x_ra_sI, x_ra_sr, l8, if_false, n10, g_t41 hs, g_r41_27 hs, nI_mul, nI_add, g_a56 hs, tx, tc, hwd, nI_leF hse (show e < 2 ^ 31 by omega), g_r41_7 hs, g_a47 hs, tx2, tc2, hb, ee, eq_true hc, if_true]
      · rw [if_neg hse] at hc
        have ee : (nI (wdC (mqi r) i) = nI 32) = (wdC (mqi r) i = 32) := nI_eqD (by omega) (by decide)
        simp only [X142_28, X142_30, X142_33, X142_35, X142_38, X142_39, X142_42, X142_44, X142_45, X142_46, X142_48, X142_49, X142_50, X142_51, X142_53, X142_54, X142_55, X142_70, X142_72, X142_75, X142_76, X142_80, X142_82, X142_85, Nat.zero_le, and_true, true_and, x_nb0, x_nb1, x_nbp, x_isL_int, x_isL_ref, x_isL_junk, x_isR_ref, x_cat_nil, x_cat_int, x_cat_ref, x_cat_long, Option.toList_some, Option.toList_none, List.cons_append, List.nil_append, Nat.reduceAdd, Nat.reduceLeDiff, Nat.reduceLT, t_tag_si, t_tag_sr, t_tag_sI, x_r_si, x_i_sr, t_r_sI, x_ia_si, x_ia_sI, x_ia_sr, x_ra_si, x_ra_sI, x_ra_sr, l8, if_false, n10, g_t41 hs, g_r41_27 hs, nI_mul, nI_add, g_a56 hs, tx, tc, hwd, nI_leT (Nat.not_lt.mp hse) (show s + i < 2 ^ 31 by omega), ee, eq_true hc, if_true]
    · have hf8 : ¬ fl b s e (mqi r) 8 = true := fun z => by
        have z2 : fl b s e (mqi r) (i + 1) = true := fl_lt b s e (mqi r) (7 - i) (i + 1) (by rw [show i + 1 + (7 - i) = 8 by omega]; exact z)
        have z3 : (fl b s e (mqi r) i && (wdC (mqi r) i == mC b s e i)) = true := z2
        rw [Bool.and_eq_true] at z3
        exact hc (beq_iff_eq.mp z3.2)
      refine ⟨nI (i + 1), fun Q => ?_⟩
      have hout : X_R L xs d 142 26 [.ref 41, .int (nI s), .int (nI e), .int (nI r), .int (nI 0), .int (nI (i + 1))] [] w Q = X_R L xs d 142 88 [.ref 41, .int (nI s), .int (nI e), .int (nI r), .int (nI 0), .int (nI (i + 1))] [] w Q := by
        rw [X142_26]
        by_cases h8 : 8 ≤ i + 1
        · simp only [X142_28, X142_30, Nat.zero_le, and_true, true_and, x_nb0, x_nb1, x_nbp, x_isL_int, x_isL_ref, x_isL_junk, x_isR_ref, x_cat_nil, x_cat_int, x_cat_ref, x_cat_long, Option.toList_some, Option.toList_none, List.cons_append, List.nil_append, Nat.reduceAdd, Nat.reduceLeDiff, Nat.reduceLT, t_tag_si, t_tag_sr, t_tag_sI, x_r_si, x_i_sr, t_r_sI, x_ia_si, x_ia_sI, x_ia_sr, x_ra_si, x_ra_sI, x_ra_sr, nI_leT h8 (show i + 1 < 2 ^ 31 by omega), if_true]
        · simp only [X142_28, X142_30, X142_33, X142_35, Nat.zero_le, and_true, true_and, x_nb0, x_nb1, x_nbp, x_isL_int, x_isL_ref, x_isL_junk, x_isR_ref, x_cat_nil, x_cat_int, x_cat_ref, x_cat_long, Option.toList_some, Option.toList_none, List.cons_append, List.nil_append, Nat.reduceAdd, Nat.reduceLeDiff, Nat.reduceLT, t_tag_si, t_tag_sr, t_tag_sI, x_r_si, x_i_sr, t_r_sI, x_ia_si, x_ia_sI, x_ia_sr, x_ra_si, x_ra_sI, x_ra_sr, nI_leF (show i + 1 < 8 by omega) (show 8 < 2 ^ 31 by decide), if_false, if_true]
      rw [bI_f hf8, ← hout, X142_26]
      unfold mC at hc
      by_cases hse : s + i < e
      · rw [if_pos hse] at hc
        obtain ⟨hb, hb2⟩ := hT.2.2.1 (s + i) (by omega)
        have tx2 := x_ix_nI (show s + i < 160 by omega) (show 160 < 2 ^ 31 by decide)
        have tc2 := nI_cl (show s + i < 2 ^ 31 by omega)
        have ee : (nI (wdC (mqi r) i) = nI (b (s + i))) = (wdC (mqi r) i = b (s + i)) := nI_eqD (by omega) (by omega)
        simp only [X142_28, X142_30, X142_33, X142_35, X142_38, X142_39, X142_42, X142_44, X142_45, X142_46, X142_48, X142_49, X142_50, X142_51, X142_53, X142_54, X142_55, X142_58, X142_59, X142_62, X142_63, X142_65, X142_66, X142_67, X142_72, X142_79, X142_80, X142_82, X142_85, Nat.zero_le, and_true, true_and, x_nb0, x_nb1, x_nbp, x_isL_int, x_isL_ref, x_isL_junk, x_isR_ref, x_cat_nil, x_cat_int, x_cat_ref, x_cat_long, Option.toList_some, Option.toList_none, List.cons_append, List.nil_append, Nat.reduceAdd, Nat.reduceLeDiff, Nat.reduceLT, t_tag_si, t_tag_sr, t_tag_sI, x_r_si, x_i_sr, t_r_sI, x_ia_si, x_ia_sI, x_ia_sr, x_ra_si, x_ra_sI, x_ra_sr, l8, if_false, n10, g_t41 hs, g_r41_27 hs, nI_mul, nI_add, g_a56 hs, tx, tc, hwd, nI_leF hse (show e < 2 ^ 31 by omega), g_r41_7 hs, g_a47 hs, tx2, tc2, hb, ee, eq_false hc]
      · rw [if_neg hse] at hc
        have ee : (nI (wdC (mqi r) i) = nI 32) = (wdC (mqi r) i = 32) := nI_eqD (by omega) (by decide)
        simp only [X142_28, X142_30, X142_33, X142_35, X142_38, X142_39, X142_42, X142_44, X142_45, X142_46, X142_48, X142_49, X142_50, X142_51, X142_53, X142_54, X142_55, X142_70, X142_72, X142_79, X142_80, X142_82, X142_85, Nat.zero_le, and_true, true_and, x_nb0, x_nb1, x_nbp, x_isL_int, x_isL_ref, x_isL_junk, x_isR_ref, x_cat_nil, x_cat_int, x_cat_ref, x_cat_long, Option.toList_some, Option.toList_none, List.cons_append, List.nil_append, Nat.reduceAdd, Nat.reduceLeDiff, Nat.reduceLT, t_tag_si, t_tag_sr, t_tag_sI, x_r_si, x_i_sr, t_r_sI, x_ia_si, x_ia_sI, x_ia_sr, x_ra_si, x_ra_sI, x_ra_sr, l8, if_false, n10, g_t41 hs, g_r41_27 hs, nI_mul, nI_add, g_a56 hs, tx, tc, hwd, nI_leT (Nat.not_lt.mp hse) (show s + i < 2 ^ 31 by omega), ee, eq_false hc, if_true]
end S9999
