/-! ===== taken, feed ===== -/
def fdV (a b c e f : Int32) (j : Nat) : Int32 := if j = 0 then a else if j = 1 then b else if j = 2 then c else if j = 3 then e else f
section S9985
variable {L : Nat} {xs : Nat → Int32} {d : Nat} {w w' : x_W} {S nt r : Nat} {kd td mo kt : Nat → Nat} {tls : Nat → Nat → Nat} {tks : Nat → Nat → Nat → Nat} {so : Nat → Int32} {sz : Nat → Nat}
theorem S231 {k o : Nat} (hk : k ≤ 5) (ho : o ≤ 5) {Q : Option Value → x_W → Prop} : X_R L xs d 231 0 [.int (nI k), .int (nI o)] [] w Q = Q (some (.int (bI (isTab k o = true)))) w := by
  have e := isTab_0 k (by omega) o (by omega)
  rw [e]
  have ek : ∀ c, c < 2 ^ 31 → (nI k = nI c) = (k = c) := fun c hc => nI_eqD (by omega) hc
  have eo : ∀ c, c < 2 ^ 31 → (nI o = nI c) = (o = c) := fun c hc => nI_eqD (by omega) hc
  have eko : (nI k = nI o) = (k = o) := nI_eqD (by omega) (by omega)
  by_cases h1 : o = 0
  · rw [bI_t (by subst h1; simp)]
    simp only [X231_0, X231_1, X231_4, X231_5, X231_6, X231_9, X231_10, X231_11, X231_14, X231_15, X231_16, X231_19, X231_20, X231_21, X231_24, X231_25, X231_26, X231_29, X231_30, X231_33, X231_34, Nat.zero_le, and_true, true_and, x_nb0, x_nb1, x_nbp, x_isL_int, x_isL_ref, x_isL_junk, x_isR_ref, x_cat_nil, x_cat_int, x_cat_ref, x_cat_long, Option.toList_some, Option.toList_none, List.cons_append, List.nil_append, Nat.reduceAdd, Nat.reduceLeDiff, Nat.reduceLT, t_tag_si, t_tag_sr, t_tag_sI, x_r_si, x_i_sr, t_r_sI, x_ia_si, x_ia_sI, x_ia_sr, x_ra_si, x_ra_sI, x_ra_sr, eo 0 (by decide), h1, if_true]
  · by_cases h2 : k = o
    · rw [bI_t (by subst h2; simp)]
      simp only [X231_0, X231_1, X231_4, X231_5, X231_6, X231_9, X231_10, X231_11, X231_14, X231_15, X231_16, X231_19, X231_20, X231_21, X231_24, X231_25, X231_26, X231_29, X231_30, X231_33, X231_34, Nat.zero_le, and_true, true_and, x_nb0, x_nb1, x_nbp, x_isL_int, x_isL_ref, x_isL_junk, x_isR_ref, x_cat_nil, x_cat_int, x_cat_ref, x_cat_long, Option.toList_some, Option.toList_none, List.cons_append, List.nil_append, Nat.reduceAdd, Nat.reduceLeDiff, Nat.reduceLT, t_tag_si, t_tag_sr, t_tag_sI, x_r_si, x_i_sr, t_r_sI, x_ia_si, x_ia_sI, x_ia_sr, x_ra_si, x_ra_sI, x_ra_sr, eo 0 (by decide), eq_false h1, eko, eq_true h2, if_false, if_true]
    · by_cases h3 : o = 1 ∧ k = 3
      · rw [bI_t (by obtain ⟨rfl, rfl⟩ := h3; rfl)]
        obtain ⟨rfl, rfl⟩ := h3
        simp only [X231_0, X231_1, X231_4, X231_5, X231_6, X231_9, X231_10, X231_11, X231_14, X231_15, X231_16, X231_19, X231_20, X231_21, X231_24, X231_25, X231_26, X231_29, X231_30, X231_33, X231_34, Nat.zero_le, and_true, true_and, x_nb0, x_nb1, x_nbp, x_isL_int, x_isL_ref, x_isL_junk, x_isR_ref, x_cat_nil, x_cat_int, x_cat_ref, x_cat_long, Option.toList_some, Option.toList_none, List.cons_append, List.nil_append, Nat.reduceAdd, Nat.reduceLeDiff, Nat.reduceLT, t_tag_si, t_tag_sr, t_tag_sI, x_r_si, x_i_sr, t_r_sI, x_ia_si, x_ia_sI, x_ia_sr, x_ra_si, x_ra_sI, x_ra_sr, nI_eqF (show 1 ≠ 0 by decide) (by decide) (by decide), nI_eqF (show 3 ≠ 1 by decide) (by decide) (by decide), if_false, if_true]
      · by_cases h4 : o = 2 ∧ k = 4
        · rw [bI_t (by obtain ⟨rfl, rfl⟩ := h4; rfl)]
          obtain ⟨rfl, rfl⟩ := h4
          simp only [X231_0, X231_1, X231_4, X231_5, X231_6, X231_9, X231_10, X231_11, X231_14, X231_15, X231_16, X231_19, X231_20, X231_21, X231_24, X231_25, X231_26, X231_29, X231_30, X231_33, X231_34, Nat.zero_le, and_true, true_and, x_nb0, x_nb1, x_nbp, x_isL_int, x_isL_ref, x_isL_junk, x_isR_ref, x_cat_nil, x_cat_int, x_cat_ref, x_cat_long, Option.toList_some, Option.toList_none, List.cons_append, List.nil_append, Nat.reduceAdd, Nat.reduceLeDiff, Nat.reduceLT, t_tag_si, t_tag_sr, t_tag_sI, x_r_si, x_i_sr, t_r_sI, x_ia_si, x_ia_sI, x_ia_sr, x_ra_si, x_ra_sI, x_ra_sr, nI_eqF (show 2 ≠ 0 by decide) (by decide) (by decide), nI_eqF (show 4 ≠ 2 by decide) (by decide) (by decide), nI_eqF (show 2 ≠ 1 by decide) (by decide) (by decide), if_false, if_true]
        · have hf : ¬ (o == k || o == 0 || k == 3 && o == 1 || k == 4 && o == 2) = true := by
            rw [Bool.or_eq_true, Bool.or_eq_true, Bool.or_eq_true, Bool.and_eq_true, Bool.and_eq_true, beq_iff_eq, beq_iff_eq, beq_iff_eq, beq_iff_eq, beq_iff_eq, beq_iff_eq]
            omega
          rw [bI_f hf]
          by_cases h5 : o = 1
          · have h6 : ¬ k = 3 := fun z => h3 ⟨h5, z⟩
            have h7 : ¬ o = 2 := by omega
            simp only [X231_0, X231_1, X231_4, X231_5, X231_6, X231_9, X231_10, X231_11, X231_14, X231_15, X231_16, X231_19, X231_20, X231_21, X231_24, X231_25, X231_26, X231_29, X231_30, X231_33, X231_34, Nat.zero_le, and_true, true_and, x_nb0, x_nb1, x_nbp, x_isL_int, x_isL_ref, x_isL_junk, x_isR_ref, x_cat_nil, x_cat_int, x_cat_ref, x_cat_long, Option.toList_some, Option.toList_none, List.cons_append, List.nil_append, Nat.reduceAdd, Nat.reduceLeDiff, Nat.reduceLT, t_tag_si, t_tag_sr, t_tag_sI, x_r_si, x_i_sr, t_r_sI, x_ia_si, x_ia_sI, x_ia_sr, x_ra_si, x_ra_sI, x_ra_sr, eo 0 (by decide), eo 1 (by decide), eo 2 (by decide), eq_false h1, eko, eq_false h2, ek 3 (by decide), eq_true h5, eq_false h6, eq_false h7, if_false, if_true]
          · by_cases h6 : o = 2
            · have h7 : ¬ k = 4 := fun z => h4 ⟨h6, z⟩
              simp only [X231_0, X231_1, X231_4, X231_5, X231_6, X231_9, X231_10, X231_11, X231_14, X231_15, X231_16, X231_19, X231_20, X231_21, X231_24, X231_25, X231_26, X231_29, X231_30, X231_33, X231_34, Nat.zero_le, and_true, true_and, x_nb0, x_nb1, x_nbp, x_isL_int, x_isL_ref, x_isL_junk, x_isR_ref, x_cat_nil, x_cat_int, x_cat_ref, x_cat_long, Option.toList_some, Option.toList_none, List.cons_append, List.nil_append, Nat.reduceAdd, Nat.reduceLeDiff, Nat.reduceLT, t_tag_si, t_tag_sr, t_tag_sI, x_r_si, x_i_sr, t_r_sI, x_ia_si, x_ia_sI, x_ia_sr, x_ra_si, x_ra_sI, x_ra_sr, eo 0 (by decide), eo 1 (by decide), eo 2 (by decide), eq_false h1, eko, eq_false h2, ek 4 (by decide), eq_false h5, eq_true h6, eq_false h7, if_false, if_true]
            · simp only [X231_0, X231_1, X231_4, X231_5, X231_6, X231_9, X231_10, X231_11, X231_14, X231_15, X231_16, X231_19, X231_20, X231_21, X231_24, X231_25, X231_26, X231_29, X231_30, X231_33, X231_34, Nat.zero_le, and_true, true_and, x_nb0, x_nb1, x_nbp, x_isL_int, x_isL_ref, x_isL_junk, x_isR_ref, x_cat_nil, x_cat_int, x_cat_ref, x_cat_long, Option.toList_some, Option.toList_none, List.cons_append, List.nil_append, Nat.reduceAdd, Nat.reduceLeDiff, Nat.reduceLT, t_tag_si, t_tag_sr, t_tag_sI, x_r_si, x_i_sr, t_r_sI, x_ia_si, x_ia_sI, x_ia_sr, x_ra_si, x_ra_sI, x_ra_sr, eo 0 (by decide), eo 1 (by decide), eo 2 (by decide), eq_false h1, eko, eq_false h2, eq_false h5, eq_false h6, if_false]
theorem AQ_taken {tl : Nat → Nat} {tk : Nat → Nat → Nat} (h : AG w S kd td mo kt tl tk) (u v : Int32) : AQ L xs (d + 12) 50 230 [.ref 0, .int u, .int v, x_junk] [.ref 41, .int u, .int v] w := by
  have hs := h.1.sh
  have h6 := h.1.1.S6
  have eT : x_i w 23 1 = x_i w 41 1 := h.2.2.1.2
  by_cases hv : nI 0 ≤ v ∧ v ≤ nI 6
  · have e10 := fun (w : x_W) (Q' : Option Value → x_W → Prop) => b10 (L := L) (xs := xs) (d := d + 11) (w := w) (Q := Q') hv
    have e138 := fun (w : x_W) (Q' : Option Value → x_W → Prop) => b138 (L := L) (xs := xs) (d := d + 11) (w := w) (Q := Q') hv
    by_cases hu : nI 0 ≤ u ∧ u ≤ nI 25
    · have g10 := fun (w : x_W) (Q' : Option Value → x_W → Prop) => b10 (L := L) (xs := xs) (d := d + 11) (w := w) (Q := Q') hu
      have g138 := fun (w : x_W) (Q' : Option Value → x_W → Prop) => b138 (L := L) (xs := xs) (d := d + 11) (w := w) (Q := Q') hu
      obtain ⟨k, hk, rfl⟩ := in_of (n := 6) rfl hv
      obtain ⟨i, hi, rfl⟩ := in_of (n := 25) rfl hu
      have ek6 : (nI k = nI 6) = (k = 6) := nI_eqD (by omega) (by decide)
      by_cases h20 : i < 20
      · have ix := x_ix_nI h20 (show 20 < 2 ^ 31 by decide)
        have ic := nI_cl (show i < 2 ^ 31 by omega)
        have eC := h.2.2.1.1 i h20
        have lt := nI_leF h20 (show 20 < 2 ^ 31 by decide)
        by_cases h0 : x_i w 24 i = nI 0
        · have h0' : x_i w 42 i = nI 0 := by rw [← eC]; exact h0
          refine AQ_no (v := .int (-11)) h.1.2.2 (fun Q => ?_) (fun Q => ?_)
          · simp only [X50_0, X50_1, X50_2, X50_4, X50_7, X50_13, X50_14, X50_15, X50_17, X50_20, X50_26, X50_27, X50_29, X50_32, X50_33, X50_36, X50_39, X50_40, X50_41, X50_44, X50_46, Nat.zero_le, and_true, true_and, x_nb0, x_nb1, x_nbp, x_isL_int, x_isL_ref, x_isL_junk, x_isR_ref, x_cat_nil, x_cat_int, x_cat_ref, x_cat_long, Option.toList_some, Option.toList_none, List.cons_append, List.nil_append, Nat.reduceAdd, Nat.reduceLeDiff, Nat.reduceLT, t_tag_si, t_tag_sr, t_tag_sI, x_r_si, x_i_sr, t_r_sI, x_ia_si, x_ia_sI, x_ia_sr, x_ra_si, x_ra_sI, x_ra_sr, e10, g10, n10, if_false, lt, g_t0 hs, g_r0_5 hs, g_t23 hs, g_r23_0 hs, g_a24 hs, ix, ic, h0, if_true]
          · simp only [X230_0, X230_1, X230_2, X230_4, X230_7, X230_13, X230_14, X230_15, X230_17, X230_20, X230_26, X230_27, X230_29, X230_32, X230_33, X230_36, X230_37, X230_38, X230_41, X230_43, X230_65, Nat.zero_le, and_true, true_and, x_nb0, x_nb1, x_nbp, x_isL_int, x_isL_ref, x_isL_junk, x_isR_ref, x_cat_nil, x_cat_int, x_cat_ref, x_cat_long, Option.toList_some, Option.toList_none, List.cons_append, List.nil_append, Nat.reduceAdd, Nat.reduceLeDiff, Nat.reduceLT, t_tag_si, t_tag_sr, t_tag_sI, x_r_si, x_i_sr, t_r_sI, x_ia_si, x_ia_sI, x_ia_sr, x_ra_si, x_ra_sI, x_ra_sr, e138, g138, n10, if_false, lt, g_t41 hs, g_r41_0 hs, g_a42 hs, ix, ic, h0', if_true]
        · have h0' : ¬ x_i w 42 i = nI 0 := by rw [← eC]; exact h0
          by_cases h66 : k = 6
          · refine AQ_no (v := .int (bv (x_i w 23 1) (nI i))) h.1.2.2 (fun Q => ?_) (fun Q => ?_)
            · simp only [X50_0, X50_1, X50_2, X50_4, X50_7, X50_13, X50_14, X50_15, X50_17, X50_20, X50_26, X50_27, X50_29, X50_32, X50_33, X50_36, X50_39, X50_40, X50_41, X50_47, X50_48, X50_50, X50_53, X50_54, X50_57, X50_60, X50_61, X50_62, X50_63, X50_64, X50_69, Nat.zero_le, and_true, true_and, x_nb0, x_nb1, x_nbp, x_isL_int, x_isL_ref, x_isL_junk, x_isR_ref, x_cat_nil, x_cat_int, x_cat_ref, x_cat_long, Option.toList_some, Option.toList_none, List.cons_append, List.nil_append, Nat.reduceAdd, Nat.reduceLeDiff, Nat.reduceLT, t_tag_si, t_tag_sr, t_tag_sI, x_r_si, x_i_sr, t_r_sI, x_ia_si, x_ia_sI, x_ia_sr, x_ra_si, x_ra_sI, x_ra_sr, e10, g10, n10, if_false, lt, g_t0 hs, g_r0_5 hs, g_t23 hs, g_r23_0 hs, g_a24 hs, ix, ic, h0, ek6, eq_true h66, if_true]
              rfl
            · simp only [X230_0, X230_1, X230_2, X230_4, X230_7, X230_13, X230_14, X230_15, X230_17, X230_20, X230_26, X230_27, X230_29, X230_32, X230_33, X230_36, X230_37, X230_38, X230_46, X230_47, X230_49, X230_52, X230_53, X230_56, X230_57, X230_58, X230_59, X230_60, X230_65, Nat.zero_le, and_true, true_and, x_nb0, x_nb1, x_nbp, x_isL_int, x_isL_ref, x_isL_junk, x_isR_ref, x_cat_nil, x_cat_int, x_cat_ref, x_cat_long, Option.toList_some, Option.toList_none, List.cons_append, List.nil_append, Nat.reduceAdd, Nat.reduceLeDiff, Nat.reduceLT, t_tag_si, t_tag_sr, t_tag_sI, x_r_si, x_i_sr, t_r_sI, x_ia_si, x_ia_sI, x_ia_sr, x_ra_si, x_ra_sI, x_ra_sr, e138, g138, n10, if_false, lt, g_t41 hs, g_r41_0 hs, g_a42 hs, ix, ic, h0', ek6, eq_true h66, if_true, ← eT]
              rfl
          · refine AQ_no (v := .int (-13)) h.1.2.2 (fun Q => ?_) (fun Q => ?_)
            · simp only [X50_0, X50_1, X50_2, X50_4, X50_7, X50_13, X50_14, X50_15, X50_17, X50_20, X50_26, X50_27, X50_29, X50_32, X50_33, X50_36, X50_39, X50_40, X50_41, X50_47, X50_48, X50_50, X50_67, X50_69, Nat.zero_le, and_true, true_and, x_nb0, x_nb1, x_nbp, x_isL_int, x_isL_ref, x_isL_junk, x_isR_ref, x_cat_nil, x_cat_int, x_cat_ref, x_cat_long, Option.toList_some, Option.toList_none, List.cons_append, List.nil_append, Nat.reduceAdd, Nat.reduceLeDiff, Nat.reduceLT, t_tag_si, t_tag_sr, t_tag_sI, x_r_si, x_i_sr, t_r_sI, x_ia_si, x_ia_sI, x_ia_sr, x_ra_si, x_ra_sI, x_ra_sr, e10, g10, n10, if_false, lt, g_t0 hs, g_r0_5 hs, g_t23 hs, g_r23_0 hs, g_a24 hs, ix, ic, h0, ek6, eq_false h66]
            · simp only [X230_0, X230_1, X230_2, X230_4, X230_7, X230_13, X230_14, X230_15, X230_17, X230_20, X230_26, X230_27, X230_29, X230_32, X230_33, X230_36, X230_37, X230_38, X230_46, X230_47, X230_49, X230_63, X230_65, Nat.zero_le, and_true, true_and, x_nb0, x_nb1, x_nbp, x_isL_int, x_isL_ref, x_isL_junk, x_isR_ref, x_cat_nil, x_cat_int, x_cat_ref, x_cat_long, Option.toList_some, Option.toList_none, List.cons_append, List.nil_append, Nat.reduceAdd, Nat.reduceLeDiff, Nat.reduceLT, t_tag_si, t_tag_sr, t_tag_sI, x_r_si, x_i_sr, t_r_sI, x_ia_si, x_ia_sI, x_ia_sr, x_ra_si, x_ra_sI, x_ra_sr, e138, g138, n10, if_false, lt, g_t41 hs, g_r41_0 hs, g_a42 hs, ix, ic, h0', ek6, eq_false h66]
      · have lt := nI_leT (Nat.not_lt.mp h20) (show i < 2 ^ 31 by omega)
        have sub := nI_sub (Nat.not_lt.mp h20)
        have h55 := fun (v : Int32) (Q' : Option Value → x_W → Prop) => S55 (L := L) (xs := xs) (d := d + 11) (v := v) (Q := Q') h.1.1
        by_cases hS : i - 20 < S
        · have hsl : slp S (nI (i - 20)) := slp_nI h6 hS
          have sx := x_ix_nI (show i - 20 < 6 by omega) (show 6 < 2 ^ 31 by decide)
          have sc' := nI_cl (show i - 20 < 2 ^ 31 by omega)
          obtain ⟨⟨as, ts⟩, ⟨ks, tds, ms, ls⟩, _, ⟨ks5, _, _, _⟩⟩ := h.1.slp hS
          obtain ⟨⟨k2, _⟩, _⟩ := h.2.1.1.M (i - 20) (by omega)
          have ltS := nI_ltT hS (show S < 2 ^ 31 by omega)
          by_cases h66 : k = 6
          · subst h66
            refine AQ_no (v := .int (-13)) h.1.2.2 (fun Q => ?_) (fun Q => ?_)
            · simp only [X50_0, X50_1, X50_2, X50_4, X50_7, X50_13, X50_14, X50_15, X50_17, X50_20, X50_26, X50_27, X50_29, X50_70, X50_71, X50_73, X50_74, X50_75, X50_76, X50_79, X50_80, X50_83, X50_89, X50_90, X50_92, X50_115, X50_117, Nat.zero_le, and_true, true_and, x_nb0, x_nb1, x_nbp, x_isL_int, x_isL_ref, x_isL_junk, x_isR_ref, x_cat_nil, x_cat_int, x_cat_ref, x_cat_long, Option.toList_some, Option.toList_none, List.cons_append, List.nil_append, Nat.reduceAdd, Nat.reduceLeDiff, Nat.reduceLT, t_tag_si, t_tag_sr, t_tag_sI, x_r_si, x_i_sr, t_r_sI, x_ia_si, x_ia_sI, x_ia_sr, x_ra_si, x_ra_sI, x_ra_sr, e10, g10, n10, if_false, lt, if_true, sub, g_t0 hs, g_r0_4 hs, g_t22 hs, h55, bI_t hsl, nI_leT (Nat.le_refl 6) (show 6 < 2 ^ 31 by decide)]
            · simp only [X230_0, X230_1, X230_2, X230_4, X230_7, X230_13, X230_14, X230_15, X230_17, X230_20, X230_26, X230_27, X230_29, X230_66, X230_67, X230_69, X230_70, X230_71, X230_74, X230_82, X230_83, X230_85, X230_111, X230_113, Nat.zero_le, and_true, true_and, x_nb0, x_nb1, x_nbp, x_isL_int, x_isL_ref, x_isL_junk, x_isR_ref, x_cat_nil, x_cat_int, x_cat_ref, x_cat_long, Option.toList_some, Option.toList_none, List.cons_append, List.nil_append, Nat.reduceAdd, Nat.reduceLeDiff, Nat.reduceLT, t_tag_si, t_tag_sr, t_tag_sI, x_r_si, x_i_sr, t_r_sI, x_ia_si, x_ia_sI, x_ia_sr, x_ra_si, x_ra_sI, x_ra_sr, e138, g138, n10, if_false, lt, if_true, sub, g_t41 hs, h.2.1.1.hS, ltS, nI_leT (Nat.le_refl 6) (show 6 < 2 ^ 31 by decide)]
          · have lk := nI_leF (show k < 6 by omega) (show 6 < 2 ^ 31 by decide)
            have e108 := fun (Q' : Option Value → x_W → Prop) => S108 (L := L) (xs := xs) (d := d + 10) (w := w) (Q := Q') ts ks ks5 (show k ≤ 5 by omega)
            have e231 := fun (Q' : Option Value → x_W → Prop) => S231 (L := L) (xs := xs) (d := d + 11) (w := w) (Q := Q') ks5 (show k ≤ 5 by omega)
            by_cases hA : isTab (kd (i - 20)) k = true
            · rw [bI_t hA] at e108 e231
              refine AQ_no (v := .int (nI (i - 20))) h.1.2.2 (fun Q => ?_) (fun Q => ?_)
              · simp only [X50_0, X50_1, X50_2, X50_4, X50_7, X50_13, X50_14, X50_15, X50_17, X50_20, X50_26, X50_27, X50_29, X50_70, X50_71, X50_73, X50_74, X50_75, X50_76, X50_79, X50_80, X50_83, X50_89, X50_90, X50_92, X50_95, X50_96, X50_99, X50_102, X50_103, X50_104, X50_105, X50_108, X50_111, X50_112, X50_117, Nat.zero_le, and_true, true_and, x_nb0, x_nb1, x_nbp, x_isL_int, x_isL_ref, x_isL_junk, x_isR_ref, x_cat_nil, x_cat_int, x_cat_ref, x_cat_long, Option.toList_some, Option.toList_none, List.cons_append, List.nil_append, Nat.reduceAdd, Nat.reduceLeDiff, Nat.reduceLT, t_tag_si, t_tag_sr, t_tag_sI, x_r_si, x_i_sr, t_r_sI, x_ia_si, x_ia_sI, x_ia_sr, x_ra_si, x_ra_sI, x_ra_sr, e10, g10, n10, if_false, lt, if_true, sub, g_t0 hs, g_r0_4 hs, g_t22 hs, h55, bI_t hsl, lk, g_r22_2 hs, g_a29 hs, sx, sc', as, ts, e108]
              · simp only [X230_0, X230_1, X230_2, X230_4, X230_7, X230_13, X230_14, X230_15, X230_17, X230_20, X230_26, X230_27, X230_29, X230_66, X230_67, X230_69, X230_70, X230_71, X230_74, X230_82, X230_83, X230_85, X230_88, X230_89, X230_92, X230_93, X230_95, X230_96, X230_97, X230_98, X230_101, X230_104, X230_105, X230_107, X230_108, X230_113, Nat.zero_le, and_true, true_and, x_nb0, x_nb1, x_nbp, x_isL_int, x_isL_ref, x_isL_junk, x_isR_ref, x_cat_nil, x_cat_int, x_cat_ref, x_cat_long, Option.toList_some, Option.toList_none, List.cons_append, List.nil_append, Nat.reduceAdd, Nat.reduceLeDiff, Nat.reduceLT, t_tag_si, t_tag_sr, t_tag_sI, x_r_si, x_i_sr, t_r_sI, x_ia_si, x_ia_sI, x_ia_sr, x_ra_si, x_ra_sI, x_ra_sr, e138, g138, n10, if_false, lt, if_true, sub, g_t41 hs, h.2.1.1.hS, ltS, lk, g_r41_3 hs, g_a43 hs, sx, sc', k2, e231]
            · rw [bI_f hA] at e108 e231
              refine AQ_no (v := .int (-13)) h.1.2.2 (fun Q => ?_) (fun Q => ?_)
              · simp only [X50_0, X50_1, X50_2, X50_4, X50_7, X50_13, X50_14, X50_15, X50_17, X50_20, X50_26, X50_27, X50_29, X50_70, X50_71, X50_73, X50_74, X50_75, X50_76, X50_79, X50_80, X50_83, X50_89, X50_90, X50_92, X50_95, X50_96, X50_99, X50_102, X50_103, X50_104, X50_105, X50_108, X50_115, X50_117, Nat.zero_le, and_true, true_and, x_nb0, x_nb1, x_nbp, x_isL_int, x_isL_ref, x_isL_junk, x_isR_ref, x_cat_nil, x_cat_int, x_cat_ref, x_cat_long, Option.toList_some, Option.toList_none, List.cons_append, List.nil_append, Nat.reduceAdd, Nat.reduceLeDiff, Nat.reduceLT, t_tag_si, t_tag_sr, t_tag_sI, x_r_si, x_i_sr, t_r_sI, x_ia_si, x_ia_sI, x_ia_sr, x_ra_si, x_ra_sI, x_ra_sr, e10, g10, n10, if_false, lt, if_true, sub, g_t0 hs, g_r0_4 hs, g_t22 hs, h55, bI_t hsl, lk, g_r22_2 hs, g_a29 hs, sx, sc', as, ts, e108]
              · simp only [X230_0, X230_1, X230_2, X230_4, X230_7, X230_13, X230_14, X230_15, X230_17, X230_20, X230_26, X230_27, X230_29, X230_66, X230_67, X230_69, X230_70, X230_71, X230_74, X230_82, X230_83, X230_85, X230_88, X230_89, X230_92, X230_93, X230_95, X230_96, X230_97, X230_98, X230_101, X230_111, X230_113, Nat.zero_le, and_true, true_and, x_nb0, x_nb1, x_nbp, x_isL_int, x_isL_ref, x_isL_junk, x_isR_ref, x_cat_nil, x_cat_int, x_cat_ref, x_cat_long, Option.toList_some, Option.toList_none, List.cons_append, List.nil_append, Nat.reduceAdd, Nat.reduceLeDiff, Nat.reduceLT, t_tag_si, t_tag_sr, t_tag_sI, x_r_si, x_i_sr, t_r_sI, x_ia_si, x_ia_sI, x_ia_sr, x_ra_si, x_ra_sI, x_ra_sr, e138, g138, n10, if_false, lt, if_true, sub, g_t41 hs, h.2.1.1.hS, ltS, lk, g_r41_3 hs, g_a43 hs, sx, sc', k2, e231]
        · have hsl : ¬ slp S (nI (i - 20)) := fun z => hS ((nI_ltI (show i - 20 < 2 ^ 31 by omega) (show S < 2 ^ 31 by omega)).mp z.2)
          have ltS := nI_ltF (Nat.not_lt.mp hS) (show i - 20 < 2 ^ 31 by omega)
          refine AQ_no (v := .int (-11)) h.1.2.2 (fun Q => ?_) (fun Q => ?_)
          · simp only [X50_0, X50_1, X50_2, X50_4, X50_7, X50_13, X50_14, X50_15, X50_17, X50_20, X50_26, X50_27, X50_29, X50_70, X50_71, X50_73, X50_74, X50_75, X50_76, X50_79, X50_80, X50_83, X50_86, X50_88, Nat.zero_le, and_true, true_and, x_nb0, x_nb1, x_nbp, x_isL_int, x_isL_ref, x_isL_junk, x_isR_ref, x_cat_nil, x_cat_int, x_cat_ref, x_cat_long, Option.toList_some, Option.toList_none, List.cons_append, List.nil_append, Nat.reduceAdd, Nat.reduceLeDiff, Nat.reduceLT, t_tag_si, t_tag_sr, t_tag_sI, x_r_si, x_i_sr, t_r_sI, x_ia_si, x_ia_sI, x_ia_sr, x_ra_si, x_ra_sI, x_ra_sr, e10, g10, n10, if_false, lt, if_true, sub, g_t0 hs, g_r0_4 hs, g_t22 hs, h55, bI_f hsl]
          · simp only [X230_0, X230_1, X230_2, X230_4, X230_7, X230_13, X230_14, X230_15, X230_17, X230_20, X230_26, X230_27, X230_29, X230_66, X230_67, X230_69, X230_70, X230_71, X230_74, X230_77, X230_79, X230_113, Nat.zero_le, and_true, true_and, x_nb0, x_nb1, x_nbp, x_isL_int, x_isL_ref, x_isL_junk, x_isR_ref, x_cat_nil, x_cat_int, x_cat_ref, x_cat_long, Option.toList_some, Option.toList_none, List.cons_append, List.nil_append, Nat.reduceAdd, Nat.reduceLeDiff, Nat.reduceLT, t_tag_si, t_tag_sr, t_tag_sI, x_r_si, x_i_sr, t_r_sI, x_ia_si, x_ia_sI, x_ia_sr, x_ra_si, x_ra_sI, x_ra_sr, e138, g138, n10, if_false, lt, if_true, sub, g_t41 hs, h.2.1.1.hS, ltS]
    · refine AQ_no (v := .int (-12)) h.1.2.2 (fun Q => ?_) (fun Q => ?_)
      · simp only [X50_0, X50_1, X50_2, X50_4, X50_7, X50_13, X50_14, X50_15, X50_17, X50_20, X50_23, X50_25, Nat.zero_le, and_true, true_and, x_nb0, x_nb1, x_nbp, x_isL_int, x_isL_ref, x_isL_junk, x_isR_ref, x_cat_nil, x_cat_int, x_cat_ref, x_cat_long, Option.toList_some, Option.toList_none, List.cons_append, List.nil_append, Nat.reduceAdd, Nat.reduceLeDiff, Nat.reduceLT, t_tag_si, t_tag_sr, t_tag_sI, x_r_si, x_i_sr, t_r_sI, x_ia_si, x_ia_sI, x_ia_sr, x_ra_si, x_ra_sI, x_ra_sr, e10, n10, if_false, f10 hu, if_true]
      · simp only [X230_0, X230_1, X230_2, X230_4, X230_7, X230_13, X230_14, X230_15, X230_17, X230_20, X230_23, X230_25, Nat.zero_le, and_true, true_and, x_nb0, x_nb1, x_nbp, x_isL_int, x_isL_ref, x_isL_junk, x_isR_ref, x_cat_nil, x_cat_int, x_cat_ref, x_cat_long, Option.toList_some, Option.toList_none, List.cons_append, List.nil_append, Nat.reduceAdd, Nat.reduceLeDiff, Nat.reduceLT, t_tag_si, t_tag_sr, t_tag_sI, x_r_si, x_i_sr, t_r_sI, x_ia_si, x_ia_sI, x_ia_sr, x_ra_si, x_ra_sI, x_ra_sr, e138, n10, if_false, f138 hu, if_true]
  · refine AQ_no (v := .int (-2)) h.1.2.2 (fun Q => ?_) (fun Q => ?_)
    · simp only [X50_0, X50_1, X50_2, X50_4, X50_7, X50_10, X50_12, Nat.zero_le, and_true, true_and, x_nb0, x_nb1, x_nbp, x_isL_int, x_isL_ref, x_isL_junk, x_isR_ref, x_cat_nil, x_cat_int, x_cat_ref, x_cat_long, Option.toList_some, Option.toList_none, List.cons_append, List.nil_append, Nat.reduceAdd, Nat.reduceLeDiff, Nat.reduceLT, t_tag_si, t_tag_sr, t_tag_sI, x_r_si, x_i_sr, t_r_sI, x_ia_si, x_ia_sI, x_ia_sr, x_ra_si, x_ra_sI, x_ra_sr, f10 hv, if_true]
    · simp only [X230_0, X230_1, X230_2, X230_4, X230_7, X230_10, X230_12, Nat.zero_le, and_true, true_and, x_nb0, x_nb1, x_nbp, x_isL_int, x_isL_ref, x_isL_junk, x_isR_ref, x_cat_nil, x_cat_int, x_cat_ref, x_cat_long, Option.toList_some, Option.toList_none, List.cons_append, List.nil_append, Nat.reduceAdd, Nat.reduceLeDiff, Nat.reduceLT, t_tag_si, t_tag_sr, t_tag_sI, x_r_si, x_i_sr, t_r_sI, x_ia_si, x_ia_sI, x_ia_sr, x_ra_si, x_ra_sI, x_ra_sr, f138 hv, if_true]
theorem S112 (hs : Sh w) {t : Nat} (ht : x_i w 1 1 = nI t) (h160 : t < 160) {v : Int32} {Q : Option Value → x_W → Prop} : X_R L xs d 112 0 [.ref 1, .int v] [] w Q = Q none (x_si (x_si w 2 t v) 1 1 (nI (t + 1))) := by
  have tx := x_ix_nI h160 (show 160 < 2 ^ 31 by decide)
  have tc := nI_cl (show t < 2 ^ 31 by omega)
  have e11 : x_i (x_si w 2 t v) 1 1 = nI t := by rw [x_i_sin _ _ _ _ (by decide)]; exact ht
  simp only [X112_0, X112_1, X112_4, X112_7, X112_10, X112_11, X112_14, X112_15, X112_18, X112_19, X112_20, X112_21i, X112_21, X112_22, X112_25, X112_26, X112_27, X112_30, Nat.zero_le, and_true, true_and, x_nb0, x_nb1, x_nbp, x_isL_int, x_isL_ref, x_isL_junk, x_isR_ref, x_cat_nil, x_cat_int, x_cat_ref, x_cat_long, Option.toList_some, Option.toList_none, List.cons_append, List.nil_append, Nat.reduceAdd, Nat.reduceLeDiff, Nat.reduceLT, t_tag_si, t_tag_sr, t_tag_sI, x_r_si, x_i_sr, t_r_sI, x_ia_si, x_ia_sI, x_ia_sr, x_ra_si, x_ra_sI, x_ra_sr, g_t1 hs, g_r1_0 hs, g_a2 hs, ht, nI_leF h160 (show 160 < 2 ^ 31 by decide), if_false, tx, tc, e11, nI_add]
def pFX : Nat → Nat → Bool := gp [2] [(1, 1)]
def pFM : Nat → Nat → Bool := gp [47] [(41, 8)]
theorem S8l (hs : Sh w) {a b c e f : Int32} {t N : Nat} (hN5 : N ≤ 5) (hN : t + N ≤ 160) : ∀ n j, j + n = N → ∀ w1, Ch pFX w w1 → x_i w1 2 = x_seg t j (fdV a b c e f) (x_i w 2) → x_i w1 1 1 = nI (t + j) → ∃ w2, Ch pFX w w2 ∧ x_i w2 2 = x_seg t N (fdV a b c e f) (x_i w 2) ∧ x_i w2 1 1 = nI (t + N) ∧ ∀ Q, X_R L xs (d + 12) 8 68 [.ref 0, .int (nI N), .int a, .int b, .int c, .int e, .int f, .int (nI j)] [] w1 Q = Q (some (.int (nI (t + N)))) w2 := by
  intro n
  induction n with
  | zero =>
    intro j hj w1 c1 h2 h11
    obtain rfl : j = N := by omega
    have hs1 := c1.sh hs
    refine ⟨w1, c1, h2, h11, fun Q => ?_⟩
    rw [X8_68]
    simp only [X8_70, X8_71, X8_130, X8_131, X8_134, X8_137, Nat.zero_le, and_true, true_and, x_nb0, x_nb1, x_nbp, x_isL_int, x_isL_ref, x_isL_junk, x_isR_ref, x_cat_nil, x_cat_int, x_cat_ref, x_cat_long, Option.toList_some, Option.toList_none, List.cons_append, List.nil_append, Nat.reduceAdd, Nat.reduceLeDiff, Nat.reduceLT, t_tag_si, t_tag_sr, t_tag_sI, x_r_si, x_i_sr, t_r_sI, x_ia_si, x_ia_sI, x_ia_sr, x_ra_si, x_ra_sI, x_ra_sr, nI_leT (Nat.le_refl j) (show j < 2 ^ 31 by omega), if_true, g_t0 hs1, g_r0_0 hs1, g_t1 hs1, h11]
  | succ n ih =>
    intro j hj w1 c1 h2 h11
    have hs1 := c1.sh hs
    have e112 := fun (v : Int32) (Q' : Option Value → x_W → Prop) => S112 (L := L) (xs := xs) (d := d + 11) (Q := Q') hs1 h11 (show t + j < 160 by omega) (v := v)
    have c2 : Ch pFX w1 (x_si (x_si w1 2 (t + j) (fdV a b c e f j)) 1 1 (nI (t + j + 1))) := (Ch_si rfl).trans (Ch_si rfl)
    obtain ⟨w2, c3, h3, h4, e2⟩ := ih (j + 1) (by omega) _ (c1.trans c2) (by rw [x_i_sin _ _ _ _ (by decide), x_i_si, h2]; exact x_seg_s t j _ _) (by rw [x_i_si, upd_s, Nat.add_assoc])
    refine ⟨w2, c3, h3, h4, fun Q => ?_⟩
    rw [← e2 Q, X8_68]
    have lt := nI_leF (show j < N by omega) (show N < 2 ^ 31 by omega)
    rcases (by omega : j = 0 ∨ j = 1 ∨ j = 2 ∨ j = 3 ∨ j = 4) with rfl | rfl | rfl | rfl | rfl
    · simp only [X8_70, X8_71, X8_74, X8_75, X8_78, X8_80, X8_83, X8_84, X8_121, X8_124, X8_127, Nat.zero_le, and_true, true_and, x_nb0, x_nb1, x_nbp, x_isL_int, x_isL_ref, x_isL_junk, x_isR_ref, x_cat_nil, x_cat_int, x_cat_ref, x_cat_long, Option.toList_some, Option.toList_none, List.cons_append, List.nil_append, Nat.reduceAdd, Nat.reduceLeDiff, Nat.reduceLT, t_tag_si, t_tag_sr, t_tag_sI, x_r_si, x_i_sr, t_r_sI, x_ia_si, x_ia_sI, x_ia_sr, x_ra_si, x_ra_sI, x_ra_sr, lt, if_false, g_t0 hs1, g_r0_0 hs1, g_t1 hs1, if_true, e112, nI_add]
      rfl
    · simp only [X8_70, X8_71, X8_74, X8_75, X8_78, X8_80, X8_87, X8_89, X8_90, X8_93, X8_94, X8_121, X8_124, X8_127, Nat.zero_le, and_true, true_and, x_nb0, x_nb1, x_nbp, x_isL_int, x_isL_ref, x_isL_junk, x_isR_ref, x_cat_nil, x_cat_int, x_cat_ref, x_cat_long, Option.toList_some, Option.toList_none, List.cons_append, List.nil_append, Nat.reduceAdd, Nat.reduceLeDiff, Nat.reduceLT, t_tag_si, t_tag_sr, t_tag_sI, x_r_si, x_i_sr, t_r_sI, x_ia_si, x_ia_sI, x_ia_sr, x_ra_si, x_ra_sI, x_ra_sr, lt, if_false, g_t0 hs1, g_r0_0 hs1, g_t1 hs1, n10, if_true, e112, nI_add]
      rfl
    · simp only [X8_70, X8_71, X8_74, X8_75, X8_78, X8_80, X8_87, X8_89, X8_90, X8_97, X8_99, X8_100, X8_103, X8_105, X8_121, X8_124, X8_127, Nat.zero_le, and_true, true_and, x_nb0, x_nb1, x_nbp, x_isL_int, x_isL_ref, x_isL_junk, x_isR_ref, x_cat_nil, x_cat_int, x_cat_ref, x_cat_long, Option.toList_some, Option.toList_none, List.cons_append, List.nil_append, Nat.reduceAdd, Nat.reduceLeDiff, Nat.reduceLT, t_tag_si, t_tag_sr, t_tag_sI, x_r_si, x_i_sr, t_r_sI, x_ia_si, x_ia_sI, x_ia_sr, x_ra_si, x_ra_sI, x_ra_sr, lt, if_false, g_t0 hs1, g_r0_0 hs1, g_t1 hs1, nI_eqF (show 2 ≠ 0 by decide) (by decide) (by decide), nI_eqF (show 2 ≠ 1 by decide) (by decide) (by decide), if_true, e112, nI_add]
      rfl
    · simp only [X8_70, X8_71, X8_74, X8_75, X8_78, X8_80, X8_87, X8_89, X8_90, X8_97, X8_99, X8_100, X8_108, X8_110, X8_111, X8_114, X8_116, X8_121, X8_124, X8_127, Nat.zero_le, and_true, true_and, x_nb0, x_nb1, x_nbp, x_isL_int, x_isL_ref, x_isL_junk, x_isR_ref, x_cat_nil, x_cat_int, x_cat_ref, x_cat_long, Option.toList_some, Option.toList_none, List.cons_append, List.nil_append, Nat.reduceAdd, Nat.reduceLeDiff, Nat.reduceLT, t_tag_si, t_tag_sr, t_tag_sI, x_r_si, x_i_sr, t_r_sI, x_ia_si, x_ia_sI, x_ia_sr, x_ra_si, x_ra_sI, x_ra_sr, lt, if_false, g_t0 hs1, g_r0_0 hs1, g_t1 hs1, nI_eqF (show 3 ≠ 0 by decide) (by decide) (by decide), nI_eqF (show 3 ≠ 1 by decide) (by decide) (by decide), nI_eqF (show 3 ≠ 2 by decide) (by decide) (by decide), if_true, e112, nI_add]
      rfl
    · simp only [X8_70, X8_71, X8_74, X8_75, X8_78, X8_80, X8_87, X8_89, X8_90, X8_97, X8_99, X8_100, X8_108, X8_110, X8_111, X8_119, X8_121, X8_124, X8_127, Nat.zero_le, and_true, true_and, x_nb0, x_nb1, x_nbp, x_isL_int, x_isL_ref, x_isL_junk, x_isR_ref, x_cat_nil, x_cat_int, x_cat_ref, x_cat_long, Option.toList_some, Option.toList_none, List.cons_append, List.nil_append, Nat.reduceAdd, Nat.reduceLeDiff, Nat.reduceLT, t_tag_si, t_tag_sr, t_tag_sI, x_r_si, x_i_sr, t_r_sI, x_ia_si, x_ia_sI, x_ia_sr, x_ra_si, x_ra_sI, x_ra_sr, lt, if_false, g_t0 hs1, g_r0_0 hs1, g_t1 hs1, nI_eqF (show 4 ≠ 0 by decide) (by decide) (by decide), nI_eqF (show 4 ≠ 1 by decide) (by decide) (by decide), nI_eqF (show 4 ≠ 2 by decide) (by decide) (by decide), nI_eqF (show 4 ≠ 3 by decide) (by decide) (by decide), e112, nI_add]
      rfl
theorem S159l (hs : Sh w) {a b c e f : Int32} {t N : Nat} (hN5 : N ≤ 5) (hN : t + N ≤ 160) : ∀ n j, j + n = N → ∀ w1, Ch pFM w w1 → x_i w1 47 = x_seg t j (fdV a b c e f) (x_i w 47) → x_i w1 41 8 = nI (t + j) → ∃ w2, Ch pFM w w2 ∧ x_i w2 47 = x_seg t N (fdV a b c e f) (x_i w 47) ∧ x_i w2 41 8 = nI (t + N) ∧ ∀ Q, X_R L xs (d + 12) 159 68 [.ref 41, .int (nI N), .int a, .int b, .int c, .int e, .int f, .int (nI j)] [] w1 Q = Q (some (.int (nI (t + N)))) w2 := by
  intro n
  induction n with
  | zero =>
    intro j hj w1 c1 h2 h11
    obtain rfl : j = N := by omega
    have hs1 := c1.sh hs
    refine ⟨w1, c1, h2, h11, fun Q => ?_⟩
    rw [X159_68]
    simp only [X159_70, X159_71, X159_142, X159_143, X159_146, Nat.zero_le, and_true, true_and, x_nb0, x_nb1, x_nbp, x_isL_int, x_isL_ref, x_isL_junk, x_isR_ref, x_cat_nil, x_cat_int, x_cat_ref, x_cat_long, Option.toList_some, Option.toList_none, List.cons_append, List.nil_append, Nat.reduceAdd, Nat.reduceLeDiff, Nat.reduceLT, t_tag_si, t_tag_sr, t_tag_sI, x_r_si, x_i_sr, t_r_sI, x_ia_si, x_ia_sI, x_ia_sr, x_ra_si, x_ra_sI, x_ra_sr, nI_leT (Nat.le_refl j) (show j < 2 ^ 31 by omega), if_true, g_t41 hs1, h11]
  | succ n ih =>
    intro j hj w1 c1 h2 h11
    have hs1 := c1.sh hs
    have tx := x_ix_nI (show t + j < 160 by omega) (show 160 < 2 ^ 31 by decide)
    have tc := nI_cl (show t + j < 2 ^ 31 by omega)
    have c2 : Ch pFM w1 (x_si (x_si w1 47 (t + j) (fdV a b c e f j)) 41 8 (nI (t + j + 1))) := (Ch_si rfl).trans (Ch_si rfl)
    have e418 : ∀ v, x_i (x_si w1 47 (t + j) v) 41 8 = nI (t + j) := fun v => by rw [x_i_sin _ _ _ _ (by decide)]; exact h11
    obtain ⟨w2, c3, h3, h4, e2⟩ := ih (j + 1) (by omega) _ (c1.trans c2) (by rw [x_i_sin _ _ _ _ (by decide), x_i_si, h2]; exact x_seg_s t j _ _) (by rw [x_i_si, upd_s, Nat.add_assoc])
    refine ⟨w2, c3, h3, h4, fun Q => ?_⟩
    rw [← e2 Q, X159_68]
    have lt := nI_leF (show j < N by omega) (show N < 2 ^ 31 by omega)
    rcases (by omega : j = 0 ∨ j = 1 ∨ j = 2 ∨ j = 3 ∨ j = 4) with rfl | rfl | rfl | rfl | rfl
    · simp only [X159_70, X159_71, X159_74, X159_75, X159_78, X159_79, X159_82, X159_84, X159_87, X159_88, X159_125, X159_126, X159_127i, X159_127, X159_128, X159_131, X159_132, X159_133, X159_136, X159_139, Nat.zero_le, and_true, true_and, x_nb0, x_nb1, x_nbp, x_isL_int, x_isL_ref, x_isL_junk, x_isR_ref, x_cat_nil, x_cat_int, x_cat_ref, x_cat_long, Option.toList_some, Option.toList_none, List.cons_append, List.nil_append, Nat.reduceAdd, Nat.reduceLeDiff, Nat.reduceLT, t_tag_si, t_tag_sr, t_tag_sI, x_r_si, x_i_sr, t_r_sI, x_ia_si, x_ia_sI, x_ia_sr, x_ra_si, x_ra_sI, x_ra_sr, lt, if_false, g_t41 hs1, g_r41_7 hs1, g_a47 hs1, h11, tx, tc, e418, if_true, nI_add]
      rfl
    · simp only [X159_70, X159_71, X159_74, X159_75, X159_78, X159_79, X159_82, X159_84, X159_91, X159_93, X159_94, X159_97, X159_98, X159_125, X159_126, X159_127i, X159_127, X159_128, X159_131, X159_132, X159_133, X159_136, X159_139, Nat.zero_le, and_true, true_and, x_nb0, x_nb1, x_nbp, x_isL_int, x_isL_ref, x_isL_junk, x_isR_ref, x_cat_nil, x_cat_int, x_cat_ref, x_cat_long, Option.toList_some, Option.toList_none, List.cons_append, List.nil_append, Nat.reduceAdd, Nat.reduceLeDiff, Nat.reduceLT, t_tag_si, t_tag_sr, t_tag_sI, x_r_si, x_i_sr, t_r_sI, x_ia_si, x_ia_sI, x_ia_sr, x_ra_si, x_ra_sI, x_ra_sr, lt, if_false, g_t41 hs1, g_r41_7 hs1, g_a47 hs1, h11, tx, tc, e418, n10, if_true, nI_add]
      rfl
    · simp only [X159_70, X159_71, X159_74, X159_75, X159_78, X159_79, X159_82, X159_84, X159_91, X159_93, X159_94, X159_101, X159_103, X159_104, X159_107, X159_109, X159_125, X159_126, X159_127i, X159_127, X159_128, X159_131, X159_132, X159_133, X159_136, X159_139, Nat.zero_le, and_true, true_and, x_nb0, x_nb1, x_nbp, x_isL_int, x_isL_ref, x_isL_junk, x_isR_ref, x_cat_nil, x_cat_int, x_cat_ref, x_cat_long, Option.toList_some, Option.toList_none, List.cons_append, List.nil_append, Nat.reduceAdd, Nat.reduceLeDiff, Nat.reduceLT, t_tag_si, t_tag_sr, t_tag_sI, x_r_si, x_i_sr, t_r_sI, x_ia_si, x_ia_sI, x_ia_sr, x_ra_si, x_ra_sI, x_ra_sr, lt, if_false, g_t41 hs1, g_r41_7 hs1, g_a47 hs1, h11, tx, tc, e418, nI_eqF (show 2 ≠ 0 by decide) (by decide) (by decide), nI_eqF (show 2 ≠ 1 by decide) (by decide) (by decide), if_true, nI_add]
      rfl
    · simp only [X159_70, X159_71, X159_74, X159_75, X159_78, X159_79, X159_82, X159_84, X159_91, X159_93, X159_94, X159_101, X159_103, X159_104, X159_112, X159_114, X159_115, X159_118, X159_120, X159_125, X159_126, X159_127i, X159_127, X159_128, X159_131, X159_132, X159_133, X159_136, X159_139, Nat.zero_le, and_true, true_and, x_nb0, x_nb1, x_nbp, x_isL_int, x_isL_ref, x_isL_junk, x_isR_ref, x_cat_nil, x_cat_int, x_cat_ref, x_cat_long, Option.toList_some, Option.toList_none, List.cons_append, List.nil_append, Nat.reduceAdd, Nat.reduceLeDiff, Nat.reduceLT, t_tag_si, t_tag_sr, t_tag_sI, x_r_si, x_i_sr, t_r_sI, x_ia_si, x_ia_sI, x_ia_sr, x_ra_si, x_ra_sI, x_ra_sr, lt, if_false, g_t41 hs1, g_r41_7 hs1, g_a47 hs1, h11, tx, tc, e418, nI_eqF (show 3 ≠ 0 by decide) (by decide) (by decide), nI_eqF (show 3 ≠ 1 by decide) (by decide) (by decide), nI_eqF (show 3 ≠ 2 by decide) (by decide) (by decide), if_true, nI_add]
      rfl
    · simp only [X159_70, X159_71, X159_74, X159_75, X159_78, X159_79, X159_82, X159_84, X159_91, X159_93, X159_94, X159_101, X159_103, X159_104, X159_112, X159_114, X159_115, X159_123, X159_125, X159_126, X159_127i, X159_127, X159_128, X159_131, X159_132, X159_133, X159_136, X159_139, Nat.zero_le, and_true, true_and, x_nb0, x_nb1, x_nbp, x_isL_int, x_isL_ref, x_isL_junk, x_isR_ref, x_cat_nil, x_cat_int, x_cat_ref, x_cat_long, Option.toList_some, Option.toList_none, List.cons_append, List.nil_append, Nat.reduceAdd, Nat.reduceLeDiff, Nat.reduceLT, t_tag_si, t_tag_sr, t_tag_sI, x_r_si, x_i_sr, t_r_sI, x_ia_si, x_ia_sI, x_ia_sr, x_ra_si, x_ra_sI, x_ra_sr, lt, if_false, g_t41 hs1, g_r41_7 hs1, g_a47 hs1, h11, tx, tc, e418, nI_eqF (show 4 ≠ 0 by decide) (by decide) (by decide), nI_eqF (show 4 ≠ 1 by decide) (by decide) (by decide), nI_eqF (show 4 ≠ 2 by decide) (by decide) (by decide), nI_eqF (show 4 ≠ 3 by decide) (by decide) (by decide), nI_add]
      rfl
abbrev byt (v : Int32) : Prop := nI 0 ≤ v ∧ v ≤ nI 255
theorem CA_feed (hJ : J w S kd td mo kt nt r tls tks so sz) (n a b c e f : Int32) : CA L xs (d + 12) 8 159 [.ref 0, .int n, .int a, .int b, .int c, .int e, .int f, x_junk] [.ref 41, .int n, .int a, .int b, .int c, .int e, .int f, x_junk] w := by
  have hs := hJ.sh
  have f9 : ∀ {v : Int32}, byt v → ∀ (w : x_W) (Q' : Option Value → x_W → Prop), X_R L xs (d + 11) 9 0 [.int v] [] w Q' = Q' (some (.int (nI 1))) w := fun h w Q' => by rw [S9 (d := d + 10), bI_t h]
  have n9 : ∀ {v : Int32}, ¬ byt v → ∀ (w : x_W) (Q' : Option Value → x_W → Prop), X_R L xs (d + 11) 9 0 [.int v] [] w Q' = Q' (some (.int (nI 0))) w := fun h w Q' => by rw [S9 (d := d + 10), bI_f h]
  have f160 : ∀ {v : Int32}, byt v → ∀ (w : x_W) (Q' : Option Value → x_W → Prop), X_R L xs (d + 11) 160 0 [.int v] [] w Q' = Q' (some (.int (nI 1))) w := fun h w Q' => by rw [S160 (d := d + 10), bI_t h]
  have n160 : ∀ {v : Int32}, ¬ byt v → ∀ (w : x_W) (Q' : Option Value → x_W → Prop), X_R L xs (d + 11) 160 0 [.int v] [] w Q' = Q' (some (.int (nI 0))) w := fun h w Q' => by rw [S160 (d := d + 10), bI_f h]
  by_cases hn : nI 1 ≤ n ∧ n ≤ nI 5
  · have e138 := fun (w : x_W) (Q' : Option Value → x_W → Prop) => b138 (L := L) (xs := xs) (d := d + 11) (w := w) (Q := Q') hn
    have l1 : ¬ n < nI 1 := Int32.not_lt.mpr hn.1
    have l5 : ¬ nI 5 < n := Int32.not_lt.mpr hn.2
    by_cases ha : byt a
    · by_cases hb : byt b
      · by_cases hc : byt c
        · by_cases he : byt e
          · by_cases hf : byt f
            · obtain ⟨N, hN5, rfl⟩ := in_of (n := 5) rfl ⟨Int32.le_trans (by decide) hn.1, hn.2⟩
              have hN1 : 1 ≤ N := (nI_leI (show 1 < 2 ^ 31 by decide) (show N < 2 ^ 31 by omega)).mp hn.1
              obtain ⟨t, ht, t1, t2, tb, tw⟩ := hJ.2.2.1
              have e134 : ∀ Q', X_R L xs (d + 11) 134 0 [.ref 1] [] w Q' = Q' (some (.int (nI (160 - t)))) w := fun Q' => by
                simp only [X134_0, X134_3, X134_4, X134_7, X134_8, Nat.zero_le, and_true, true_and, x_nb0, x_nb1, x_nbp, x_isL_int, x_isL_ref, x_isL_junk, x_isR_ref, x_cat_nil, x_cat_int, x_cat_ref, x_cat_long, Option.toList_some, Option.toList_none, List.cons_append, List.nil_append, Nat.reduceAdd, Nat.reduceLeDiff, Nat.reduceLT, t_tag_si, t_tag_sr, t_tag_sI, x_r_si, x_i_sr, t_r_sI, x_ia_si, x_ia_sI, x_ia_sr, x_ra_si, x_ra_sI, x_ra_sr, g_t1 hs, t1, nI_sub ht]
              have e8 : ∀ Q, X_R L xs (d + 12) 8 0 [.ref 0, .int (nI N), .int a, .int b, .int c, .int e, .int f, x_junk] [] w Q = if nI N ≤ nI (160 - t) then X_R L xs (d + 12) 8 68 [.ref 0, .int (nI N), .int a, .int b, .int c, .int e, .int f, .int (nI 0)] [] w Q else Q (some (.int (-4))) w := fun Q => by
                simp only [X8_0, X8_1, X8_2, X8_5, X8_6, X8_7, X8_10, X8_11, X8_14, X8_17, X8_18, X8_21, X8_24, X8_26, X8_29, X8_32, X8_34, X8_37, X8_40, X8_42, X8_45, X8_51, X8_52, X8_53, X8_56, X8_59, X8_62, X8_64, X8_65, X8_66, Nat.zero_le, and_true, true_and, x_nb0, x_nb1, x_nbp, x_isL_int, x_isL_ref, x_isL_junk, x_isR_ref, x_cat_nil, x_cat_int, x_cat_ref, x_cat_long, Option.toList_some, Option.toList_none, List.cons_append, List.nil_append, Nat.reduceAdd, Nat.reduceLeDiff, Nat.reduceLT, t_tag_si, t_tag_sr, t_tag_sI, x_r_si, x_i_sr, t_r_sI, x_ia_si, x_ia_sI, x_ia_sr, x_ra_si, x_ra_sI, x_ra_sr, l1, l5, if_false, f9 ha, f9 hb, f9 hc, f9 he, f9 hf, n10, g_t0 hs, g_r0_0 hs, g_t1 hs, e134]
              have e159 : ∀ w1 Q, Sh w1 → x_i w1 41 8 = nI t → X_R L xs (d + 12) 159 0 [.ref 41, .int (nI N), .int a, .int b, .int c, .int e, .int f, x_junk] [] w1 Q = if nI (t + N) ≤ nI 160 then X_R L xs (d + 12) 159 68 [.ref 41, .int (nI N), .int a, .int b, .int c, .int e, .int f, .int (nI 0)] [] w1 Q else Q (some (.int (-4))) w1 := fun w1 Q hs1 t2' => by
                simp only [X159_0, X159_1, X159_2, X159_3, X159_6, X159_9, X159_10, X159_13, X159_16, X159_17, X159_20, X159_23, X159_25, X159_28, X159_31, X159_33, X159_36, X159_39, X159_41, X159_44, X159_50, X159_51, X159_54, X159_55, X159_56, X159_59, X159_62, X159_64, X159_65, X159_66, Nat.zero_le, and_true, true_and, x_nb0, x_nb1, x_nbp, x_isL_int, x_isL_ref, x_isL_junk, x_isR_ref, x_cat_nil, x_cat_int, x_cat_ref, x_cat_long, Option.toList_some, Option.toList_none, List.cons_append, List.nil_append, Nat.reduceAdd, Nat.reduceLeDiff, Nat.reduceLT, t_tag_si, t_tag_sr, t_tag_sI, x_r_si, x_i_sr, t_r_sI, x_ia_si, x_ia_sI, x_ia_sr, x_ra_si, x_ra_sI, x_ra_sr, e138, n10, if_false, f160 ha, f160 hb, f160 hc, f160 he, f160 hf, g_t41 hs1, t2', nI_add]
              by_cases hroom : t + N ≤ 160
              · obtain ⟨w1, c1, h12, h111, e1⟩ := S8l (L := L) (xs := xs) (d := d) hs (a := a) (b := b) (c := c) (e := e) (f := f) (t := t) hN5 hroom N 0 (by omega) w Ch.refl (by rw [x_seg_0]) (by rw [t1]; rfl)
                have hs1 := c1.sh hs
                have e418 : x_i w1 41 8 = nI t := (c1.2.2 41 8 rfl).trans t2
                obtain ⟨w2, c2, h247, h2418, e2⟩ := S159l (L := L) (xs := xs) (d := d) hs1 (a := a) (b := b) (c := c) (e := e) (f := f) (t := t) hN5 hroom N 0 (by omega) w1 Ch.refl (by rw [x_seg_0]) (by rw [e418]; rfl)
                have c1' : Ch (gp [2, 47] [(1, 1), (41, 8)]) w w1 := gp_up c1 rfl rfl
                have c2' : Ch (gp [2, 47] [(1, 1), (41, 8)]) w1 w2 := gp_up c2 rfl rfl
                have cc := c1'.trans c2'
                have KAf : KA (gp [2, 47] [(1, 1), (41, 8)]) := ⟨⟨rfl, rfl, rfl, rfl, rfl, rfl, rfl, rfl⟩, fun _ => ⟨rfl, rfl, rfl, rfl, rfl, rfl, rfl, rfl, rfl⟩, six ⟨fun _ => rfl, fun _ => rfl, fun _ => rfl, fun _ => rfl, fun _ => rfl, fun _ => rfl⟩, KL_gp rfl rfl⟩
                refine ⟨.int (nI (t + N)), w1, w2, ⟨S, kd, td, mo, kt, nt, r, tls, tks, so, sz, hJ.1.gen cc KAf (hJ.ag.1.2.2.of (cc.2.2 23 6 rfl) (cc.i (fun _ => rfl)) (cc.i (fun _ => rfl))), hJ.2.1.gen cc (four ⟨fun _ => ⟨rfl, rfl⟩, fun _ => ⟨rfl, rfl⟩, fun _ => ⟨rfl, rfl⟩, fun _ => ⟨rfl, rfl⟩⟩) (fun _ => ⟨rfl, rfl, rfl⟩), ⟨t + N, hroom, ?_, h2418, fun k hk => ?_, by unfold WD; rw [cc.i (fun _ => rfl : ∀ k, gp [2, 47] [(1, 1), (41, 8)] 56 k = false)]; exact tw⟩, hJ.2.2.2.1.gen cc (fun _ => ⟨rfl, rfl, rfl, rfl, rfl⟩) ⟨rfl, rfl, rfl, rfl⟩, cc.len hJ.2.2.2.2⟩, fun Q => ?_, fun Q => ?_⟩
                · rw [c2.2.2 1 1 rfl]; exact h111
                · rw [c2.i (fun _ => rfl : ∀ k, pFM 2 k = false), h12, h247, c1.i (fun _ => rfl : ∀ k, pFX 47 k = false)]
                  by_cases hkt : k < t
                  · rw [x_seg_out (Or.inl hkt), x_seg_out (Or.inl hkt)]
                    exact tb k hkt
                  · obtain ⟨q, rfl⟩ : ∃ q, k = t + q := ⟨k - t, by omega⟩
                    rw [x_seg_in (by omega), x_seg_in (by omega)]
                    have hb' : byt (fdV a b c e f q) := by
                      unfold fdV
                      split
                      · exact ha
                      · split
                        · exact hb
                        · split
                          · exact hc
                          · split
                            · exact he
                            · exact hf
                    obtain ⟨z, hz, ez⟩ := in_of (n := 255) rfl hb'
                    exact ⟨z, hz, ez, ez⟩
                · rw [e8 Q, if_pos (nI_le (by omega) (by omega))]
                  exact e1 Q
                · rw [e159 w1 Q hs1 e418, if_pos (nI_le hroom (by decide))]
                  exact e2 Q
              · refine CA_no (v := .int (-4)) hJ (fun Q => ?_) (fun Q => ?_)
                · rw [e8 Q, if_neg (nI_ge (show 160 - t < N by omega) (show N < 2 ^ 31 by omega))]
                · rw [e159 w Q hs t2, if_neg (nI_ge (show 160 < t + N by omega) (show t + N < 2 ^ 31 by omega))]
            · refine CA_no (v := .int (-2)) hJ (fun Q => ?_) (fun Q => ?_)
              · simp only [X8_0, X8_1, X8_2, X8_5, X8_6, X8_7, X8_10, X8_11, X8_14, X8_17, X8_18, X8_21, X8_24, X8_26, X8_29, X8_32, X8_34, X8_37, X8_40, X8_42, X8_45, X8_48, X8_50, Nat.zero_le, and_true, true_and, x_nb0, x_nb1, x_nbp, x_isL_int, x_isL_ref, x_isL_junk, x_isR_ref, x_cat_nil, x_cat_int, x_cat_ref, x_cat_long, Option.toList_some, Option.toList_none, List.cons_append, List.nil_append, Nat.reduceAdd, Nat.reduceLeDiff, Nat.reduceLT, t_tag_si, t_tag_sr, t_tag_sI, x_r_si, x_i_sr, t_r_sI, x_ia_si, x_ia_sI, x_ia_sr, x_ra_si, x_ra_sI, x_ra_sr, l1, l5, if_false, f9 ha, f9 hb, f9 hc, f9 he, n9 hf, n10, if_true]
              · simp only [X159_0, X159_1, X159_2, X159_3, X159_6, X159_9, X159_10, X159_13, X159_16, X159_17, X159_20, X159_23, X159_25, X159_28, X159_31, X159_33, X159_36, X159_39, X159_41, X159_44, X159_47, X159_49, Nat.zero_le, and_true, true_and, x_nb0, x_nb1, x_nbp, x_isL_int, x_isL_ref, x_isL_junk, x_isR_ref, x_cat_nil, x_cat_int, x_cat_ref, x_cat_long, Option.toList_some, Option.toList_none, List.cons_append, List.nil_append, Nat.reduceAdd, Nat.reduceLeDiff, Nat.reduceLT, t_tag_si, t_tag_sr, t_tag_sI, x_r_si, x_i_sr, t_r_sI, x_ia_si, x_ia_sI, x_ia_sr, x_ra_si, x_ra_sI, x_ra_sr, e138, n10, if_false, f160 ha, f160 hb, f160 hc, f160 he, n160 hf, if_true]
          · refine CA_no (v := .int (-2)) hJ (fun Q => ?_) (fun Q => ?_)
            · simp only [X8_0, X8_1, X8_2, X8_5, X8_6, X8_7, X8_10, X8_11, X8_14, X8_17, X8_18, X8_21, X8_24, X8_26, X8_29, X8_32, X8_34, X8_37, X8_48, X8_50, Nat.zero_le, and_true, true_and, x_nb0, x_nb1, x_nbp, x_isL_int, x_isL_ref, x_isL_junk, x_isR_ref, x_cat_nil, x_cat_int, x_cat_ref, x_cat_long, Option.toList_some, Option.toList_none, List.cons_append, List.nil_append, Nat.reduceAdd, Nat.reduceLeDiff, Nat.reduceLT, t_tag_si, t_tag_sr, t_tag_sI, x_r_si, x_i_sr, t_r_sI, x_ia_si, x_ia_sI, x_ia_sr, x_ra_si, x_ra_sI, x_ra_sr, l1, l5, if_false, f9 ha, f9 hb, f9 hc, n9 he, n10, if_true]
            · simp only [X159_0, X159_1, X159_2, X159_3, X159_6, X159_9, X159_10, X159_13, X159_16, X159_17, X159_20, X159_23, X159_25, X159_28, X159_31, X159_33, X159_36, X159_47, X159_49, Nat.zero_le, and_true, true_and, x_nb0, x_nb1, x_nbp, x_isL_int, x_isL_ref, x_isL_junk, x_isR_ref, x_cat_nil, x_cat_int, x_cat_ref, x_cat_long, Option.toList_some, Option.toList_none, List.cons_append, List.nil_append, Nat.reduceAdd, Nat.reduceLeDiff, Nat.reduceLT, t_tag_si, t_tag_sr, t_tag_sI, x_r_si, x_i_sr, t_r_sI, x_ia_si, x_ia_sI, x_ia_sr, x_ra_si, x_ra_sI, x_ra_sr, e138, n10, if_false, f160 ha, f160 hb, f160 hc, n160 he, if_true]
        · refine CA_no (v := .int (-2)) hJ (fun Q => ?_) (fun Q => ?_)
          · simp only [X8_0, X8_1, X8_2, X8_5, X8_6, X8_7, X8_10, X8_11, X8_14, X8_17, X8_18, X8_21, X8_24, X8_26, X8_29, X8_48, X8_50, Nat.zero_le, and_true, true_and, x_nb0, x_nb1, x_nbp, x_isL_int, x_isL_ref, x_isL_junk, x_isR_ref, x_cat_nil, x_cat_int, x_cat_ref, x_cat_long, Option.toList_some, Option.toList_none, List.cons_append, List.nil_append, Nat.reduceAdd, Nat.reduceLeDiff, Nat.reduceLT, t_tag_si, t_tag_sr, t_tag_sI, x_r_si, x_i_sr, t_r_sI, x_ia_si, x_ia_sI, x_ia_sr, x_ra_si, x_ra_sI, x_ra_sr, l1, l5, if_false, f9 ha, f9 hb, n9 hc, n10, if_true]
          · simp only [X159_0, X159_1, X159_2, X159_3, X159_6, X159_9, X159_10, X159_13, X159_16, X159_17, X159_20, X159_23, X159_25, X159_28, X159_47, X159_49, Nat.zero_le, and_true, true_and, x_nb0, x_nb1, x_nbp, x_isL_int, x_isL_ref, x_isL_junk, x_isR_ref, x_cat_nil, x_cat_int, x_cat_ref, x_cat_long, Option.toList_some, Option.toList_none, List.cons_append, List.nil_append, Nat.reduceAdd, Nat.reduceLeDiff, Nat.reduceLT, t_tag_si, t_tag_sr, t_tag_sI, x_r_si, x_i_sr, t_r_sI, x_ia_si, x_ia_sI, x_ia_sr, x_ra_si, x_ra_sI, x_ra_sr, e138, n10, if_false, f160 ha, f160 hb, n160 hc, if_true]
      · refine CA_no (v := .int (-2)) hJ (fun Q => ?_) (fun Q => ?_)
        · simp only [X8_0, X8_1, X8_2, X8_5, X8_6, X8_7, X8_10, X8_11, X8_14, X8_17, X8_18, X8_21, X8_48, X8_50, Nat.zero_le, and_true, true_and, x_nb0, x_nb1, x_nbp, x_isL_int, x_isL_ref, x_isL_junk, x_isR_ref, x_cat_nil, x_cat_int, x_cat_ref, x_cat_long, Option.toList_some, Option.toList_none, List.cons_append, List.nil_append, Nat.reduceAdd, Nat.reduceLeDiff, Nat.reduceLT, t_tag_si, t_tag_sr, t_tag_sI, x_r_si, x_i_sr, t_r_sI, x_ia_si, x_ia_sI, x_ia_sr, x_ra_si, x_ra_sI, x_ra_sr, l1, l5, if_false, f9 ha, n9 hb, n10, if_true]
        · simp only [X159_0, X159_1, X159_2, X159_3, X159_6, X159_9, X159_10, X159_13, X159_16, X159_17, X159_20, X159_47, X159_49, Nat.zero_le, and_true, true_and, x_nb0, x_nb1, x_nbp, x_isL_int, x_isL_ref, x_isL_junk, x_isR_ref, x_cat_nil, x_cat_int, x_cat_ref, x_cat_long, Option.toList_some, Option.toList_none, List.cons_append, List.nil_append, Nat.reduceAdd, Nat.reduceLeDiff, Nat.reduceLT, t_tag_si, t_tag_sr, t_tag_sI, x_r_si, x_i_sr, t_r_sI, x_ia_si, x_ia_sI, x_ia_sr, x_ra_si, x_ra_sI, x_ra_sr, e138, n10, if_false, f160 ha, n160 hb, if_true]
    · refine CA_no (v := .int (-2)) hJ (fun Q => ?_) (fun Q => ?_)
      · simp only [X8_0, X8_1, X8_2, X8_5, X8_6, X8_7, X8_10, X8_11, X8_14, X8_48, X8_50, Nat.zero_le, and_true, true_and, x_nb0, x_nb1, x_nbp, x_isL_int, x_isL_ref, x_isL_junk, x_isR_ref, x_cat_nil, x_cat_int, x_cat_ref, x_cat_long, Option.toList_some, Option.toList_none, List.cons_append, List.nil_append, Nat.reduceAdd, Nat.reduceLeDiff, Nat.reduceLT, t_tag_si, t_tag_sr, t_tag_sI, x_r_si, x_i_sr, t_r_sI, x_ia_si, x_ia_sI, x_ia_sr, x_ra_si, x_ra_sI, x_ra_sr, l1, l5, if_false, n9 ha, if_true]
      · simp only [X159_0, X159_1, X159_2, X159_3, X159_6, X159_9, X159_10, X159_13, X159_47, X159_49, Nat.zero_le, and_true, true_and, x_nb0, x_nb1, x_nbp, x_isL_int, x_isL_ref, x_isL_junk, x_isR_ref, x_cat_nil, x_cat_int, x_cat_ref, x_cat_long, Option.toList_some, Option.toList_none, List.cons_append, List.nil_append, Nat.reduceAdd, Nat.reduceLeDiff, Nat.reduceLT, t_tag_si, t_tag_sr, t_tag_sI, x_r_si, x_i_sr, t_r_sI, x_ia_si, x_ia_sI, x_ia_sr, x_ra_si, x_ra_sI, x_ra_sr, e138, n10, if_false, n160 ha, if_true]
  · refine CA_no (v := .int (-2)) hJ (fun Q => ?_) (fun Q => ?_)
    · by_cases h1 : n < nI 1
      · simp only [X8_0, X8_1, X8_2, X8_48, X8_50, Nat.zero_le, and_true, true_and, x_nb0, x_nb1, x_nbp, x_isL_int, x_isL_ref, x_isL_junk, x_isR_ref, x_cat_nil, x_cat_int, x_cat_ref, x_cat_long, Option.toList_some, Option.toList_none, List.cons_append, List.nil_append, Nat.reduceAdd, Nat.reduceLeDiff, Nat.reduceLT, t_tag_si, t_tag_sr, t_tag_sI, x_r_si, x_i_sr, t_r_sI, x_ia_si, x_ia_sI, x_ia_sr, x_ra_si, x_ra_sI, x_ra_sr, h1, if_true]
      · have h2 : nI 5 < n := Int32.not_le.mp (fun q => hn ⟨Int32.not_lt.mp h1, q⟩)
        simp only [X8_0, X8_1, X8_2, X8_5, X8_6, X8_7, X8_48, X8_50, Nat.zero_le, and_true, true_and, x_nb0, x_nb1, x_nbp, x_isL_int, x_isL_ref, x_isL_junk, x_isR_ref, x_cat_nil, x_cat_int, x_cat_ref, x_cat_long, Option.toList_some, Option.toList_none, List.cons_append, List.nil_append, Nat.reduceAdd, Nat.reduceLeDiff, Nat.reduceLT, t_tag_si, t_tag_sr, t_tag_sI, x_r_si, x_i_sr, t_r_sI, x_ia_si, x_ia_sI, x_ia_sr, x_ra_si, x_ra_sI, x_ra_sr, h1, if_false, h2, if_true]
    · simp only [X159_0, X159_1, X159_2, X159_3, X159_6, X159_47, X159_49, Nat.zero_le, and_true, true_and, x_nb0, x_nb1, x_nbp, x_isL_int, x_isL_ref, x_isL_junk, x_isR_ref, x_cat_nil, x_cat_int, x_cat_ref, x_cat_long, Option.toList_some, Option.toList_none, List.cons_append, List.nil_append, Nat.reduceAdd, Nat.reduceLeDiff, Nat.reduceLT, t_tag_si, t_tag_sr, t_tag_sI, x_r_si, x_i_sr, t_r_sI, x_ia_si, x_ia_sI, x_ia_sr, x_ra_si, x_ra_sI, x_ra_sr, f138 hn, if_true]
end S9985
