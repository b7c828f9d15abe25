/-! ===== pull() ===== -/
theorem negN {c : Nat} (h0 : 0 < c) (hc : c < 2 ^ 31) : ¬ (0 : Int32) ≤ nI 0 - nI c := by
  intro h
  rw [Int32.le_iff_toInt_le, Int32.toInt_sub, nI_toInt hc, nI_toInt (show 0 < 2 ^ 31 by decide)] at h
  have h1 : (0 : Int32).toInt = 0 := rfl
  rw [h1, Int.bmod_eq_of_le (by omega) (by omega)] at h
  omega
theorem absN {a b : Nat} (ha : a < 2 ^ 31) (hb : b < 2 ^ 31) : (if 0 ≤ nI a - nI b then nI a - nI b else 0 - (nI a - nI b)) = nI (absD a b) := by
  unfold absD
  by_cases h : b ≤ a
  · rw [nI_sub h, if_pos (nI_pos' (by omega)), if_pos h]
  · have e : nI a - nI b = nI 0 - nI (b - a) := by
      have h2 := nI_sub (a := b) (b := b - a) (by omega)
      rw [show b - (b - a) = a by omega] at h2
      rw [← h2, nI_0, Int32.zero_sub, Int32.sub_eq_add_neg, Int32.sub_eq_add_neg (nI b), Int32.add_comm (nI b), Int32.add_assoc, Int32.add_right_neg, Int32.add_zero]
    rw [e, if_neg (negN (by omega) (by omega)), if_neg h, nI_0, Int32.zero_sub, Int32.zero_sub, Int32.neg_neg]
theorem n01 : ¬ nI 0 = nI 1 := by decide
def plN (c : Nat → Nat → Bool) (p : Nat → Nat) (i j : Nat) : Nat := if c i j = true then absD (p i) (p j) else 0
section S53
variable {L : Nat} {xs : Nat → Int32} {d : Nat} {w : x_W} {Q : Option Value → x_W → Prop} {S : Nat} {kd td mo kt : Nat → Nat}
theorem S93 {i j : Nat} {p : Nat → Nat} (hs : Sh w) (hd : Sd w) (hi : i < 20) (hj : j < 20) (hp : ∀ k, k < 20 → x_i w 26 k = nI (p k) ∧ p k ≤ 999) : X_R L xs (d + 1) 93 0 [.ref 23, .int (nI i), .int (nI j)] [] w Q = Q (some (.int (nI (plN (cbN (x_i w 24)) p i j)))) w := by
  have hc := fun (Q' : Option Value → x_W → Prop) => S88t (L := L) (xs := xs) (d := d) (w := w) (Q := Q') hs (kn_nI hi) (kn_nI hj)
  have hic := nI_cl (show i < 2 ^ 31 by omega)
  have hjc := nI_cl (show j < 2 ^ 31 by omega)
  have hix := x_ix_nI hi (show 20 < 2 ^ 31 by decide)
  have hjx := x_ix_nI hj (show 20 < 2 ^ 31 by decide)
  have h1 := hp i hi
  have h2 := hp j hj
  have ha := absN (show p i < 2 ^ 31 by omega) (show p j < 2 ^ 31 by omega)
  have hpl : plN (cbN (x_i w 24)) p i j = if bv (x_i w 24 i) (nI j) = nI 1 then absD (p i) (p j) else 0 := by
    unfold plN cbN
    by_cases h : bv (x_i w 24 i) (nI j) = nI 1 <;> simp [h]
  rw [hpl]
  simp only [hic] at hc
  rcases bv_cases (x_i w 24 i) (nI j) with hb | hb
  · simp only [X93_0, X93_1, X93_2, X93_3, X93_6, X93_9, X93_10, X93_13, X93_14, X93_14s, X93_15, X93_16, X93_19, X93_20, X93_20s, X93_21, X93_22, X93_25, X93_28, X93_29, Nat.zero_le, and_true, true_and, x_nb0, x_nb1, x_nbp, x_isL_int, x_isL_ref, x_isL_junk, x_isR_ref, x_cat_nil, x_cat_int, x_cat_ref, x_cat_long, Option.toList_some, Option.toList_none, List.cons_append, List.nil_append, Nat.reduceAdd, Nat.reduceLeDiff, Nat.reduceLT, t_tag_si, t_tag_sr, t_tag_sI, x_r_si, x_i_sr, t_r_sI, x_ia_si, x_ia_sI, x_ia_sr, x_ra_si, x_ra_sI, x_ra_sr, g_t23 hs, hc, hb, if_true, n01, if_false]
  · simp only [X93_0, X93_1, X93_2, X93_3, X93_6, X93_9, X93_10, X93_13, X93_14, X93_14s, X93_15, X93_16, X93_19, X93_20, X93_20s, X93_21, X93_22, X93_25, X93_28, X93_29, Nat.zero_le, and_true, true_and, x_nb0, x_nb1, x_nbp, x_isL_int, x_isL_ref, x_isL_junk, x_isR_ref, x_cat_nil, x_cat_int, x_cat_ref, x_cat_long, Option.toList_some, Option.toList_none, List.cons_append, List.nil_append, Nat.reduceAdd, Nat.reduceLeDiff, Nat.reduceLT, t_tag_si, t_tag_sr, t_tag_sI, x_r_si, x_i_sr, t_r_sI, x_ia_si, x_ia_sI, x_ia_sr, x_ra_si, x_ra_sI, x_ra_sr, g_t23 hs, hc, hb, n10, if_true, if_false, hd.1, g_a26 hs, hic, hjc, hix, hjx, h1.1, h2.1, ha]
theorem S19 {a b : Int32} [Decidable (bes a b)] (h : CX w S kd td mo kt) : X_R L xs (d + 4) 19 0 [.ref 0, .int a, .int b] [] w Q = if bes a b then Q (some (.int (nI (plN (cbN (x_i w 24)) (XD w (XL S kd td mo kt) 12) a.toNatClampNeg b.toNatClampNeg)))) (WXs w (XL S kd td mo kt)) else Q (some (.int (-5))) w := by
  have h56 := fun (Q' : Option Value → x_W → Prop) => S56' (L := L) (xs := xs) (d := d) (Q := Q') h
  have hsW : Sh (WXs w (XL S kd td mo kt)) := h.sh
  have hdW : Sd (WXs w (XL S kd td mo kt)) := h.sd
  by_cases hb : bes a b
  · obtain ⟨hka, hkb⟩ := bes_kn hb
    obtain ⟨i, hi, rfl⟩ := kn_of hka
    obtain ⟨j, hj, rfl⟩ := kn_of hkb
    have h93 := fun (Q' : Option Value → x_W → Prop) => S93 (L := L) (xs := xs) (d := d + 2) (Q := Q') (w := WXs w (XL S kd td mo kt)) (p := XD w (XL S kd td mo kt) 12) hsW hdW hi hj (fun k hk => ⟨WX_26 _ _ _ _ hk, XD_le _ _ _ _⟩)
    have e24 : x_i (WXs w (XL S kd td mo kt)) 24 = x_i w 24 := WX_o _ _ _ _ _ (by decide)
    rw [e24] at h93
    rw [if_pos hb, nI_cl (show i < 2 ^ 31 by omega), nI_cl (show j < 2 ^ 31 by omega)]
    simp only [X19_0, X19_1, X19_2, X19_5, X19_8, X19_10, X19_11, X19_12, X19_15, X19_18, X19_19, X19_22, X19_23, X19_24, X19_27, Nat.zero_le, and_true, true_and, x_nb0, x_nb1, x_nbp, x_isL_int, x_isL_ref, x_isL_junk, x_isR_ref, x_cat_nil, x_cat_int, x_cat_ref, x_cat_long, Option.toList_some, Option.toList_none, List.cons_append, List.nil_append, Nat.reduceAdd, Nat.reduceLeDiff, Nat.reduceLT, t_tag_si, t_tag_sr, t_tag_sI, x_r_si, x_i_sr, t_r_sI, x_ia_si, x_ia_sI, x_ia_sr, x_ra_si, x_ra_sI, x_ra_sr, S86, bI_0, hb, not_true, if_false, g_t0 h.sh, g_r0_0 h.sh, g_r0_1 h.sh, g_r0_4 h.sh, g_r0_5 h.sh, g_r0_6 h.sh, g_r0_7 h.sh, g_t22 h.sh, h56, g_t0 hsW, g_r0_0 hsW, g_r0_1 hsW, g_r0_4 hsW, g_r0_5 hsW, g_r0_6 hsW, g_r0_7 hsW, g_t23 hsW, h93]
  · simp only [X19_0, X19_1, X19_2, X19_5, X19_8, X19_10, Nat.zero_le, and_true, true_and, x_nb0, x_nb1, x_nbp, x_isL_int, x_isL_ref, x_isL_junk, x_isR_ref, x_cat_nil, x_cat_int, x_cat_ref, x_cat_long, Option.toList_some, Option.toList_none, List.cons_append, List.nil_append, Nat.reduceAdd, Nat.reduceLeDiff, Nat.reduceLT, t_tag_si, t_tag_sr, t_tag_sI, x_r_si, x_i_sr, t_r_sI, x_ia_si, x_ia_sI, x_ia_sr, x_ra_si, x_ra_sI, x_ra_sr, S86, bI_0, hb, not_false_eq_true, if_false, if_true]
theorem S178 {a b : Int32} [Decidable (bes a b)] (h : CM w S kd td mo kt) : X_R L xs (d + 3) 178 0 [.ref 41, .int a, .int b] [] w Q = if bes a b then Q (some (.int (nI (plN (cbN (x_i w 42)) (MD w (XL S kd td mo kt) 12) a.toNatClampNeg b.toNatClampNeg)))) (WHs w (XL S kd td mo kt)) else Q (some (.int (-5))) w := by
  have h175 := fun (Q' : Option Value → x_W → Prop) => S175' (L := L) (xs := xs) (d := d) (Q := Q') (sm := nI (2 ^ S - 1)) h
  rw [ML_all h.S6] at h175
  have h174 := fun (Q' : Option Value → x_W → Prop) => S174 (L := L) (xs := xs) (d := d + 2) (Q := Q') h.sh h.hS h.S6
  have hsW : Sh (WHs w (XL S kd td mo kt)) := h.sh
  by_cases hb : bes a b
  · obtain ⟨hka, hkb⟩ := bes_kn hb
    obtain ⟨i, hi, rfl⟩ := kn_of hka
    obtain ⟨j, hj, rfl⟩ := kn_of hkb
    have hic := nI_cl (show i < 2 ^ 31 by omega)
    have hjc := nI_cl (show j < 2 ^ 31 by omega)
    have hix := kn_ix hka
    have hjx := kn_ix hkb
    have h152 := fun (Q' : Option Value → x_W → Prop) => S152 (L := L) (Q := Q') (xs := xs) (d := d + 2) (w := WHs w (XL S kd td mo kt)) (b := nI j) hsW hix
    have e42 : x_i (WHs w (XL S kd td mo kt)) 42 = x_i w 42 := WH_o _ _ _ _ _ (by decide)
    simp only [hic, e42] at h152
    have h61i : x_i (WHs w (XL S kd td mo kt)) 61 i = nI (MD w (XL S kd td mo kt) 12 i) := WH_61 _ _ _ _ hi
    have h61j : x_i (WHs w (XL S kd td mo kt)) 61 j = nI (MD w (XL S kd td mo kt) 12 j) := WH_61 _ _ _ _ hj
    have hpi := MD_le w (XL S kd td mo kt) 12 i
    have hpj := MD_le w (XL S kd td mo kt) 12 j
    generalize MD w (XL S kd td mo kt) 12 = p at *
    have ha := apartN (show p i < 2 ^ 31 by omega) (show p j < 2 ^ 31 by omega)
    have hpl : plN (cbN (x_i w 42)) p i j = if bv (x_i w 42 i) (nI j) = nI 1 then absD (p i) (p j) else 0 := by
      unfold plN cbN
      by_cases h : bv (x_i w 42 i) (nI j) = nI 1 <;> simp [h]
    rw [if_pos hb, hic, hjc, hpl]
    rcases bv_cases (x_i w 42 i) (nI j) with hv | hv
    · simp only [X178_0, X178_1, X178_2, X178_5, X178_8, X178_10, X178_11, X178_12, X178_13, X178_16, X178_19, X178_20, X178_21, X178_22, X178_25, X178_28, X178_29, X178_32, X178_33, X178_34, X178_35, X178_38, X178_39, X178_40, X178_43, X178_46, X178_47, Nat.zero_le, and_true, true_and, x_nb0, x_nb1, x_nbp, x_isL_int, x_isL_ref, x_isL_junk, x_isR_ref, x_cat_nil, x_cat_int, x_cat_ref, x_cat_long, Option.toList_some, Option.toList_none, List.cons_append, List.nil_append, Nat.reduceAdd, Nat.reduceLeDiff, Nat.reduceLT, t_tag_si, t_tag_sr, t_tag_sI, x_r_si, x_i_sr, t_r_sI, x_ia_si, x_ia_sI, x_ia_sr, x_ra_si, x_ra_sI, x_ra_sr, S136, bI_0, hb, not_true, if_false, g_t41 h.sh, h174, h175, g_t41 hsW, h152, hv, if_true, n01]
    · simp only [X178_0, X178_1, X178_2, X178_5, X178_8, X178_10, X178_11, X178_12, X178_13, X178_16, X178_19, X178_20, X178_21, X178_22, X178_25, X178_28, X178_29, X178_32, X178_33, X178_34, X178_35, X178_38, X178_39, X178_40, X178_43, X178_46, X178_47, Nat.zero_le, and_true, true_and, x_nb0, x_nb1, x_nbp, x_isL_int, x_isL_ref, x_isL_junk, x_isR_ref, x_cat_nil, x_cat_int, x_cat_ref, x_cat_long, Option.toList_some, Option.toList_none, List.cons_append, List.nil_append, Nat.reduceAdd, Nat.reduceLeDiff, Nat.reduceLT, t_tag_si, t_tag_sr, t_tag_sI, x_r_si, x_i_sr, t_r_sI, x_ia_si, x_ia_sI, x_ia_sr, x_ra_si, x_ra_sI, x_ra_sr, S136, bI_0, hb, not_true, if_false, g_t41 h.sh, h174, h175, g_t41 hsW, h152, hv, if_true, n10, g_r41_35 hsW, g_a61 hsW, hix, hjx, hic, hjc, h61i, h61j, S139, ha]
  · simp only [X178_0, X178_1, X178_2, X178_5, X178_8, X178_10, Nat.zero_le, and_true, true_and, x_nb0, x_nb1, x_nbp, x_isL_int, x_isL_ref, x_isL_junk, x_isR_ref, x_cat_nil, x_cat_int, x_cat_ref, x_cat_long, Option.toList_some, Option.toList_none, List.cons_append, List.nil_append, Nat.reduceAdd, Nat.reduceLeDiff, Nat.reduceLT, t_tag_si, t_tag_sr, t_tag_sI, x_r_si, x_i_sr, t_r_sI, x_ia_si, x_ia_sI, x_ia_sr, x_ra_si, x_ra_sI, x_ra_sr, S136, bI_0, hb, not_false_eq_true, if_false, if_true]
end S53
