/-! ===== hang(): the reference ===== -/
section S63
variable {L : Nat} {xs : Nat → Int32} {d : Nat} {w : x_W} {Q : Option Value → x_W → Prop} {S : Nat} {kd td mo kt : Nat → Nat}
theorem S179_0 (h : CM w S kd td mo kt) : X_R L xs (d + 5) 179 0 [.ref 41, .int (nI 0)] [] w Q = Q (some (.int (nI (MD w (XL S kd td mo kt) 12 (bestN (MD w (XL S kd td mo kt) 12) 19))))) (WHs w (XL S kd td mo kt)) := by
  have h175 := fun (Q' : Option Value → x_W → Prop) => S175' (L := L) (xs := xs) (d := d + 2) (Q := Q') (sm := nI (2 ^ S - 1)) h
  rw [ML_all h.S6] at h175
  have h174 := fun (Q' : Option Value → x_W → Prop) => S174 (L := L) (xs := xs) (d := d + 4) (Q := Q') h.sh h.hS h.S6
  have hb := bestN_le (MD w (XL S kd td mo kt) 12) 19
  have hix := x_ix_nI (show bestN (MD w (XL S kd td mo kt) 12) 19 < 20 by omega) (show 20 < 2 ^ 31 by decide)
  have hic := nI_cl (show bestN (MD w (XL S kd td mo kt) 12) 19 < 2 ^ 31 by omega)
  have hsW : Sh (WHs w (XL S kd td mo kt)) := h.sh
  have h180 := fun (Q' : Option Value → x_W → Prop) => S180 (L := L) (xs := xs) (d := d + 4) (Q := Q') (w := WHs w (XL S kd td mo kt)) (p := MD w (XL S kd td mo kt) 12) hsW (fun k hk => ⟨WH_61 _ _ _ _ hk, MD_le _ _ _ _⟩)
  have h61 : x_i (WHs w (XL S kd td mo kt)) 61 (bestN (MD w (XL S kd td mo kt) 12) 19) = nI (MD w (XL S kd td mo kt) 12 (bestN (MD w (XL S kd td mo kt) 12) 19)) := WH_61 _ _ _ _ (by omega)
  have hin : nI 0 ≤ nI 0 ∧ nI 0 ≤ nI 3 := by decide
  simp only [X179_0, X179_1, X179_2, X179_3, X179_6, X179_9, X179_11, X179_12, X179_13, X179_14, X179_17, X179_20, X179_21, X179_24, X179_25, X179_28, X179_29, X179_32, X179_33, X179_36, X179_37, X179_38, X179_41, X179_42, X179_45, X179_48, X179_49, X179_50, X179_53, X179_54, X179_57, X179_60, X179_61, X179_64, Nat.zero_le, and_true, true_and, x_nb0, x_nb1, x_nbp, x_isL_int, x_isL_ref, x_isL_junk, x_isR_ref, x_cat_nil, x_cat_int, x_cat_ref, x_cat_long, Option.toList_some, Option.toList_none, List.cons_append, List.nil_append, Nat.reduceAdd, Nat.reduceLeDiff, Nat.reduceLT, t_tag_si, t_tag_sr, t_tag_sI, x_r_si, x_i_sr, t_r_sI, x_ia_si, x_ia_sI, x_ia_sr, x_ra_si, x_ra_sI, x_ra_sr, S138, bI_0, hin, and_self, not_true, if_false, if_true, g_t41 h.sh, h174, h175, g_t41 hsW, g_r41_35 hsW, h180, g_a61 hsW, hix, hic, h61]
theorem S179_1 (h : CM w S kd td mo kt) : X_R L xs (d + 5) 179 0 [.ref 41, .int (nI 1)] [] w Q = Q (some (.int (nI (bestN (MD w (XL S kd td mo kt) 12) 19)))) (WHs w (XL S kd td mo kt)) := by
  have h175 := fun (Q' : Option Value → x_W → Prop) => S175' (L := L) (xs := xs) (d := d + 2) (Q := Q') (sm := nI (2 ^ S - 1)) h
  rw [ML_all h.S6] at h175
  have h174 := fun (Q' : Option Value → x_W → Prop) => S174 (L := L) (xs := xs) (d := d + 4) (Q := Q') h.sh h.hS h.S6
  have hsW : Sh (WHs w (XL S kd td mo kt)) := h.sh
  have h180 := fun (Q' : Option Value → x_W → Prop) => S180 (L := L) (xs := xs) (d := d + 4) (Q := Q') (w := WHs w (XL S kd td mo kt)) (p := MD w (XL S kd td mo kt) 12) hsW (fun k hk => ⟨WH_61 _ _ _ _ hk, MD_le _ _ _ _⟩)
  have hin : nI 0 ≤ nI 1 ∧ nI 1 ≤ nI 3 := by decide
  simp only [X179_0, X179_1, X179_2, X179_3, X179_6, X179_9, X179_11, X179_12, X179_13, X179_14, X179_17, X179_20, X179_21, X179_24, X179_25, X179_28, X179_29, X179_32, X179_33, X179_36, X179_37, X179_38, X179_41, X179_42, X179_45, X179_48, X179_49, X179_50, X179_53, X179_54, X179_57, X179_60, X179_61, X179_64, Nat.zero_le, and_true, true_and, x_nb0, x_nb1, x_nbp, x_isL_int, x_isL_ref, x_isL_junk, x_isR_ref, x_cat_nil, x_cat_int, x_cat_ref, x_cat_long, Option.toList_some, Option.toList_none, List.cons_append, List.nil_append, Nat.reduceAdd, Nat.reduceLeDiff, Nat.reduceLT, t_tag_si, t_tag_sr, t_tag_sI, x_r_si, x_i_sr, t_r_sI, x_ia_si, x_ia_sI, x_ia_sr, x_ra_si, x_ra_sI, x_ra_sr, S138, bI_0, hin, n10, and_self, not_true, if_false, if_true, g_t41 h.sh, h174, h175, g_t41 hsW, h180]
theorem S179_2 {r s0 e : Nat} {st : Nat → Nat} (h : CM w S kd td mo kt) (hr : x_i w 41 12 = nI r) (hr6 : r < 6) (hP : PartM w r 2 s0 e st) (hW : WfP st (e - s0)) :
    ∃ f g, ∀ Q, X_R L xs (d + 5) 179 0 [.ref 41, .int (nI 2)] [] w Q = Q (some (.int (nI (sumT (fun q => tm (cbN (x_i w 42)) (MD w (XL S kd td mo kt) 12) (brF st (e - s0) (XL S kd td mo kt)) (q / 20) (q % 20)) 400)))) (UN (WHs w (XL S kd td mo kt)) f g) := by
  have h175 := fun (Q' : Option Value → x_W → Prop) => S175' (L := L) (xs := xs) (d := d + 2) (Q := Q') (sm := nI (2 ^ S - 1)) h
  rw [ML_all h.S6] at h175
  have h174 := fun (Q' : Option Value → x_W → Prop) => S174 (L := L) (xs := xs) (d := d + 4) (Q := Q') h.sh h.hS h.S6
  have hsW : Sh (WHs w (XL S kd td mo kt)) := h.sh
  have hr' : x_i (WHs w (XL S kd td mo kt)) 41 12 = nI r := (congrFun (WH_o _ _ _ _ 41 (by decide)) 12).trans hr
  obtain ⟨f, g, h181⟩ := S181 (L := L) (xs := xs) (d := d + 1) (w := WHs w (XL S kd td mo kt)) (l := XL S kd td mo kt) (p := MD w (XL S kd td mo kt) 12) hsW hr' hr6 (PartM_WH hP) hW (fun k hk => WH_60 _ _ _ _ hk) (fun k hk => ⟨WH_61 _ _ _ _ hk, MD_le _ _ _ _⟩)
  have e42 : x_i (WHs w (XL S kd td mo kt)) 42 = x_i w 42 := WH_o _ _ _ _ _ (by decide)
  rw [e42] at h181
  refine ⟨f, g, fun Q => ?_⟩
  have hin : nI 0 ≤ nI 2 ∧ nI 2 ≤ nI 3 := by decide
  have n20 : ¬ nI 2 = nI 0 := by decide
  have n21 : ¬ nI 2 = nI 1 := by decide
  simp only [X179_0, X179_1, X179_2, X179_3, X179_6, X179_9, X179_11, X179_12, X179_13, X179_14, X179_17, X179_20, X179_21, X179_24, X179_25, X179_28, X179_29, X179_32, X179_33, X179_36, X179_37, X179_38, X179_41, X179_42, X179_45, X179_48, X179_49, X179_50, X179_53, X179_54, X179_57, X179_60, X179_61, X179_64, Nat.zero_le, and_true, true_and, x_nb0, x_nb1, x_nbp, x_isL_int, x_isL_ref, x_isL_junk, x_isR_ref, x_cat_nil, x_cat_int, x_cat_ref, x_cat_long, Option.toList_some, Option.toList_none, List.cons_append, List.nil_append, Nat.reduceAdd, Nat.reduceLeDiff, Nat.reduceLT, t_tag_si, t_tag_sr, t_tag_sI, x_r_si, x_i_sr, t_r_sI, x_ia_si, x_ia_sI, x_ia_sr, x_ra_si, x_ra_sI, x_ra_sr, S138, bI_0, hin, n20, n21, and_self, not_true, if_false, if_true, g_t41 h.sh, h174, h175, g_t41 hsW, h181]
theorem S179_3 (h : CM w S kd td mo kt) : X_R L xs (d + 5) 179 0 [.ref 41, .int (nI 3)] [] w Q = Q (some (.int (nI (sumT (MD w (XL S kd td mo kt) 12) 20)))) (WHs w (XL S kd td mo kt)) := by
  have h175 := fun (Q' : Option Value → x_W → Prop) => S175' (L := L) (xs := xs) (d := d + 2) (Q := Q') (sm := nI (2 ^ S - 1)) h
  rw [ML_all h.S6] at h175
  have h174 := fun (Q' : Option Value → x_W → Prop) => S174 (L := L) (xs := xs) (d := d + 4) (Q := Q') h.sh h.hS h.S6
  have hsW : Sh (WHs w (XL S kd td mo kt)) := h.sh
  have h182 := fun (Q' : Option Value → x_W → Prop) => S182 (L := L) (xs := xs) (d := d + 4) (Q := Q') (w := WHs w (XL S kd td mo kt)) (p := MD w (XL S kd td mo kt) 12) hsW (fun k hk => WH_61 _ _ _ _ hk)
  have hin : nI 0 ≤ nI 3 ∧ nI 3 ≤ nI 3 := by decide
  have n30 : ¬ nI 3 = nI 0 := by decide
  have n31 : ¬ nI 3 = nI 1 := by decide
  have n32 : ¬ nI 3 = nI 2 := by decide
  simp only [X179_0, X179_1, X179_2, X179_3, X179_6, X179_9, X179_11, X179_12, X179_13, X179_14, X179_17, X179_20, X179_21, X179_24, X179_25, X179_28, X179_29, X179_32, X179_33, X179_36, X179_37, X179_38, X179_41, X179_42, X179_45, X179_48, X179_49, X179_50, X179_53, X179_54, X179_57, X179_60, X179_61, X179_64, Nat.zero_le, and_true, true_and, x_nb0, x_nb1, x_nbp, x_isL_int, x_isL_ref, x_isL_junk, x_isR_ref, x_cat_nil, x_cat_int, x_cat_ref, x_cat_long, Option.toList_some, Option.toList_none, List.cons_append, List.nil_append, Nat.reduceAdd, Nat.reduceLeDiff, Nat.reduceLT, t_tag_si, t_tag_sr, t_tag_sI, x_r_si, x_i_sr, t_r_sI, x_ia_si, x_ia_sI, x_ia_sr, x_ra_si, x_ra_sI, x_ra_sr, S138, bI_0, hin, n30, n31, n32, and_self, not_true, if_false, if_true, g_t41 h.sh, h174, h175, g_t41 hsW, h182]
end S63
