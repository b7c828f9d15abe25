/-! ===== images: image, back ===== -/
theorem x_tn_si (w : x_W) (a k : Nat) (v : Int32) (b : Nat) : x_tn (x_si w a k v) b = x_tn w b := Eq.trans rfl rfl
theorem neg20 : ¬ (nI 20 < 0 ∨ nI 0 < 0 ∨ nI 0 < 0) := by decide
theorem cl20 : (nI 20).toNatClampNeg = 20 := nI_cl (by decide)
theorem hb1 : (nI 1 = 0 ∨ nI 1 = 1) = True := eq_true (Or.inr rfl)
theorem hb0 : (nI 0 = 0 ∨ nI 0 = 1) = True := eq_true (Or.inl rfl)
def imgW (w : x_W) (r : Int32) : x_W := x_si (x_sI (x_si (x_sI (x_si (x_si w 7 0 (nI 1)) 7 1 r) 8 (va_cpy (x_i w 24) (x_i w 8) 0 0 20)) 7 3 (x_i w 23 1)) 9 (va_cpy (x_i w 30) (x_i w 9) 0 0 6)) 7 5 (x_i w 22 4)
def imgM (w : x_W) : x_W := x_sI (x_sI (x_si (x_si (x_si (x_si w 41 13 (nI 1)) 41 14 (x_i w 41 2)) 41 15 (x_i w 41 1)) 41 16 (x_i w 41 12)) 50 (x_fn 20 (x_i w 42) (x_i w 50))) 51 (x_fn 6 (x_i w 46) (x_i w 51))
def bakW (w : x_W) : x_W := x_si (x_sI (x_si (x_si (x_sI w 24 (va_cpy (x_i w 8) (x_i w 24) 0 0 20)) 23 6 (nI 0)) 23 1 (x_i w 7 3)) 30 (va_cpy (x_i w 9) (x_i w 30) 0 0 6)) 22 4 (x_i w 7 5)
def bakM (w : x_W) : x_W := x_sI (x_sI (x_si (x_si (x_si w 41 2 (x_i w 41 14)) 41 1 (x_i w 41 15)) 41 12 (x_i w 41 16)) 42 (x_fn 20 (x_i w 50) (x_i w 42))) 46 (x_fn 6 (x_i w 51) (x_i w 46))
section S998
variable {L : Nat} {xs : Nat → Int32} {d : Nat} {w w' : x_W}
theorem S76 (hs : Sh w) {r : Int32} {Q : Option Value → x_W → Prop} : X_R L xs d 76 0 [.ref 7, .ref 23, .ref 22, .int r] [] w Q = Q none (imgW w r) := by
  obtain ⟨n8, _⟩ := tn_of (g_t8 hs)
  obtain ⟨n9, _⟩ := tn_of (g_t9 hs)
  obtain ⟨n24, _⟩ := tn_of (g_t24 hs)
  obtain ⟨n30, _⟩ := tn_of (g_t30 hs)
  unfold imgW
  simp only [X76_0, X76_1, X76_2, X76_5, X76_6, X76_7, X76_10, X76_11, X76_14, X76_15, X76_16, X76_19, X76_20, X76_22, X76_25, X76_26, X76_27, X76_30, X76_33, X76_34, X76_37, X76_38, X76_39, X76_42, X76_43, X76_45, X76_48, X76_49, X76_50, X76_53, X76_56, Nat.zero_le, and_true, true_and, x_nb0, x_nb1, x_nbp, x_isL_int, x_isL_ref, x_isL_junk, x_isR_ref, x_cat_nil, x_cat_int, x_cat_ref, x_cat_long, Option.toList_some, Option.toList_none, List.cons_append, List.nil_append, Nat.reduceAdd, Nat.reduceLeDiff, Nat.reduceLT, t_tag_si, t_tag_sr, t_tag_sI, x_r_si, x_i_sr, t_r_sI, x_ia_si, x_ia_sI, x_ia_sr, x_ra_si, x_ra_sI, x_ra_sr, g_t7 hs, g_r7_2 hs, g_r7_4 hs, g_a8 hs, g_a9 hs, g_t23 hs, g_r23_0 hs, g_r23_2 hs, g_r23_5 hs, g_a24 hs, g_a25 hs, g_a26 hs, g_a27 hs, g_a28 hs, g_t22 hs, g_r22_0 hs, g_r22_2 hs, g_r22_3 hs, g_r22_5 hs, g_r22_6 hs, g_r22_7 hs, g_r22_8 hs, g_a29 hs, g_r29_0 hs, g_r29_1 hs, g_r29_2 hs, g_r29_3 hs, g_r29_4 hs, g_r29_5 hs, g_a30 hs, g_a31 hs, g_a32 hs, g_a33 hs, g_a34 hs, g_t35 hs, g_t36 hs, g_t37 hs, g_t38 hs, g_t39 hs, g_t40 hs, hb1, x_tn_si, x_tn_sI, n8, n9, n24, n30, g_t8 hs, g_t9 hs, g_t24 hs, g_t30 hs, neg20, neg6, not_false_eq_true, cl0, cl6, cl20, x_i_sin, x_i_sIn, ne_eq, Nat.reduceEqDiff]
theorem S224 (hs : Sh w) {Q : Option Value → x_W → Prop} : X_R L xs d 224 0 [.ref 41, x_junk] [] w Q = Q (some (.int (x_i w 41 2))) (imgM w) := by
  have c0 : Ch (gp [] [(41, 13), (41, 14), (41, 15), (41, 16)]) w (x_si (x_si (x_si (x_si w 41 13 (nI 1)) 41 14 (x_i w 41 2)) 41 15 (x_i w 41 1)) 41 16 (x_i w 41 12)) := (Ch_si rfl).trans ((Ch_si rfl).trans ((Ch_si rfl).trans (Ch_si rfl)))
  unfold imgM
  have e2 : x_i (x_si w 41 13 (nI 1)) 41 2 = x_i w 41 2 := by rw [x_i_si, upd_o (by decide)]
  have e1 : x_i (x_si (x_si w 41 13 (nI 1)) 41 14 (x_i w 41 2)) 41 1 = x_i w 41 1 := by rw [x_i_si, upd_o (by decide), x_i_si, upd_o (by decide)]
  have e12 : x_i (x_si (x_si (x_si w 41 13 (nI 1)) 41 14 (x_i w 41 2)) 41 15 (x_i w 41 1)) 41 12 = x_i w 41 12 := by rw [x_i_si, upd_o (by decide), x_i_si, upd_o (by decide), x_i_si, upd_o (by decide)]
  have f2 : x_i (x_si (x_si (x_si (x_si w 41 13 (nI 1)) 41 14 (x_i w 41 2)) 41 15 (x_i w 41 1)) 41 16 (x_i w 41 12)) 41 2 = x_i w 41 2 := c0.2.2 41 2 rfl
  have f42 : x_i (x_si (x_si (x_si (x_si w 41 13 (nI 1)) 41 14 (x_i w 41 2)) 41 15 (x_i w 41 1)) 41 16 (x_i w 41 12)) 42 = x_i w 42 := c0.i (fun _ => rfl)
  have f46 : x_i (x_si (x_si (x_si (x_si w 41 13 (nI 1)) 41 14 (x_i w 41 2)) 41 15 (x_i w 41 1)) 41 16 (x_i w 41 12)) 46 = x_i w 46 := c0.i (fun _ => rfl)
  have f50 : x_i (x_si (x_si (x_si (x_si w 41 13 (nI 1)) 41 14 (x_i w 41 2)) 41 15 (x_i w 41 1)) 41 16 (x_i w 41 12)) 50 = x_i w 50 := c0.i (fun _ => rfl)
  have f51 : x_i (x_si (x_si (x_si (x_si w 41 13 (nI 1)) 41 14 (x_i w 41 2)) 41 15 (x_i w 41 1)) 41 16 (x_i w 41 12)) 51 = x_i w 51 := c0.i (fun _ => rfl)
  have e0 : X_R L xs d 224 0 [.ref 41, x_junk] [] w Q = X_R L xs d 224 31 [.ref 41, .int (nI 0)] [] (x_si (x_si (x_si (x_si w 41 13 (nI 1)) 41 14 (x_i w 41 2)) 41 15 (x_i w 41 1)) 41 16 (x_i w 41 12)) Q := by
    simp only [X224_0, X224_1, X224_2, X224_5, X224_6, X224_7, X224_10, X224_13, X224_14, X224_15, X224_18, X224_21, X224_22, X224_23, X224_26, X224_29, X224_30, Nat.zero_le, and_true, true_and, x_nb0, x_nb1, x_nbp, x_isL_int, x_isL_ref, x_isL_junk, x_isR_ref, x_cat_nil, x_cat_int, x_cat_ref, x_cat_long, Option.toList_some, Option.toList_none, List.cons_append, List.nil_append, Nat.reduceAdd, Nat.reduceLeDiff, Nat.reduceLT, t_tag_si, t_tag_sr, t_tag_sI, x_r_si, x_i_sr, t_r_sI, x_ia_si, x_ia_sI, x_ia_sr, x_ra_si, x_ra_sI, x_ra_sr, g_t41 hs, hb1, e2, e1, e12]
  have hs0 := c0.sh hs
  rw [e0]
  generalize x_si (x_si (x_si (x_si w 41 13 (nI 1)) 41 14 (x_i w 41 2)) 41 15 (x_i w 41 1)) 41 16 (x_i w 41 12) = w0 at *
  have l1 : ∀ n j, j + n = 20 → X_R L xs d 224 31 [.ref 41, .int (nI j)] [] (x_sI w0 50 (x_fn j (x_i w0 42) (x_i w0 50))) Q = X_R L xs d 224 57 [.ref 41, .int (nI 0)] [] (x_sI w0 50 (x_fn 20 (x_i w0 42) (x_i w0 50))) Q := by
    intro n
    induction n with
    | zero =>
      intro j hj
      obtain rfl : j = 20 := by omega
      rw [X224_31]
      simp only [X224_32, X224_34, X224_55, X224_56, Nat.zero_le, and_true, true_and, x_nb0, x_nb1, x_nbp, x_isL_int, x_isL_ref, x_isL_junk, x_isR_ref, x_cat_nil, x_cat_int, x_cat_ref, x_cat_long, Option.toList_some, Option.toList_none, List.cons_append, List.nil_append, Nat.reduceAdd, Nat.reduceLeDiff, Nat.reduceLT, t_tag_si, t_tag_sr, t_tag_sI, x_r_si, x_i_sr, t_r_sI, x_ia_si, x_ia_sI, x_ia_sr, x_ra_si, x_ra_sI, x_ra_sr, nI_leT (Nat.le_refl 20) (show 20 < 2 ^ 31 by decide), if_true]
    | succ n ih =>
      intro j hj
      have jx := x_ix_nI (show j < 20 by omega) (show 20 < 2 ^ 31 by decide)
      have jc := nI_cl (show j < 2 ^ 31 by omega)
      have e : x_i (x_sI w0 50 (x_fn j (x_i w0 42) (x_i w0 50))) 42 = x_i w0 42 := x_i_sIn _ _ _ (by decide)
      rw [← ih (j + 1) (by omega), X224_31]
      simp only [X224_32, X224_34, X224_37, X224_38, X224_41, X224_42, X224_43, X224_46, X224_47, X224_48, X224_49, X224_52, Nat.zero_le, and_true, true_and, x_nb0, x_nb1, x_nbp, x_isL_int, x_isL_ref, x_isL_junk, x_isR_ref, x_cat_nil, x_cat_int, x_cat_ref, x_cat_long, Option.toList_some, Option.toList_none, List.cons_append, List.nil_append, Nat.reduceAdd, Nat.reduceLeDiff, Nat.reduceLT, t_tag_si, t_tag_sr, t_tag_sI, x_r_si, x_i_sr, t_r_sI, x_ia_si, x_ia_sI, x_ia_sr, x_ra_si, x_ra_sI, x_ra_sr, nI_leF (show j < 20 by omega) (show 20 < 2 ^ 31 by decide), if_false, g_t41 hs0, g_r41_17 hs0, g_r41_0 hs0, g_a50 hs0, g_a42 hs0, jx, jc, e, x_si_sI, x_fn_s, nI_add]
  have h1 := l1 20 0 rfl
  rw [x_fn_0, x_sI_id] at h1
  rw [h1]
  have c1 : Ch (gp [50] []) w0 (x_sI w0 50 (x_fn 20 (x_i w0 42) (x_i w0 50))) := Ch_sI (fun _ => rfl)
  have g46 : x_i (x_sI w0 50 (x_fn 20 (x_i w0 42) (x_i w0 50))) 46 = x_i w 46 := (c1.i (fun _ => rfl)).trans f46
  have g51 : x_i (x_sI w0 50 (x_fn 20 (x_i w0 42) (x_i w0 50))) 51 = x_i w 51 := (c1.i (fun _ => rfl)).trans f51
  have g2 : x_i (x_sI w0 50 (x_fn 20 (x_i w0 42) (x_i w0 50))) 41 2 = x_i w 41 2 := (c1.2.2 41 2 rfl).trans f2
  have hs1 := c1.sh hs0
  rw [f42, f50] at *
  generalize x_sI w0 50 (x_fn 20 (x_i w 42) (x_i w 50)) = w1 at *
  have l2 : ∀ n j, j + n = 6 → X_R L xs d 224 57 [.ref 41, .int (nI j)] [] (x_sI w1 51 (x_fn j (x_i w1 46) (x_i w1 51))) Q = Q (some (.int (x_i w 41 2))) (x_sI w1 51 (x_fn 6 (x_i w1 46) (x_i w1 51))) := by
    intro n
    induction n with
    | zero =>
      intro j hj
      obtain rfl : j = 6 := by omega
      have e : x_i (x_sI w1 51 (x_fn 6 (x_i w1 46) (x_i w1 51))) 41 2 = x_i w 41 2 := by rw [x_i_sIn _ _ _ (by decide)]; exact g2
      rw [X224_57]
      simp only [X224_58, X224_60, X224_81, X224_82, X224_85, Nat.zero_le, and_true, true_and, x_nb0, x_nb1, x_nbp, x_isL_int, x_isL_ref, x_isL_junk, x_isR_ref, x_cat_nil, x_cat_int, x_cat_ref, x_cat_long, Option.toList_some, Option.toList_none, List.cons_append, List.nil_append, Nat.reduceAdd, Nat.reduceLeDiff, Nat.reduceLT, t_tag_si, t_tag_sr, t_tag_sI, x_r_si, x_i_sr, t_r_sI, x_ia_si, x_ia_sI, x_ia_sr, x_ra_si, x_ra_sI, x_ra_sr, nI_leT (Nat.le_refl 6) (show 6 < 2 ^ 31 by decide), if_true, g_t41 hs1, e]
    | succ n ih =>
      intro j hj
      have jx := x_ix_nI (show j < 6 by omega) (show 6 < 2 ^ 31 by decide)
      have jc := nI_cl (show j < 2 ^ 31 by omega)
      have e : x_i (x_sI w1 51 (x_fn j (x_i w1 46) (x_i w1 51))) 46 = x_i w1 46 := x_i_sIn _ _ _ (by decide)
      rw [← ih (j + 1) (by omega), X224_57]
      simp only [X224_58, X224_60, X224_63, X224_64, X224_67, X224_68, X224_69, X224_72, X224_73, X224_74, X224_75, X224_78, Nat.zero_le, and_true, true_and, x_nb0, x_nb1, x_nbp, x_isL_int, x_isL_ref, x_isL_junk, x_isR_ref, x_cat_nil, x_cat_int, x_cat_ref, x_cat_long, Option.toList_some, Option.toList_none, List.cons_append, List.nil_append, Nat.reduceAdd, Nat.reduceLeDiff, Nat.reduceLT, t_tag_si, t_tag_sr, t_tag_sI, x_r_si, x_i_sr, t_r_sI, x_ia_si, x_ia_sI, x_ia_sr, x_ra_si, x_ra_sI, x_ra_sr, nI_leF (show j < 6 by omega) (show 6 < 2 ^ 31 by decide), if_false, g_t41 hs1, g_r41_18 hs1, g_r41_6 hs1, g_a51 hs1, g_a46 hs1, jx, jc, e, x_si_sI, x_fn_s, nI_add]
  have h2 := l2 6 0 rfl
  rw [x_fn_0, x_sI_id] at h2
  rw [h2, g46, g51]
theorem S77 (hs : Sh w) {Q : Option Value → x_W → Prop} : X_R L xs (d + 1) 77 0 [.ref 7, .ref 23, .ref 22] [] w Q = Q none (bakW w) := by
  obtain ⟨n8, _⟩ := tn_of (g_t8 hs)
  obtain ⟨n9, _⟩ := tn_of (g_t9 hs)
  obtain ⟨n24, _⟩ := tn_of (g_t24 hs)
  obtain ⟨n30, _⟩ := tn_of (g_t30 hs)
  unfold bakW
  simp only [X77_0, X77_1, X77_2, X77_5, X77_8, X77_9, X77_10, X77_13, X77_16, X77_17, X77_20, X77_21, X77_22, X77_25, X77_26, X77_28, X77_31, X77_32, X77_33, X77_36, X77_39, X99_0, X99_1, X99_2, X99_3, X99_6, X99_7, X99_9, X99_12, X99_13, X99_14, X99_17, Nat.zero_le, and_true, true_and, x_nb0, x_nb1, x_nbp, x_isL_int, x_isL_ref, x_isL_junk, x_isR_ref, x_cat_nil, x_cat_int, x_cat_ref, x_cat_long, Option.toList_some, Option.toList_none, List.cons_append, List.nil_append, Nat.reduceAdd, Nat.reduceLeDiff, Nat.reduceLT, t_tag_si, t_tag_sr, t_tag_sI, x_r_si, x_i_sr, t_r_sI, x_ia_si, x_ia_sI, x_ia_sr, x_ra_si, x_ra_sI, x_ra_sr, g_t7 hs, g_r7_2 hs, g_r7_4 hs, g_a8 hs, g_a9 hs, g_t23 hs, g_r23_0 hs, g_r23_2 hs, g_r23_5 hs, g_a24 hs, g_a25 hs, g_a26 hs, g_a27 hs, g_a28 hs, g_t22 hs, g_r22_0 hs, g_r22_2 hs, g_r22_3 hs, g_r22_5 hs, g_r22_6 hs, g_r22_7 hs, g_r22_8 hs, g_a29 hs, g_r29_0 hs, g_r29_1 hs, g_r29_2 hs, g_r29_3 hs, g_r29_4 hs, g_r29_5 hs, g_a30 hs, g_a31 hs, g_a32 hs, g_a33 hs, g_a34 hs, g_t35 hs, g_t36 hs, g_t37 hs, g_t38 hs, g_t39 hs, g_t40 hs, hb0, x_tn_si, x_tn_sI, n8, n9, n24, n30, g_t8 hs, g_t9 hs, g_t24 hs, g_t30 hs, neg20, neg6, not_false_eq_true, cl0, cl6, cl20, x_i_sin, x_i_sIn, ne_eq, Nat.reduceEqDiff]
theorem S225 (hs : Sh w) (ht : x_i w 41 13 = nI 1) {Q : Option Value → x_W → Prop} : X_R L xs d 225 0 [.ref 41, x_junk] [] w Q = Q (some (.int (x_i w 41 14))) (bakM w) := by
  have c0 : Ch (gp [] [(41, 2), (41, 1), (41, 12)]) w (x_si (x_si (x_si w 41 2 (x_i w 41 14)) 41 1 (x_i w 41 15)) 41 12 (x_i w 41 16)) := (Ch_si rfl).trans ((Ch_si rfl).trans (Ch_si rfl))
  unfold bakM
  have e1 : x_i (x_si w 41 2 (x_i w 41 14)) 41 15 = x_i w 41 15 := by rw [x_i_si, upd_o (by decide)]
  have e12 : x_i (x_si (x_si w 41 2 (x_i w 41 14)) 41 1 (x_i w 41 15)) 41 16 = x_i w 41 16 := by rw [x_i_si, upd_o (by decide), x_i_si, upd_o (by decide)]
  have f2 : x_i (x_si (x_si (x_si w 41 2 (x_i w 41 14)) 41 1 (x_i w 41 15)) 41 12 (x_i w 41 16)) 41 2 = x_i w 41 14 := by rw [x_i_si, upd_o (by decide), x_i_si, upd_o (by decide), x_i_si, upd_s]
  have f42 : x_i (x_si (x_si (x_si w 41 2 (x_i w 41 14)) 41 1 (x_i w 41 15)) 41 12 (x_i w 41 16)) 42 = x_i w 42 := c0.i (fun _ => rfl)
  have f46 : x_i (x_si (x_si (x_si w 41 2 (x_i w 41 14)) 41 1 (x_i w 41 15)) 41 12 (x_i w 41 16)) 46 = x_i w 46 := c0.i (fun _ => rfl)
  have f50 : x_i (x_si (x_si (x_si w 41 2 (x_i w 41 14)) 41 1 (x_i w 41 15)) 41 12 (x_i w 41 16)) 50 = x_i w 50 := c0.i (fun _ => rfl)
  have f51 : x_i (x_si (x_si (x_si w 41 2 (x_i w 41 14)) 41 1 (x_i w 41 15)) 41 12 (x_i w 41 16)) 51 = x_i w 51 := c0.i (fun _ => rfl)
  have e0 : X_R L xs d 225 0 [.ref 41, x_junk] [] w Q = X_R L xs d 225 36 [.ref 41, .int (nI 0)] [] (x_si (x_si (x_si w 41 2 (x_i w 41 14)) 41 1 (x_i w 41 15)) 41 12 (x_i w 41 16)) Q := by
    simp only [X225_0, X225_1, X225_4, X225_10, X225_11, X225_12, X225_15, X225_18, X225_19, X225_20, X225_23, X225_26, X225_27, X225_28, X225_31, X225_34, X225_35, Nat.zero_le, and_true, true_and, x_nb0, x_nb1, x_nbp, x_isL_int, x_isL_ref, x_isL_junk, x_isR_ref, x_cat_nil, x_cat_int, x_cat_ref, x_cat_long, Option.toList_some, Option.toList_none, List.cons_append, List.nil_append, Nat.reduceAdd, Nat.reduceLeDiff, Nat.reduceLT, t_tag_si, t_tag_sr, t_tag_sI, x_r_si, x_i_sr, t_r_sI, x_ia_si, x_ia_sI, x_ia_sr, x_ra_si, x_ra_sI, x_ra_sr, g_t41 hs, ht, n10, if_false, e1, e12]
  have hs0 := c0.sh hs
  rw [e0]
  generalize x_si (x_si (x_si w 41 2 (x_i w 41 14)) 41 1 (x_i w 41 15)) 41 12 (x_i w 41 16) = w0 at *
  have l1 : ∀ n j, j + n = 20 → X_R L xs d 225 36 [.ref 41, .int (nI j)] [] (x_sI w0 42 (x_fn j (x_i w0 50) (x_i w0 42))) Q = X_R L xs d 225 62 [.ref 41, .int (nI 0)] [] (x_sI w0 42 (x_fn 20 (x_i w0 50) (x_i w0 42))) Q := by
    intro n
    induction n with
    | zero =>
      intro j hj
      obtain rfl : j = 20 := by omega
      rw [X225_36]
      simp only [X225_37, X225_39, X225_60, X225_61, Nat.zero_le, and_true, true_and, x_nb0, x_nb1, x_nbp, x_isL_int, x_isL_ref, x_isL_junk, x_isR_ref, x_cat_nil, x_cat_int, x_cat_ref, x_cat_long, Option.toList_some, Option.toList_none, List.cons_append, List.nil_append, Nat.reduceAdd, Nat.reduceLeDiff, Nat.reduceLT, t_tag_si, t_tag_sr, t_tag_sI, x_r_si, x_i_sr, t_r_sI, x_ia_si, x_ia_sI, x_ia_sr, x_ra_si, x_ra_sI, x_ra_sr, nI_leT (Nat.le_refl 20) (show 20 < 2 ^ 31 by decide), if_true]
    | succ n ih =>
      intro j hj
      have jx := x_ix_nI (show j < 20 by omega) (show 20 < 2 ^ 31 by decide)
      have jc := nI_cl (show j < 2 ^ 31 by omega)
      have e : x_i (x_sI w0 42 (x_fn j (x_i w0 50) (x_i w0 42))) 50 = x_i w0 50 := x_i_sIn _ _ _ (by decide)
      rw [← ih (j + 1) (by omega), X225_36]
      simp only [X225_37, X225_39, X225_42, X225_43, X225_46, X225_47, X225_48, X225_51, X225_52, X225_53, X225_54, X225_57, Nat.zero_le, and_true, true_and, x_nb0, x_nb1, x_nbp, x_isL_int, x_isL_ref, x_isL_junk, x_isR_ref, x_cat_nil, x_cat_int, x_cat_ref, x_cat_long, Option.toList_some, Option.toList_none, List.cons_append, List.nil_append, Nat.reduceAdd, Nat.reduceLeDiff, Nat.reduceLT, t_tag_si, t_tag_sr, t_tag_sI, x_r_si, x_i_sr, t_r_sI, x_ia_si, x_ia_sI, x_ia_sr, x_ra_si, x_ra_sI, x_ra_sr, nI_leF (show j < 20 by omega) (show 20 < 2 ^ 31 by decide), if_false, g_t41 hs0, g_r41_17 hs0, g_r41_0 hs0, g_a50 hs0, g_a42 hs0, jx, jc, e, x_si_sI, x_fn_s, nI_add]
  have h1 := l1 20 0 rfl
  rw [x_fn_0, x_sI_id] at h1
  rw [h1]
  have c1 : Ch (gp [42] []) w0 (x_sI w0 42 (x_fn 20 (x_i w0 50) (x_i w0 42))) := Ch_sI (fun _ => rfl)
  have g46 : x_i (x_sI w0 42 (x_fn 20 (x_i w0 50) (x_i w0 42))) 46 = x_i w 46 := (c1.i (fun _ => rfl)).trans f46
  have g51 : x_i (x_sI w0 42 (x_fn 20 (x_i w0 50) (x_i w0 42))) 51 = x_i w 51 := (c1.i (fun _ => rfl)).trans f51
  have g2 : x_i (x_sI w0 42 (x_fn 20 (x_i w0 50) (x_i w0 42))) 41 2 = x_i w 41 14 := (c1.2.2 41 2 rfl).trans f2
  have hs1 := c1.sh hs0
  rw [f42, f50] at *
  generalize x_sI w0 42 (x_fn 20 (x_i w 50) (x_i w 42)) = w1 at *
  have l2 : ∀ n j, j + n = 6 → X_R L xs d 225 62 [.ref 41, .int (nI j)] [] (x_sI w1 46 (x_fn j (x_i w1 51) (x_i w1 46))) Q = Q (some (.int (x_i w 41 14))) (x_sI w1 46 (x_fn 6 (x_i w1 51) (x_i w1 46))) := by
    intro n
    induction n with
    | zero =>
      intro j hj
      obtain rfl : j = 6 := by omega
      have e : x_i (x_sI w1 46 (x_fn 6 (x_i w1 51) (x_i w1 46))) 41 2 = x_i w 41 14 := by rw [x_i_sIn _ _ _ (by decide)]; exact g2
      rw [X225_62]
      simp only [X225_63, X225_65, X225_86, X225_87, X225_90, Nat.zero_le, and_true, true_and, x_nb0, x_nb1, x_nbp, x_isL_int, x_isL_ref, x_isL_junk, x_isR_ref, x_cat_nil, x_cat_int, x_cat_ref, x_cat_long, Option.toList_some, Option.toList_none, List.cons_append, List.nil_append, Nat.reduceAdd, Nat.reduceLeDiff, Nat.reduceLT, t_tag_si, t_tag_sr, t_tag_sI, x_r_si, x_i_sr, t_r_sI, x_ia_si, x_ia_sI, x_ia_sr, x_ra_si, x_ra_sI, x_ra_sr, nI_leT (Nat.le_refl 6) (show 6 < 2 ^ 31 by decide), if_true, g_t41 hs1, e]
    | succ n ih =>
      intro j hj
      have jx := x_ix_nI (show j < 6 by omega) (show 6 < 2 ^ 31 by decide)
      have jc := nI_cl (show j < 2 ^ 31 by omega)
      have e : x_i (x_sI w1 46 (x_fn j (x_i w1 51) (x_i w1 46))) 51 = x_i w1 51 := x_i_sIn _ _ _ (by decide)
      rw [← ih (j + 1) (by omega), X225_62]
      simp only [X225_63, X225_65, X225_68, X225_69, X225_72, X225_73, X225_74, X225_77, X225_78, X225_79, X225_80, X225_83, Nat.zero_le, and_true, true_and, x_nb0, x_nb1, x_nbp, x_isL_int, x_isL_ref, x_isL_junk, x_isR_ref, x_cat_nil, x_cat_int, x_cat_ref, x_cat_long, Option.toList_some, Option.toList_none, List.cons_append, List.nil_append, Nat.reduceAdd, Nat.reduceLeDiff, Nat.reduceLT, t_tag_si, t_tag_sr, t_tag_sI, x_r_si, x_i_sr, t_r_sI, x_ia_si, x_ia_sI, x_ia_sr, x_ra_si, x_ra_sI, x_ra_sr, nI_leF (show j < 6 by omega) (show 6 < 2 ^ 31 by decide), if_false, g_t41 hs1, g_r41_18 hs1, g_r41_6 hs1, g_a51 hs1, g_a46 hs1, jx, jc, e, x_si_sI, x_fn_s, nI_add]
  have h2 := l2 6 0 rfl
  rw [x_fn_0, x_sI_id] at h2
  rw [h2, g46, g51]
end S998
