/-! ===== first loops: counts of bits, filling ===== -/
theorem nI_leT {a b : Nat} (h : a ≤ b) (hb : b < 2 ^ 31) : (nI a ≤ nI b) = True := by
  simp only [eq_iff_iff, iff_true]; exact nI_le h hb
theorem nI_leF {a b : Nat} (h : b < a) (ha : a < 2 ^ 31) : (nI a ≤ nI b) = False := by
  simp only [eq_iff_iff, iff_false]; exact nI_ge h ha
theorem nI_eqT {a : Nat} : (nI a = nI a) = True := by simp only
theorem nI_eqF {a b : Nat} (h : a ≠ b) (ha : a < 2 ^ 31) (hb : b < 2 ^ 31) : (nI a = nI b) = False := by
  simp only [eq_iff_iff, iff_false]; exact fun q => h ((nI_eq ha hb).mp q)
def bitsF (m : Int32) : Nat → Int32
  | 0 => nI 0
  | n + 1 => bitsF m n + bv m (nI n)
def bcF (x : Int32) : Int32 :=
  let a := x - ((x.toUInt32 >>> ((nI 1).toUInt32 &&& Int32.toUInt32 31)).toInt32 &&& nI 1431655765)
  let b := (a &&& nI 858993459) + ((a.toUInt32 >>> ((nI 2).toUInt32 &&& Int32.toUInt32 31)).toInt32 &&& nI 858993459)
  let c := (b + (b.toUInt32 >>> ((nI 4).toUInt32 &&& Int32.toUInt32 31)).toInt32) &&& nI 252645135
  let e := c + (c.toUInt32 >>> ((nI 8).toUInt32 &&& Int32.toUInt32 31)).toInt32
  let g := e + (e.toUInt32 >>> ((nI 16).toUInt32 &&& Int32.toUInt32 31)).toInt32
  g &&& nI 63
def sumI (f : Nat → Int32) : Nat → Int32
  | 0 => nI 0
  | n + 1 => sumI f n + f n
section S45
variable {L : Nat} {xs : Nat → Int32} {d : Nat} {w : x_W} {Q : Option Value → x_W → Prop}
theorem S245 {x : Int32} : X_R L xs d 245 0 [.int x] [] w Q = Q (some (.int (bcF x))) w := by
  simp only [X245_0, X245_1, X245_2, X245_3, X245_4, X245_7, X245_8, X245_9, X245_10, X245_11, X245_14, X245_15, X245_16, X245_17, X245_18, X245_21, X245_22, X245_23, X245_24, X245_25, X245_26, X245_27, X245_28, X245_29, X245_32, X245_33, X245_34, X245_35, X245_36, X245_38, X245_39, X245_40, X245_41, X245_42, X245_43, X245_45, X245_46, X245_47, X245_48, X245_49, X245_51, X245_52, Nat.zero_le, and_true, true_and, x_nb0, x_nb1, x_nbp, x_isL_int, x_isL_ref, x_isL_junk, x_isR_ref, x_cat_nil, x_cat_int, x_cat_ref, x_cat_long, Option.toList_some, Option.toList_none, List.cons_append, List.nil_append, Nat.reduceAdd, Nat.reduceLeDiff, Nat.reduceLT, t_tag_si, t_tag_sr, t_tag_sI, x_r_si, x_i_sr, t_r_sI, x_ia_si, x_ia_sI, x_ia_sr, x_ra_si, x_ra_sI, x_ra_sr]
  rfl
theorem S158 {m : Int32} : X_R L xs d 158 0 [.int m, x_junk, x_junk] [] w Q = Q (some (.int (bitsF m 20))) w := by
  have loop : ∀ n j, j + n = 20 → X_R L xs d 158 4 [.int m, .int (bitsF m j), .int (nI j)] [] w Q = Q (some (.int (bitsF m 20))) w := by
    intro n
    induction n with
    | zero =>
      intro j hj
      obtain rfl : j = 20 := by omega
      generalize bitsF m 20 = z
      simp only [X158_4, X158_5, X158_7, X158_24, X158_25, Nat.zero_le, and_true, true_and, x_nb0, x_nb1, x_nbp, x_isL_int, x_isL_ref, x_isL_junk, x_isR_ref, x_cat_nil, x_cat_int, x_cat_ref, x_cat_long, Option.toList_some, Option.toList_none, List.cons_append, List.nil_append, Nat.reduceAdd, Nat.reduceLeDiff, Nat.reduceLT, t_tag_si, t_tag_sr, t_tag_sI, x_r_si, x_i_sr, t_r_sI, x_ia_si, x_ia_sI, x_ia_sr, x_ra_si, x_ra_sI, x_ra_sr, nI_leT (Nat.le_refl 20) (by decide), if_true]
    | succ n ih =>
      intro j hj
      have e : bitsF m j + (m >>> (nI j &&& 31) &&& nI 1) = bitsF m (j + 1) := rfl
      rw [X158_4]
      simp only [X158_0, X158_1, X158_2, X158_3, X158_5, X158_7, X158_10, X158_11, X158_12, X158_13, X158_14, X158_15, X158_16, X158_17, X158_18, X158_21, X158_24, X158_25, Nat.zero_le, and_true, true_and, x_nb0, x_nb1, x_nbp, x_isL_int, x_isL_ref, x_isL_junk, x_isR_ref, x_cat_nil, x_cat_int, x_cat_ref, x_cat_long, Option.toList_some, Option.toList_none, List.cons_append, List.nil_append, Nat.reduceAdd, Nat.reduceLeDiff, Nat.reduceLT, t_tag_si, t_tag_sr, t_tag_sI, x_r_si, x_i_sr, t_r_sI, x_ia_si, x_ia_sI, x_ia_sr, x_ra_si, x_ra_sI, x_ra_sr, nI_leF (show j < 20 by omega) (by decide), if_false, e, nI_add]
      exact ih (j + 1) (by omega)
  simp only [X158_0, X158_1, X158_2, X158_3, X158_5, X158_7, X158_10, X158_11, X158_12, X158_13, X158_14, X158_15, X158_16, X158_17, X158_18, X158_21, X158_24, X158_25, Nat.zero_le, and_true, true_and, x_nb0, x_nb1, x_nbp, x_isL_int, x_isL_ref, x_isL_junk, x_isR_ref, x_cat_nil, x_cat_int, x_cat_ref, x_cat_long, Option.toList_some, Option.toList_none, List.cons_append, List.nil_append, Nat.reduceAdd, Nat.reduceLeDiff, Nat.reduceLT, t_tag_si, t_tag_sr, t_tag_sI, x_r_si, x_i_sr, t_r_sI, x_ia_si, x_ia_sI, x_ia_sr, x_ra_si, x_ra_sI, x_ra_sr]
  exact loop 20 0 rfl
theorem S90 (hs : Sh w) : X_R L xs (d + 1) 90 0 [.ref 23, x_junk, x_junk] [] w Q = Q (some (.int (sumI (fun k => bcF (x_i w 24 k)) 20 / nI 2))) w := by
  have loop : ∀ n j, j + n = 20 → X_R L xs (d + 1) 90 4 [.ref 23, .int (sumI (fun k => bcF (x_i w 24 k)) j), .int (nI j)] [] w Q = Q (some (.int (sumI (fun k => bcF (x_i w 24 k)) 20 / nI 2))) w := by
    intro n
    induction n with
    | zero =>
      intro j hj
      obtain rfl : j = 20 := by omega
      simp only [X90_0, X90_1, X90_2, X90_3, X90_4, X90_5, X90_7, X90_10, X90_11, X90_12, X90_15, X90_16, X90_16s, X90_17, X90_20, X90_21, X90_22, X90_25, X90_28, X90_29, X90_30, X90_31, Nat.zero_le, and_true, true_and, x_nb0, x_nb1, x_nbp, x_isL_int, x_isL_ref, x_isL_junk, x_isR_ref, x_cat_nil, x_cat_int, x_cat_ref, x_cat_long, Option.toList_some, Option.toList_none, List.cons_append, List.nil_append, Nat.reduceAdd, Nat.reduceLeDiff, Nat.reduceLT, t_tag_si, t_tag_sr, t_tag_sI, x_r_si, x_i_sr, t_r_sI, x_ia_si, x_ia_sI, x_ia_sr, x_ra_si, x_ra_sI, x_ra_sr, nI_leT (Nat.le_refl 20) (by decide), if_true, nI_eqF (show 2 ≠ 0 by decide) (by decide) (by decide), not_false_eq_true]
    | succ n ih =>
      intro j hj
      have hix := x_ix_nI (show j < 20 by omega) (by decide)
      have e : sumI (fun k => bcF (x_i w 24 k)) j + bcF (x_i w 24 j) = sumI (fun k => bcF (x_i w 24 k)) (j + 1) := rfl
      rw [X90_4]
      simp only [X90_0, X90_1, X90_2, X90_3, X90_5, X90_7, X90_10, X90_11, X90_12, X90_15, X90_16, X90_16s, X90_17, X90_20, X90_21, X90_22, X90_25, X90_28, X90_29, X90_30, X90_31, Nat.zero_le, and_true, true_and, x_nb0, x_nb1, x_nbp, x_isL_int, x_isL_ref, x_isL_junk, x_isR_ref, x_cat_nil, x_cat_int, x_cat_ref, x_cat_long, Option.toList_some, Option.toList_none, List.cons_append, List.nil_append, Nat.reduceAdd, Nat.reduceLeDiff, Nat.reduceLT, t_tag_si, t_tag_sr, t_tag_sI, x_r_si, x_i_sr, t_r_sI, x_ia_si, x_ia_sI, x_ia_sr, x_ra_si, x_ra_sI, x_ra_sr, nI_leF (show j < 20 by omega) (by decide), if_false, g_t23 hs, g_r23_0 hs, g_a24 hs, hix, S245, nI_cl (show j < 2 ^ 31 by omega), e, nI_add]
      exact ih (j + 1) (by omega)
  simp only [X90_0, X90_1, X90_2, X90_3, X90_5, X90_7, X90_10, X90_11, X90_12, X90_15, X90_16, X90_16s, X90_17, X90_20, X90_21, X90_22, X90_25, X90_28, X90_29, X90_30, X90_31, Nat.zero_le, and_true, true_and, x_nb0, x_nb1, x_nbp, x_isL_int, x_isL_ref, x_isL_junk, x_isR_ref, x_cat_nil, x_cat_int, x_cat_ref, x_cat_long, Option.toList_some, Option.toList_none, List.cons_append, List.nil_append, Nat.reduceAdd, Nat.reduceLeDiff, Nat.reduceLT, t_tag_si, t_tag_sr, t_tag_sI, x_r_si, x_i_sr, t_r_sI, x_ia_si, x_ia_sI, x_ia_sr, x_ra_si, x_ra_sI, x_ra_sr]
  exact loop 20 0 rfl
theorem S157 (hs : Sh w) : X_R L xs (d + 1) 157 0 [.ref 41, x_junk, x_junk] [] w Q = Q (some (.int (sumI (fun k => bitsF (x_i w 42 k) 20) 20 / nI 2))) w := by
  have loop : ∀ n j, j + n = 20 → X_R L xs (d + 1) 157 4 [.ref 41, .int (sumI (fun k => bitsF (x_i w 42 k) 20) j), .int (nI j)] [] w Q = Q (some (.int (sumI (fun k => bitsF (x_i w 42 k) 20) 20 / nI 2))) w := by
    intro n
    induction n with
    | zero =>
      intro j hj
      obtain rfl : j = 20 := by omega
      simp only [X157_0, X157_1, X157_2, X157_3, X157_4, X157_5, X157_7, X157_10, X157_11, X157_12, X157_15, X157_16, X157_17, X157_20, X157_21, X157_22, X157_25, X157_28, X157_29, X157_30, X157_31, Nat.zero_le, and_true, true_and, x_nb0, x_nb1, x_nbp, x_isL_int, x_isL_ref, x_isL_junk, x_isR_ref, x_cat_nil, x_cat_int, x_cat_ref, x_cat_long, Option.toList_some, Option.toList_none, List.cons_append, List.nil_append, Nat.reduceAdd, Nat.reduceLeDiff, Nat.reduceLT, t_tag_si, t_tag_sr, t_tag_sI, x_r_si, x_i_sr, t_r_sI, x_ia_si, x_ia_sI, x_ia_sr, x_ra_si, x_ra_sI, x_ra_sr, nI_leT (Nat.le_refl 20) (by decide), if_true, nI_eqF (show 2 ≠ 0 by decide) (by decide) (by decide), not_false_eq_true]
    | succ n ih =>
      intro j hj
      have hix := x_ix_nI (show j < 20 by omega) (by decide)
      have e : sumI (fun k => bitsF (x_i w 42 k) 20) j + bitsF (x_i w 42 j) 20 = sumI (fun k => bitsF (x_i w 42 k) 20) (j + 1) := rfl
      rw [X157_4]
      simp only [X157_0, X157_1, X157_2, X157_3, X157_5, X157_7, X157_10, X157_11, X157_12, X157_15, X157_16, X157_17, X157_20, X157_21, X157_22, X157_25, X157_28, X157_29, X157_30, X157_31, Nat.zero_le, and_true, true_and, x_nb0, x_nb1, x_nbp, x_isL_int, x_isL_ref, x_isL_junk, x_isR_ref, x_cat_nil, x_cat_int, x_cat_ref, x_cat_long, Option.toList_some, Option.toList_none, List.cons_append, List.nil_append, Nat.reduceAdd, Nat.reduceLeDiff, Nat.reduceLT, t_tag_si, t_tag_sr, t_tag_sI, x_r_si, x_i_sr, t_r_sI, x_ia_si, x_ia_sI, x_ia_sr, x_ra_si, x_ra_sI, x_ra_sr, nI_leF (show j < 20 by omega) (by decide), if_false, g_t41 hs, g_r41_0 hs, g_a42 hs, hix, S158, nI_cl (show j < 2 ^ 31 by omega), e, nI_add]
      exact ih (j + 1) (by omega)
  simp only [X157_0, X157_1, X157_2, X157_3, X157_5, X157_7, X157_10, X157_11, X157_12, X157_15, X157_16, X157_17, X157_20, X157_21, X157_22, X157_25, X157_28, X157_29, X157_30, X157_31, Nat.zero_le, and_true, true_and, x_nb0, x_nb1, x_nbp, x_isL_int, x_isL_ref, x_isL_junk, x_isR_ref, x_cat_nil, x_cat_int, x_cat_ref, x_cat_long, Option.toList_some, Option.toList_none, List.cons_append, List.nil_append, Nat.reduceAdd, Nat.reduceLeDiff, Nat.reduceLT, t_tag_si, t_tag_sr, t_tag_sI, x_r_si, x_i_sr, t_r_sI, x_ia_si, x_ia_sI, x_ia_sr, x_ra_si, x_ra_sI, x_ra_sr]
  exact loop 20 0 rfl
theorem S244 {a n : Nat} {v : Int32} (ht : x_tag w a = some (1, n)) (ha : a < 900) (hn : n < 2 ^ 31) : X_R L xs d 244 0 [.ref a, .int v, x_junk, x_junk] [] w Q = Q none (x_sI w a (x_fn n (fun _ => v) (x_i w a))) := by
  have hia := x_ia_eq ht ha
  have htn : x_tn w a = n := by simp only [x_tn, ht, Option.getD_some]
  have loop : ∀ m j, j + m = n → X_R L xs d 244 5 [.ref a, .int v, .int (nI j), .int (nI n)] [] (x_sI w a (x_fn j (fun _ => v) (x_i w a))) Q = Q none (x_sI w a (x_fn n (fun _ => v) (x_i w a))) := by
    intro m
    induction m with
    | zero =>
      intro j hj
      obtain rfl : j = n := by omega
      simp only [X244_0, X244_1, X244_2, X244_3, X244_4, X244_5, X244_6, X244_7, X244_10, X244_11, X244_12, X244_13, X244_14, X244_17, X244_20, Nat.zero_le, and_true, true_and, x_nb0, x_nb1, x_nbp, x_isL_int, x_isL_ref, x_isL_junk, x_isR_ref, x_cat_nil, x_cat_int, x_cat_ref, x_cat_long, Option.toList_some, Option.toList_none, List.cons_append, List.nil_append, Nat.reduceAdd, Nat.reduceLeDiff, Nat.reduceLT, t_tag_si, t_tag_sr, t_tag_sI, x_r_si, x_i_sr, t_r_sI, x_ia_si, x_ia_sI, x_ia_sr, x_ra_si, x_ra_sI, x_ra_sr, nI_leT (Nat.le_refl j) hn, if_true]
    | succ m ih =>
      intro j hj
      have hix := x_ix_nI (show j < n by omega) hn
      rw [X244_5]
      simp only [X244_0, X244_1, X244_2, X244_3, X244_4, X244_6, X244_7, X244_10, X244_11, X244_12, X244_13, X244_14, X244_17, X244_20, Nat.zero_le, and_true, true_and, x_nb0, x_nb1, x_nbp, x_isL_int, x_isL_ref, x_isL_junk, x_isR_ref, x_cat_nil, x_cat_int, x_cat_ref, x_cat_long, Option.toList_some, Option.toList_none, List.cons_append, List.nil_append, Nat.reduceAdd, Nat.reduceLeDiff, Nat.reduceLT, t_tag_si, t_tag_sr, t_tag_sI, x_r_si, x_i_sr, t_r_sI, x_ia_si, x_ia_sI, x_ia_sr, x_ra_si, x_ra_sI, x_ra_sr, nI_leF (show j < n by omega) hn, if_false, hia, hix, nI_cl (show j < 2 ^ 31 by omega), x_si_sI, nI_add]
      rw [x_fn_s j (fun _ => v)]
      exact ih (j + 1) (by omega)
  have h0 := loop n 0 (Nat.zero_add n)
  rw [x_fn_0, x_sI_id] at h0
  simp only [X244_0, X244_1, X244_2, X244_3, X244_4, X244_6, X244_7, X244_10, X244_11, X244_12, X244_13, X244_14, X244_17, X244_20, Nat.zero_le, and_true, true_and, x_nb0, x_nb1, x_nbp, x_isL_int, x_isL_ref, x_isL_junk, x_isR_ref, x_cat_nil, x_cat_int, x_cat_ref, x_cat_long, Option.toList_some, Option.toList_none, List.cons_append, List.nil_append, Nat.reduceAdd, Nat.reduceLeDiff, Nat.reduceLT, t_tag_si, t_tag_sr, t_tag_sI, x_r_si, x_i_sr, t_r_sI, x_ia_si, x_ia_sI, x_ia_sr, x_ra_si, x_ra_sI, x_ra_sr, htn, ht, ha]
  exact h0
end S45
