/-! ===== cords and ties ===== -/
def bitP (m b : Int32) : Prop := (m >>> (b &&& 31)) &&& nI 1 = nI 1
def bitP_dec (m b : Int32) : Decidable (bitP m b) := inferInstanceAs (Decidable (_ = _))
abbrev kn (a : Int32) : Prop := nI 0 ≤ a ∧ a ≤ nI 19
def bv (m b : Int32) : Int32 := (m >>> (b &&& 31)) &&& nI 1
theorem bv_cases (m b : Int32) : bv m b = nI 0 ∨ bv m b = nI 1 := by
  obtain ⟨j, hj, h⟩ := pk_andE (m >>> (b &&& 31)) (m := nI 1) 1 rfl
  have h2 : bv m b = nI j := h
  rcases (by omega : j = 0 ∨ j = 1) with rfl | rfl
  · exact Or.inl h2
  · exact Or.inr h2
-- one bit of a mask put, or taken away
def pc1 (v m b : Int32) : Int32 := if v = nI 0 then m &&& ((nI 1 <<< (b &&& 31)) ^^^ (-1)) else m ||| (nI 1 <<< (b &&& 31))
def putC (f : Nat → Int32) (a b v : Int32) : Nat → Int32 := upd (upd f a.toNatClampNeg (pc1 v (f a.toNatClampNeg) b)) b.toNatClampNeg (pc1 v (upd f a.toNatClampNeg (pc1 v (f a.toNatClampNeg) b) b.toNatClampNeg) a)
theorem kn_ix {a : Int32} (h : kn a) : x_ix a 20 := by
  obtain ⟨i, hi, rfl⟩ := kn_of h
  exact x_ix_nI hi (by decide)
theorem kn_not {a : Int32} : (nI 20 ≤ a) = ¬ (a ≤ nI 19) := by
  have h20 : (nI 20).toInt = 20 := rfl
  have h19 : (nI 19).toInt = 19 := rfl
  rw [Int32.le_iff_toInt_le, Int32.le_iff_toInt_le, h20, h19]
  simp only [eq_iff_iff]; omega
theorem neg_not {a : Int32} : (a < nI 0) = ¬ (nI 0 ≤ a) := by simp only [Int32.not_le]
theorem bit_not {a : Int32} : True := trivial
theorem nbI {p : Prop} [Decidable p] : (bI p = nI 1) = p := by
  by_cases h : p
  · rw [bI_t h]; simp only [h]
  · rw [bI_f h]; simp only [h, eq_iff_iff, iff_false]; decide
theorem n10 : ¬ nI 1 = nI 0 := by decide
theorem in01 {v : Int32} : (nI 0 ≤ v ∧ v ≤ nI 1) = (v = nI 0 ∨ v = nI 1) := by
  have h0 : (nI 0).toInt = 0 := rfl
  have h1 : (nI 1).toInt = 1 := rfl
  rw [Int32.le_iff_toInt_le, Int32.le_iff_toInt_le, ← Int32.toInt_inj, ← Int32.toInt_inj, h0, h1]
  simp only [eq_iff_iff]; omega
section S43
variable {L : Nat} {xs : Nat → Int32} {d : Nat} {w : x_W} {Q : Option Value → x_W → Prop}
theorem S88t {a b : Int32} (hs : Sh w) (ha : kn a) (hb : kn b) : X_R L xs d 88 0 [.ref 23, .int a, .int b] [] w Q = Q (some (.int (bv (x_i w 24 a.toNatClampNeg) b))) w := by
  have hai := kn_ix ha
  simp only [X88_0, X88_1, X88_4, X88_5, X88_7, X88_10, X88_11, X88_14, X88_15, X88_17, X88_20, X88_21, X88_24, X88_25, X88_25s, X88_26, X88_27, X88_28, X88_29, X88_30, X88_31, X88_34, X88_35, X88_38, X88_39, Nat.zero_le, and_true, true_and, x_nb0, x_nb1, x_nbp, x_isL_int, x_isL_ref, x_isL_junk, x_isR_ref, x_cat_nil, x_cat_int, x_cat_ref, x_cat_long, Option.toList_some, Option.toList_none, List.cons_append, List.nil_append, Nat.reduceAdd, Nat.reduceLeDiff, Nat.reduceLT, t_tag_si, t_tag_sr, t_tag_sI, x_r_si, x_i_sr, t_r_sI, x_ia_si, x_ia_sI, x_ia_sr, x_ra_si, x_ra_sI, x_ra_sr, g_t23 hs, g_r23_0 hs, g_r23_2 hs, g_r23_5 hs, g_a24 hs, g_a25 hs, g_a26 hs, g_a27 hs, g_a28 hs, hai, neg_not, kn_not, ha.1, ha.2, hb.1, hb.2, not_true, if_false]
  have e : x_i w 24 a.toNatClampNeg >>> (b &&& 31) &&& nI 1 = bv (x_i w 24 a.toNatClampNeg) b := rfl
  rw [e]
  rcases bv_cases (x_i w 24 a.toNatClampNeg) b with h | h
  · rw [h, if_neg (by decide)]
  · rw [h, if_pos rfl]
theorem S88f {a b : Int32} (h : ¬ (kn a ∧ kn b)) : X_R L xs d 88 0 [.ref 23, .int a, .int b] [] w Q = Q (some (.int (nI 0))) w := by
  by_cases ha : kn a
  · by_cases h1 : nI 0 ≤ b
    · have h2 : ¬ b ≤ nI 19 := fun q => h ⟨ha, h1, q⟩
      simp only [X88_0, X88_1, X88_4, X88_5, X88_7, X88_10, X88_11, X88_14, X88_15, X88_17, X88_38, X88_39, Nat.zero_le, and_true, true_and, x_nb0, x_nb1, x_nbp, x_isL_int, x_isL_ref, x_isL_junk, x_isR_ref, x_cat_nil, x_cat_int, x_cat_ref, x_cat_long, Option.toList_some, Option.toList_none, List.cons_append, List.nil_append, Nat.reduceAdd, Nat.reduceLeDiff, Nat.reduceLT, t_tag_si, t_tag_sr, t_tag_sI, x_r_si, x_i_sr, t_r_sI, x_ia_si, x_ia_sI, x_ia_sr, x_ra_si, x_ra_sI, x_ra_sr, neg_not, kn_not, h1, h2, ha.1, ha.2, not_true, not_false_eq_true, if_true, if_false]
    · simp only [X88_0, X88_1, X88_4, X88_5, X88_7, X88_10, X88_11, X88_14, X88_15, X88_17, X88_38, X88_39, Nat.zero_le, and_true, true_and, x_nb0, x_nb1, x_nbp, x_isL_int, x_isL_ref, x_isL_junk, x_isR_ref, x_cat_nil, x_cat_int, x_cat_ref, x_cat_long, Option.toList_some, Option.toList_none, List.cons_append, List.nil_append, Nat.reduceAdd, Nat.reduceLeDiff, Nat.reduceLT, t_tag_si, t_tag_sr, t_tag_sI, x_r_si, x_i_sr, t_r_sI, x_ia_si, x_ia_sI, x_ia_sr, x_ra_si, x_ra_sI, x_ra_sr, neg_not, kn_not, h1, ha.1, ha.2, not_true, not_false_eq_true, if_true, if_false]
  · by_cases h1 : nI 0 ≤ a
    · have h2 : ¬ a ≤ nI 19 := fun q => ha ⟨h1, q⟩
      simp only [X88_0, X88_1, X88_4, X88_5, X88_7, X88_38, X88_39, Nat.zero_le, and_true, true_and, x_nb0, x_nb1, x_nbp, x_isL_int, x_isL_ref, x_isL_junk, x_isR_ref, x_cat_nil, x_cat_int, x_cat_ref, x_cat_long, Option.toList_some, Option.toList_none, List.cons_append, List.nil_append, Nat.reduceAdd, Nat.reduceLeDiff, Nat.reduceLT, t_tag_si, t_tag_sr, t_tag_sI, x_r_si, x_i_sr, t_r_sI, x_ia_si, x_ia_sI, x_ia_sr, x_ra_si, x_ra_sI, x_ra_sr, neg_not, kn_not, h1, h2, not_true, not_false_eq_true, if_true, if_false]
    · simp only [X88_0, X88_1, X88_4, X88_5, X88_7, X88_38, X88_39, Nat.zero_le, and_true, true_and, x_nb0, x_nb1, x_nbp, x_isL_int, x_isL_ref, x_isL_junk, x_isR_ref, x_cat_nil, x_cat_int, x_cat_ref, x_cat_long, Option.toList_some, Option.toList_none, List.cons_append, List.nil_append, Nat.reduceAdd, Nat.reduceLeDiff, Nat.reduceLT, t_tag_si, t_tag_sr, t_tag_sI, x_r_si, x_i_sr, t_r_sI, x_ia_si, x_ia_sI, x_ia_sr, x_ra_si, x_ra_sI, x_ra_sr, neg_not, h1, not_true, not_false_eq_true, if_true, if_false]
theorem S152 {a b : Int32} (hs : Sh w) (ha : x_ix a 20) : X_R L xs d 152 0 [.ref 41, .int a, .int b] [] w Q = Q (some (.int (bv (x_i w 42 a.toNatClampNeg) b))) w := by
  simp only [X152_0, X152_1, X152_4, X152_5, X152_6, X152_7, X152_8, X152_9, X152_10, X152_11, X152_14, X152_15, X152_18, X152_19, Nat.zero_le, and_true, true_and, x_nb0, x_nb1, x_nbp, x_isL_int, x_isL_ref, x_isL_junk, x_isR_ref, x_cat_nil, x_cat_int, x_cat_ref, x_cat_long, Option.toList_some, Option.toList_none, List.cons_append, List.nil_append, Nat.reduceAdd, Nat.reduceLeDiff, Nat.reduceLT, t_tag_si, t_tag_sr, t_tag_sI, x_r_si, x_i_sr, t_r_sI, x_ia_si, x_ia_sI, x_ia_sr, x_ra_si, x_ra_sI, x_ra_sr, g_t41 hs, g_r41_0 hs, g_a42 hs, ha]
  have e : x_i w 42 a.toNatClampNeg >>> (b &&& 31) &&& nI 1 = bv (x_i w 42 a.toNatClampNeg) b := rfl
  rw [e]
  rcases bv_cases (x_i w 42 a.toNatClampNeg) b with h | h
  · rw [h, if_neg (by decide)]
  · rw [h, if_pos rfl]
theorem S87 {a b v : Int32} (hs : Sh w) (ha : kn a) (hb : kn b) : X_R L xs d 87 0 [.ref 23, .int a, .int b, .int v] [] w Q = Q none (x_si (x_sI w 24 (putC (x_i w 24) a b v)) 23 6 (nI 0)) := by
  have hai := kn_ix ha
  have hbi := kn_ix hb
  have e0 : (nI 0 = 0 ∨ nI 0 = 1) = True := by simp only [eq_iff_iff, iff_true]; exact Or.inl rfl
  simp only [X87_0, X87_1, X87_4, X87_5, X87_8, X87_9, X87_10, X87_10s, X87_11, X87_12, X87_13, X87_14, X87_15, X87_16, X87_17, X87_20, X87_21, X87_22, X87_22s, X87_23, X87_24, X87_25, X87_26, X87_27, X87_28, X87_31, X87_32, X87_35, X87_36, X87_37, X87_37s, X87_38, X87_39, X87_40, X87_41, X87_42, X87_43, X87_44, X87_45, X87_46, X87_49, X87_50, X87_51, X87_51s, X87_52, X87_53, X87_54, X87_55, X87_56, X87_57, X87_58, X87_59, X87_60, X87_61, X87_64, Nat.zero_le, and_true, true_and, x_nb0, x_nb1, x_nbp, x_isL_int, x_isL_ref, x_isL_junk, x_isR_ref, x_cat_nil, x_cat_int, x_cat_ref, x_cat_long, Option.toList_some, Option.toList_none, List.cons_append, List.nil_append, Nat.reduceAdd, Nat.reduceLeDiff, Nat.reduceLT, t_tag_si, t_tag_sr, t_tag_sI, x_r_si, x_i_sr, t_r_sI, x_ia_si, x_ia_sI, x_ia_sr, x_ra_si, x_ra_sI, x_ra_sr, g_t23 hs, g_r23_0 hs, g_r23_2 hs, g_r23_5 hs, g_a24 hs, g_a25 hs, g_a26 hs, g_a27 hs, g_a28 hs, hai, hbi, e0, x_si, x_i_sI, x_sI_sI]
  unfold putC pc1
  by_cases h : v = nI 0
  · simp only [h, if_true]
  · simp only [h, if_false]
theorem S153 {a b v : Int32} (hs : Sh w) (ha : kn a) (hb : kn b) : X_R L xs d 153 0 [.ref 41, .int a, .int b, .int v] [] w Q = Q none (x_sI w 42 (putC (x_i w 42) a b v)) := by
  have hai := kn_ix ha
  have hbi := kn_ix hb
  unfold putC pc1
  by_cases h : v = nI 0
  · simp only [X153_0, X153_1, X153_4, X153_5, X153_6, X153_9, X153_10, X153_13, X153_14, X153_15, X153_16, X153_17, X153_18, X153_19, X153_22, X153_23, X153_26, X153_27, X153_28, X153_29, X153_30, X153_31, X153_32, X153_33, X153_34, X153_35, X153_36, X153_39, X153_40, X153_41, X153_44, X153_45, X153_48, X153_49, X153_50, X153_51, X153_52, X153_53, X153_54, X153_57, X153_58, X153_61, X153_62, X153_63, X153_64, X153_65, X153_66, X153_67, X153_68, X153_69, X153_70, Nat.zero_le, and_true, true_and, x_nb0, x_nb1, x_nbp, x_isL_int, x_isL_ref, x_isL_junk, x_isR_ref, x_cat_nil, x_cat_int, x_cat_ref, x_cat_long, Option.toList_some, Option.toList_none, List.cons_append, List.nil_append, Nat.reduceAdd, Nat.reduceLeDiff, Nat.reduceLT, t_tag_si, t_tag_sr, t_tag_sI, x_r_si, x_i_sr, t_r_sI, x_ia_si, x_ia_sI, x_ia_sr, x_ra_si, x_ra_sI, x_ra_sr, g_t41 hs, g_r41_0 hs, g_a42 hs, hai, hbi, x_si, x_i_sI, x_sI_sI, h, if_true]
  · simp only [X153_0, X153_1, X153_4, X153_5, X153_6, X153_9, X153_10, X153_13, X153_14, X153_15, X153_16, X153_17, X153_18, X153_19, X153_22, X153_23, X153_26, X153_27, X153_28, X153_29, X153_30, X153_31, X153_32, X153_33, X153_34, X153_35, X153_36, X153_39, X153_40, X153_41, X153_44, X153_45, X153_48, X153_49, X153_50, X153_51, X153_52, X153_53, X153_54, X153_57, X153_58, X153_61, X153_62, X153_63, X153_64, X153_65, X153_66, X153_67, X153_68, X153_69, X153_70, Nat.zero_le, and_true, true_and, x_nb0, x_nb1, x_nbp, x_isL_int, x_isL_ref, x_isL_junk, x_isR_ref, x_cat_nil, x_cat_int, x_cat_ref, x_cat_long, Option.toList_some, Option.toList_none, List.cons_append, List.nil_append, Nat.reduceAdd, Nat.reduceLeDiff, Nat.reduceLT, t_tag_si, t_tag_sr, t_tag_sI, x_r_si, x_i_sr, t_r_sI, x_ia_si, x_ia_sI, x_ia_sr, x_ra_si, x_ra_sI, x_ra_sr, g_t41 hs, g_r41_0 hs, g_a42 hs, hai, hbi, x_si, x_i_sI, x_sI_sI, h, if_false]
theorem S89 {a v : Int32} (hs : Sh w) : X_R L xs d 89 0 [.ref 23, .int a, .int v] [] w Q = Q none (x_si w 23 1 (pc1 v (x_i w 23 1) a)) := by
  unfold pc1
  by_cases h : v = nI 0
  · simp only [X89_0, X89_1, X89_2, X89_5, X89_6, X89_9, X89_10, X89_11, X89_12, X89_13, X89_16, X89_17, X89_20, X89_21, X89_22, X89_23, X89_24, X89_25, X89_26, X89_29, Nat.zero_le, and_true, true_and, x_nb0, x_nb1, x_nbp, x_isL_int, x_isL_ref, x_isL_junk, x_isR_ref, x_cat_nil, x_cat_int, x_cat_ref, x_cat_long, Option.toList_some, Option.toList_none, List.cons_append, List.nil_append, Nat.reduceAdd, Nat.reduceLeDiff, Nat.reduceLT, t_tag_si, t_tag_sr, t_tag_sI, x_r_si, x_i_sr, t_r_sI, x_ia_si, x_ia_sI, x_ia_sr, x_ra_si, x_ra_sI, x_ra_sr, g_t23 hs, g_r23_0 hs, g_r23_2 hs, g_r23_5 hs, g_a24 hs, g_a25 hs, g_a26 hs, g_a27 hs, g_a28 hs, h, if_true]
  · simp only [X89_0, X89_1, X89_2, X89_5, X89_6, X89_9, X89_10, X89_11, X89_12, X89_13, X89_16, X89_17, X89_20, X89_21, X89_22, X89_23, X89_24, X89_25, X89_26, X89_29, Nat.zero_le, and_true, true_and, x_nb0, x_nb1, x_nbp, x_isL_int, x_isL_ref, x_isL_junk, x_isR_ref, x_cat_nil, x_cat_int, x_cat_ref, x_cat_long, Option.toList_some, Option.toList_none, List.cons_append, List.nil_append, Nat.reduceAdd, Nat.reduceLeDiff, Nat.reduceLT, t_tag_si, t_tag_sr, t_tag_sI, x_r_si, x_i_sr, t_r_sI, x_ia_si, x_ia_sI, x_ia_sr, x_ra_si, x_ra_sI, x_ra_sr, g_t23 hs, g_r23_0 hs, g_r23_2 hs, g_r23_5 hs, g_a24 hs, g_a25 hs, g_a26 hs, g_a27 hs, g_a28 hs, h, if_false]
-- the calls
def W3 (w : x_W) (a b v : Int32) : x_W := x_si (x_sI w 24 (putC (x_i w 24) a b v)) 23 6 (nI 0)
theorem bes_kn {a b : Int32} (h : bes a b) : kn a ∧ kn b := ⟨h.1, h.2.1⟩
theorem S3 {a b v : Int32} [Decidable (bes a b)] (hs : Sh w) : X_R L xs (d + 2) 3 0 [.ref 0, .int a, .int b, .int v, x_junk] [] w Q = if bes a b then if v = nI 0 ∨ v = nI 1 then Q (some (.int (bv (x_i w 24 a.toNatClampNeg) b))) (W3 w a b (bI (v = nI 1))) else Q (some (.int (-7))) w else Q (some (.int (-5))) w := by
  by_cases h : bes a b
  · have hk := bes_kn h
    simp only [X3_0, X3_1, X3_2, X3_5, X3_8, X3_10, X3_11, X3_12, X3_15, X3_18, X3_20, X3_21, X3_22, X3_25, X3_26, X3_27, X3_30, X3_33, X3_34, X3_37, X3_38, X3_40, X3_41, X3_44, X3_45, X3_46, X3_47, X3_48, X3_51, X3_52, X3_55, X3_56, X3_59, X3_61, Nat.zero_le, and_true, true_and, x_nb0, x_nb1, x_nbp, x_isL_int, x_isL_ref, x_isL_junk, x_isR_ref, x_cat_nil, x_cat_int, x_cat_ref, x_cat_long, Option.toList_some, Option.toList_none, List.cons_append, List.nil_append, Nat.reduceAdd, Nat.reduceLeDiff, Nat.reduceLT, t_tag_si, t_tag_sr, t_tag_sI, x_r_si, x_i_sr, t_r_sI, x_ia_si, x_ia_sI, x_ia_sr, x_ra_si, x_ra_sI, x_ra_sr, g_t23 hs, g_r23_0 hs, g_r23_2 hs, g_r23_5 hs, g_a24 hs, g_a25 hs, g_a26 hs, g_a27 hs, g_a28 hs, g_t0 hs, g_r0_0 hs, g_r0_1 hs, g_r0_4 hs, g_r0_5 hs, g_r0_6 hs, g_r0_7 hs, S86, S4, S88t hs hk.1 hk.2, bI_0, h, hk, not_true, if_false, if_true, and_self, ite_not]
    by_cases hv : v = nI 0 ∨ v = nI 1
    · simp only [hv, if_true]
      rcases bv_cases (x_i w 24 a.toNatClampNeg) b with hb | hb
      · simp only [hb, if_true, n10, if_false]
        by_cases h1 : v = nI 1
        · simp only [h1, if_true, S87 hs hk.1 hk.2, bI_t, Nat.zero_le, and_true, true_and, x_nb0, x_nb1, x_nbp, x_isL_int, x_isL_ref, x_isL_junk, x_isR_ref, x_cat_nil, x_cat_int, x_cat_ref, x_cat_long, Option.toList_some, Option.toList_none, List.cons_append, List.nil_append, Nat.reduceAdd, Nat.reduceLeDiff, Nat.reduceLT, t_tag_si, t_tag_sr, t_tag_sI, x_r_si, x_i_sr, t_r_sI, x_ia_si, x_ia_sI, x_ia_sr, x_ra_si, x_ra_sI, x_ra_sr, X3_59, X3_61]
          rfl
        · simp only [h1, if_false, S87 hs hk.1 hk.2, bI_f, not_false_eq_true, Nat.zero_le, and_true, true_and, x_nb0, x_nb1, x_nbp, x_isL_int, x_isL_ref, x_isL_junk, x_isR_ref, x_cat_nil, x_cat_int, x_cat_ref, x_cat_long, Option.toList_some, Option.toList_none, List.cons_append, List.nil_append, Nat.reduceAdd, Nat.reduceLeDiff, Nat.reduceLT, t_tag_si, t_tag_sr, t_tag_sI, x_r_si, x_i_sr, t_r_sI, x_ia_si, x_ia_sI, x_ia_sr, x_ra_si, x_ra_sI, x_ra_sr, X3_59, X3_61]
          rfl
      · simp only [hb, if_true, n10, if_false]
        by_cases h1 : v = nI 1
        · simp only [h1, if_true, S87 hs hk.1 hk.2, bI_t, Nat.zero_le, and_true, true_and, x_nb0, x_nb1, x_nbp, x_isL_int, x_isL_ref, x_isL_junk, x_isR_ref, x_cat_nil, x_cat_int, x_cat_ref, x_cat_long, Option.toList_some, Option.toList_none, List.cons_append, List.nil_append, Nat.reduceAdd, Nat.reduceLeDiff, Nat.reduceLT, t_tag_si, t_tag_sr, t_tag_sI, x_r_si, x_i_sr, t_r_sI, x_ia_si, x_ia_sI, x_ia_sr, x_ra_si, x_ra_sI, x_ra_sr, X3_59, X3_61]
          rfl
        · simp only [h1, if_false, S87 hs hk.1 hk.2, bI_f, not_false_eq_true, Nat.zero_le, and_true, true_and, x_nb0, x_nb1, x_nbp, x_isL_int, x_isL_ref, x_isL_junk, x_isR_ref, x_cat_nil, x_cat_int, x_cat_ref, x_cat_long, Option.toList_some, Option.toList_none, List.cons_append, List.nil_append, Nat.reduceAdd, Nat.reduceLeDiff, Nat.reduceLT, t_tag_si, t_tag_sr, t_tag_sI, x_r_si, x_i_sr, t_r_sI, x_ia_si, x_ia_sI, x_ia_sr, x_ra_si, x_ra_sI, x_ra_sr, X3_59, X3_61]
          rfl
    · simp only [hv, if_false]
  · simp only [X3_0, X3_1, X3_2, X3_5, X3_8, X3_10, Nat.zero_le, and_true, true_and, x_nb0, x_nb1, x_nbp, x_isL_int, x_isL_ref, x_isL_junk, x_isR_ref, x_cat_nil, x_cat_int, x_cat_ref, x_cat_long, Option.toList_some, Option.toList_none, List.cons_append, List.nil_append, Nat.reduceAdd, Nat.reduceLeDiff, Nat.reduceLT, t_tag_si, t_tag_sr, t_tag_sI, x_r_si, x_i_sr, t_r_sI, x_ia_si, x_ia_sI, x_ia_sr, x_ra_si, x_ra_sI, x_ra_sr, S86, bI_0, h, not_false_eq_true, if_false, if_true]
theorem S151 {a b v : Int32} [Decidable (bes a b)] (hs : Sh w) : X_R L xs (d + 3) 151 0 [.ref 41, .int a, .int b, .int v, x_junk] [] w Q = if bes a b then if v = nI 0 ∨ v = nI 1 then Q (some (.int (bv (x_i w 42 a.toNatClampNeg) b))) (x_sI w 42 (putC (x_i w 42) a b (bI (v = nI 1)))) else Q (some (.int (-7))) w else Q (some (.int (-5))) w := by
  by_cases h : bes a b
  · have hk := bes_kn h
    simp only [X151_0, X151_1, X151_2, X151_5, X151_8, X151_10, X151_11, X151_12, X151_13, X151_14, X151_17, X151_20, X151_22, X151_23, X151_24, X151_25, X151_26, X151_29, X151_32, X151_33, X151_36, X151_37, X151_39, X151_40, X151_41, X151_42, X151_43, X151_44, X151_47, X151_48, X151_51, X151_52, X151_55, X151_57, Nat.zero_le, and_true, true_and, x_nb0, x_nb1, x_nbp, x_isL_int, x_isL_ref, x_isL_junk, x_isR_ref, x_cat_nil, x_cat_int, x_cat_ref, x_cat_long, Option.toList_some, Option.toList_none, List.cons_append, List.nil_append, Nat.reduceAdd, Nat.reduceLeDiff, Nat.reduceLT, t_tag_si, t_tag_sr, t_tag_sI, x_r_si, x_i_sr, t_r_sI, x_ia_si, x_ia_sI, x_ia_sr, x_ra_si, x_ra_sI, x_ra_sr, g_t41 hs, S136, S138, S152 hs (kn_ix hk.1), bI_0, h, not_true, if_false, if_true, in01, ite_not]
    by_cases hv : v = nI 0 ∨ v = nI 1
    · simp only [hv, if_true]
      rcases bv_cases (x_i w 42 a.toNatClampNeg) b with hb | hb
      · simp only [hb, if_true, n10, if_false]
        by_cases h1 : v = nI 1
        · simp only [h1, if_true, S153 hs hk.1 hk.2, bI_t, Nat.zero_le, and_true, true_and, x_nb0, x_nb1, x_nbp, x_isL_int, x_isL_ref, x_isL_junk, x_isR_ref, x_cat_nil, x_cat_int, x_cat_ref, x_cat_long, Option.toList_some, Option.toList_none, List.cons_append, List.nil_append, Nat.reduceAdd, Nat.reduceLeDiff, Nat.reduceLT, t_tag_si, t_tag_sr, t_tag_sI, x_r_si, x_i_sr, t_r_sI, x_ia_si, x_ia_sI, x_ia_sr, x_ra_si, x_ra_sI, x_ra_sr, X151_55, X151_57]
        · simp only [h1, if_false, S153 hs hk.1 hk.2, bI_f, not_false_eq_true, Nat.zero_le, and_true, true_and, x_nb0, x_nb1, x_nbp, x_isL_int, x_isL_ref, x_isL_junk, x_isR_ref, x_cat_nil, x_cat_int, x_cat_ref, x_cat_long, Option.toList_some, Option.toList_none, List.cons_append, List.nil_append, Nat.reduceAdd, Nat.reduceLeDiff, Nat.reduceLT, t_tag_si, t_tag_sr, t_tag_sI, x_r_si, x_i_sr, t_r_sI, x_ia_si, x_ia_sI, x_ia_sr, x_ra_si, x_ra_sI, x_ra_sr, X151_55, X151_57]
      · simp only [hb, if_true, n10, if_false]
        by_cases h1 : v = nI 1
        · simp only [h1, if_true, S153 hs hk.1 hk.2, bI_t, Nat.zero_le, and_true, true_and, x_nb0, x_nb1, x_nbp, x_isL_int, x_isL_ref, x_isL_junk, x_isR_ref, x_cat_nil, x_cat_int, x_cat_ref, x_cat_long, Option.toList_some, Option.toList_none, List.cons_append, List.nil_append, Nat.reduceAdd, Nat.reduceLeDiff, Nat.reduceLT, t_tag_si, t_tag_sr, t_tag_sI, x_r_si, x_i_sr, t_r_sI, x_ia_si, x_ia_sI, x_ia_sr, x_ra_si, x_ra_sI, x_ra_sr, X151_55, X151_57]
        · simp only [h1, if_false, S153 hs hk.1 hk.2, bI_f, not_false_eq_true, Nat.zero_le, and_true, true_and, x_nb0, x_nb1, x_nbp, x_isL_int, x_isL_ref, x_isL_junk, x_isR_ref, x_cat_nil, x_cat_int, x_cat_ref, x_cat_long, Option.toList_some, Option.toList_none, List.cons_append, List.nil_append, Nat.reduceAdd, Nat.reduceLeDiff, Nat.reduceLT, t_tag_si, t_tag_sr, t_tag_sI, x_r_si, x_i_sr, t_r_sI, x_ia_si, x_ia_sI, x_ia_sr, x_ra_si, x_ra_sI, x_ra_sr, X151_55, X151_57]
    · simp only [hv, if_false]
  · simp only [X151_0, X151_1, X151_2, X151_5, X151_8, X151_10, Nat.zero_le, and_true, true_and, x_nb0, x_nb1, x_nbp, x_isL_int, x_isL_ref, x_isL_junk, x_isR_ref, x_cat_nil, x_cat_int, x_cat_ref, x_cat_long, Option.toList_some, Option.toList_none, List.cons_append, List.nil_append, Nat.reduceAdd, Nat.reduceLeDiff, Nat.reduceLT, t_tag_si, t_tag_sr, t_tag_sI, x_r_si, x_i_sr, t_r_sI, x_ia_si, x_ia_sI, x_ia_sr, x_ra_si, x_ra_sI, x_ra_sr, S136, bI_0, h, not_false_eq_true, if_false, if_true]
theorem S5 {a b : Int32} [Decidable (bes a b)] (hs : Sh w) : X_R L xs (d + 2) 5 0 [.ref 0, .int a, .int b] [] w Q = if bes a b then Q (some (.int (bv (x_i w 24 a.toNatClampNeg) b))) w else Q (some (.int (-5))) w := by
  by_cases h : bes a b
  · have hk := bes_kn h
    simp only [X5_0, X5_1, X5_2, X5_5, X5_8, X5_10, X5_11, X5_12, X5_15, X5_16, X5_17, X5_20, X5_23, X5_24, X5_27, X5_28, Nat.zero_le, and_true, true_and, x_nb0, x_nb1, x_nbp, x_isL_int, x_isL_ref, x_isL_junk, x_isR_ref, x_cat_nil, x_cat_int, x_cat_ref, x_cat_long, Option.toList_some, Option.toList_none, List.cons_append, List.nil_append, Nat.reduceAdd, Nat.reduceLeDiff, Nat.reduceLT, t_tag_si, t_tag_sr, t_tag_sI, x_r_si, x_i_sr, t_r_sI, x_ia_si, x_ia_sI, x_ia_sr, x_ra_si, x_ra_sI, x_ra_sr, g_t23 hs, g_r23_0 hs, g_r23_2 hs, g_r23_5 hs, g_a24 hs, g_a25 hs, g_a26 hs, g_a27 hs, g_a28 hs, g_t0 hs, g_r0_0 hs, g_r0_1 hs, g_r0_4 hs, g_r0_5 hs, g_r0_6 hs, g_r0_7 hs, S86, S88t hs hk.1 hk.2, bI_0, h, hk, not_true, if_false, if_true, and_self, ite_not]
    rcases bv_cases (x_i w 24 a.toNatClampNeg) b with hb | hb
    · simp only [hb, if_true]
    · simp only [hb, n10, if_false]
  · simp only [X5_0, X5_1, X5_2, X5_5, X5_8, X5_10, Nat.zero_le, and_true, true_and, x_nb0, x_nb1, x_nbp, x_isL_int, x_isL_ref, x_isL_junk, x_isR_ref, x_cat_nil, x_cat_int, x_cat_ref, x_cat_long, Option.toList_some, Option.toList_none, List.cons_append, List.nil_append, Nat.reduceAdd, Nat.reduceLeDiff, Nat.reduceLT, t_tag_si, t_tag_sr, t_tag_sI, x_r_si, x_i_sr, t_r_sI, x_ia_si, x_ia_sI, x_ia_sr, x_ra_si, x_ra_sI, x_ra_sr, S86, bI_0, h, not_false_eq_true, if_false, if_true]
theorem S154 {a b : Int32} [Decidable (bes a b)] (hs : Sh w) : X_R L xs (d + 3) 154 0 [.ref 41, .int a, .int b] [] w Q = if bes a b then Q (some (.int (bv (x_i w 42 a.toNatClampNeg) b))) w else Q (some (.int (-5))) w := by
  by_cases h : bes a b
  · have hk := bes_kn h
    simp only [X154_0, X154_1, X154_2, X154_5, X154_8, X154_10, X154_13, X154_14, X154_15, X154_16, X154_19, X154_22, X154_23, X154_26, X154_27, Nat.zero_le, and_true, true_and, x_nb0, x_nb1, x_nbp, x_isL_int, x_isL_ref, x_isL_junk, x_isR_ref, x_cat_nil, x_cat_int, x_cat_ref, x_cat_long, Option.toList_some, Option.toList_none, List.cons_append, List.nil_append, Nat.reduceAdd, Nat.reduceLeDiff, Nat.reduceLT, t_tag_si, t_tag_sr, t_tag_sI, x_r_si, x_i_sr, t_r_sI, x_ia_si, x_ia_sI, x_ia_sr, x_ra_si, x_ra_sI, x_ra_sr, g_t41 hs, S136, S152 hs (kn_ix hk.1), bI_0, h, not_true, if_false, if_true, ite_not]
    rcases bv_cases (x_i w 42 a.toNatClampNeg) b with hb | hb
    · simp only [hb, if_true]
    · simp only [hb, n10, if_false]
  · simp only [X154_0, X154_1, X154_2, X154_5, X154_8, X154_10, X154_27, Nat.zero_le, and_true, true_and, x_nb0, x_nb1, x_nbp, x_isL_int, x_isL_ref, x_isL_junk, x_isR_ref, x_cat_nil, x_cat_int, x_cat_ref, x_cat_long, Option.toList_some, Option.toList_none, List.cons_append, List.nil_append, Nat.reduceAdd, Nat.reduceLeDiff, Nat.reduceLT, t_tag_si, t_tag_sr, t_tag_sI, x_r_si, x_i_sr, t_r_sI, x_ia_si, x_ia_sI, x_ia_sr, x_ra_si, x_ra_sI, x_ra_sr, S136, bI_0, h, not_false_eq_true, if_false, if_true]
theorem S6 {a v : Int32} (hs : Sh w) : X_R L xs (d + 2) 6 0 [.ref 0, .int a, .int v, x_junk] [] w Q = if kn a then if v = nI 0 ∨ v = nI 1 then Q (some (.int (bv (x_i w 23 1) a))) (x_si w 23 1 (pc1 (bI (v = nI 1)) (x_i w 23 1) a)) else Q (some (.int (-7))) w else Q (some (.int (-5))) w := by
  have e : x_i w 23 1 >>> (a &&& 31) &&& nI 1 = bv (x_i w 23 1) a := rfl
  by_cases h : kn a
  · rw [if_pos h]
    simp only [X6_0, X6_1, X6_4, X6_7, X6_9, X6_10, X6_11, X6_14, X6_17, X6_19, X6_20, X6_21, X6_24, X6_27, X6_28, X6_29, X6_30, X6_31, X6_32, X6_33, X6_36, X6_37, X6_38, X6_39, X6_42, X6_43, X6_46, X6_47, X6_50, X6_51, Nat.zero_le, and_true, true_and, x_nb0, x_nb1, x_nbp, x_isL_int, x_isL_ref, x_isL_junk, x_isR_ref, x_cat_nil, x_cat_int, x_cat_ref, x_cat_long, Option.toList_some, Option.toList_none, List.cons_append, List.nil_append, Nat.reduceAdd, Nat.reduceLeDiff, Nat.reduceLT, t_tag_si, t_tag_sr, t_tag_sI, x_r_si, x_i_sr, t_r_sI, x_ia_si, x_ia_sI, x_ia_sr, x_ra_si, x_ra_sI, x_ra_sr, g_t23 hs, g_r23_0 hs, g_r23_2 hs, g_r23_5 hs, g_a24 hs, g_a25 hs, g_a26 hs, g_a27 hs, g_a28 hs, g_t0 hs, g_r0_0 hs, g_r0_1 hs, g_r0_4 hs, g_r0_5 hs, g_r0_6 hs, g_r0_7 hs, S2, S4, bI_0, h, not_true, if_false, if_true, and_self, ite_not, e, S89 hs]
    by_cases hv : v = nI 0 ∨ v = nI 1
    · simp only [hv, if_true]
      by_cases h1 : v = nI 1
      · simp only [h1, if_true, bI_t]
      · simp only [h1, if_false, bI_f, not_false_eq_true]
    · simp only [hv, if_false]
  · simp only [X6_0, X6_1, X6_4, X6_7, X6_9, Nat.zero_le, and_true, true_and, x_nb0, x_nb1, x_nbp, x_isL_int, x_isL_ref, x_isL_junk, x_isR_ref, x_cat_nil, x_cat_int, x_cat_ref, x_cat_long, Option.toList_some, Option.toList_none, List.cons_append, List.nil_append, Nat.reduceAdd, Nat.reduceLeDiff, Nat.reduceLT, t_tag_si, t_tag_sr, t_tag_sI, x_r_si, x_i_sr, t_r_sI, x_ia_si, x_ia_sI, x_ia_sr, x_ra_si, x_ra_sI, x_ra_sr, S2, bI_0, h, not_false_eq_true, if_false, if_true]
theorem S155 {a v : Int32} (hs : Sh w) : X_R L xs (d + 2) 155 0 [.ref 41, .int a, .int v, x_junk] [] w Q = if kn a then if v = nI 0 ∨ v = nI 1 then Q (some (.int (bv (x_i w 41 1) a))) (x_si w 41 1 (pc1 (bI (v = nI 1)) (x_i w 41 1) a)) else Q (some (.int (-7))) w else Q (some (.int (-5))) w := by
  have e : x_i w 41 1 >>> (a &&& 31) &&& nI 1 = bv (x_i w 41 1) a := rfl
  unfold pc1
  by_cases h : kn a
  · rw [if_pos h]
    simp only [X155_0, X155_1, X155_4, X155_7, X155_9, X155_10, X155_11, X155_12, X155_13, X155_16, X155_19, X155_21, X155_22, X155_23, X155_26, X155_27, X155_28, X155_29, X155_30, X155_31, X155_32, X155_33, X155_34, X155_37, X155_38, X155_41, X155_42, X155_43, X155_44, X155_45, X155_48, X155_49, X155_52, X155_53, X155_54, X155_55, X155_56, X155_57, X155_58, X155_61, X155_62, Nat.zero_le, and_true, true_and, x_nb0, x_nb1, x_nbp, x_isL_int, x_isL_ref, x_isL_junk, x_isR_ref, x_cat_nil, x_cat_int, x_cat_ref, x_cat_long, Option.toList_some, Option.toList_none, List.cons_append, List.nil_append, Nat.reduceAdd, Nat.reduceLeDiff, Nat.reduceLT, t_tag_si, t_tag_sr, t_tag_sI, x_r_si, x_i_sr, t_r_sI, x_ia_si, x_ia_sI, x_ia_sr, x_ra_si, x_ra_sI, x_ra_sr, g_t41 hs, S137, S138, bI_0, h, not_true, if_false, if_true, and_self, ite_not, e, in01]
    by_cases hv : v = nI 0 ∨ v = nI 1
    · simp only [hv, if_true]
      by_cases h1 : v = nI 1
      · simp only [h1, if_true, bI_t, n10, if_false]
      · simp only [h1, if_false, bI_f, not_false_eq_true, if_true]
    · simp only [hv, if_false]
  · simp only [X155_0, X155_1, X155_4, X155_7, X155_9, Nat.zero_le, and_true, true_and, x_nb0, x_nb1, x_nbp, x_isL_int, x_isL_ref, x_isL_junk, x_isR_ref, x_cat_nil, x_cat_int, x_cat_ref, x_cat_long, Option.toList_some, Option.toList_none, List.cons_append, List.nil_append, Nat.reduceAdd, Nat.reduceLeDiff, Nat.reduceLT, t_tag_si, t_tag_sr, t_tag_sI, x_r_si, x_i_sr, t_r_sI, x_ia_si, x_ia_sI, x_ia_sr, x_ra_si, x_ra_sI, x_ra_sr, S137, bI_0, h, not_false_eq_true, if_false, if_true]
end S43
