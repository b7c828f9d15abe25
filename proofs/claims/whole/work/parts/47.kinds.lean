/-! ===== kinds: weights, wakings, turns ===== -/
def wgN (k t m : Nat) : Nat := if k = 1 then t + 4 * m else if k = 3 then 2 * (t + 4 * m) else t
def waN (k m : Nat) : Nat := if k = 2 then max 1 (10 - m) else if k = 4 then max 1 (10 - m) + 5 else if k = 5 then 5 else 10
/-- the turn's strength, the text saying v (0 .. 99) -/
def tuN (k m v : Nat) : Nat := if k = 3 then v + m else if k = 4 then 2 * v else if k = 5 then v - 2 * m else v
def bd (x : Int32) (M : Nat) : Prop := x = nI x.toNatClampNeg ∧ x.toNatClampNeg ≤ M
theorem bd_of {x : Int32} {M : Nat} (h : bd x M) : ∃ v, v ≤ M ∧ x = nI v := ⟨_, h.2, h.1⟩
theorem wgN_le {k t m : Nat} (ht : t ≤ 30) (hm : m ≤ 9) : wgN k t m ≤ 132 := by
  unfold wgN
  split
  · omega
  · split <;> omega
theorem nI_eqD {a b : Nat} (ha : a < 2 ^ 31) (hb : b < 2 ^ 31) : (nI a = nI b) = (a = b) := propext (nI_eq ha hb)
theorem nI_leD {a b : Nat} (ha : a < 2 ^ 31) (hb : b < 2 ^ 31) : (nI a ≤ nI b) = (a ≤ b) := propext (nI_leI ha hb)
theorem nI_ltD {a b : Nat} (ha : a < 2 ^ 31) (hb : b < 2 ^ 31) : (nI a < nI b) = (a < b) := propext (nI_ltI ha hb)
theorem clamp10 : ∀ m, m < 10 → (if nI 1 ≤ nI 10 - nI m then if nI 10 - nI m ≤ nI 10 then nI 10 - nI m else nI 10 else nI 1) = nI (max 1 (10 - m)) := by decide +kernel
theorem max10 : ∀ m, m < 10 → (if nI 1 < nI 10 - nI m then nI 10 - nI m else nI 1) = nI (max 1 (10 - m)) := by decide +kernel
theorem clampV : ∀ m, m < 10 → ∀ v, v < 100 → (if nI 0 ≤ nI v - nI (2 * m) then if nI v - nI (2 * m) ≤ nI 99 then nI v - nI (2 * m) else nI 99 else nI 0) = nI (v - 2 * m) := by decide +kernel
theorem maxV : ∀ m, m < 10 → ∀ v, v < 100 → (if nI 0 < nI v - nI (2 * m) then nI v - nI (2 * m) else nI 0) = nI (v - 2 * m) := by decide +kernel
def isTab (k o : Nat) : Bool := decide (bv (([1, 3, 5, 11, 21, 33] : List Int32).getD k 0) (nI o) = nI 1)
theorem isTab_0 : ∀ k, k < 6 → ∀ o, o < 6 → isTab k o = (o == k || o == 0 || (k == 3 && o == 1) || (k == 4 && o == 2)) := by decide +kernel
section S47
variable {L : Nat} {xs : Nat → Int32} {d : Nat} {w : x_W} {Q : Option Value → x_W → Prop}
theorem S171 {s k t m : Nat} (hs : Sh w) (h6 : s < 6) (hk : x_i w 43 s = nI k) (ht : x_i w 44 s = nI t) (hm : x_i w 45 s = nI m) (k5 : k ≤ 5) (t30 : t ≤ 30) (m9 : m ≤ 9) : X_R L xs d 171 0 [.ref 41, .int (nI s), x_junk] [] w Q = Q (some (.int (nI (wgN k t m)))) w := by
  have hx := x_ix_nI h6 (show 6 < 2 ^ 31 by decide)
  have hc := nI_cl (show s < 2 ^ 31 by omega)
  simp only [X171_0, X171_1, X171_4, X171_5, X171_6, X171_7, X171_8, X171_11, X171_12, X171_13, X171_14, X171_15, X171_16, X171_17, X171_20, X171_21, X171_22, X171_23, X171_26, X171_27, X171_30, X171_31, X171_34, X171_35, X171_36, X171_37, X171_40, X171_41, X171_42, X171_43, X171_46, X171_47, X171_50, X171_51, X171_52, Nat.zero_le, and_true, true_and, x_nb0, x_nb1, x_nbp, x_isL_int, x_isL_ref, x_isL_junk, x_isR_ref, x_cat_nil, x_cat_int, x_cat_ref, x_cat_long, Option.toList_some, Option.toList_none, List.cons_append, List.nil_append, Nat.reduceAdd, Nat.reduceLeDiff, Nat.reduceLT, t_tag_si, t_tag_sr, t_tag_sI, x_r_si, x_i_sr, t_r_sI, x_ia_si, x_ia_sI, x_ia_sr, x_ra_si, x_ra_sI, x_ra_sr, g_t41 hs, g_r41_3 hs, g_r41_4 hs, g_r41_5 hs, g_a43 hs, g_a44 hs, g_a45 hs, hx, hc, hk, ht, hm, pk_mul, nI_add, nI_eqD (show k < 2 ^ 31 by omega) (show 1 < 2 ^ 31 by decide), nI_eqD (show k < 2 ^ 31 by omega) (show 3 < 2 ^ 31 by decide), wgN]
  by_cases h1 : k = 1
  · simp only [h1, if_true]
  · by_cases h3 : k = 3 <;> simp only [h1, h3, Nat.reduceEqDiff, if_true, if_false]
theorem S172 {s k m : Nat} (hs : Sh w) (h6 : s < 6) (hk : x_i w 43 s = nI k) (hm : x_i w 45 s = nI m) (k5 : k ≤ 5) (m9 : m ≤ 9) : X_R L xs (d + 1) 172 0 [.ref 41, .int (nI s), x_junk] [] w Q = Q (some (.int (nI (waN k m)))) w := by
  have hx := x_ix_nI h6 (show 6 < 2 ^ 31 by decide)
  have hc := nI_cl (show s < 2 ^ 31 by omega)
  simp only [X172_0, X172_2, X172_3, X172_6, X172_7, X172_8, X172_9, X172_10, X172_12, X172_15, X172_16, X172_17, X172_20, X172_21, X172_22, X172_23, X172_26, X172_27, X172_30, X172_31, X172_34, X172_35, X172_36, X172_37, X172_40, X172_41, X172_42, X172_43, X172_46, X172_47, X172_50, X172_51, X172_52, X172_53, X172_56, X172_57, X172_60, X172_62, Nat.zero_le, and_true, true_and, x_nb0, x_nb1, x_nbp, x_isL_int, x_isL_ref, x_isL_junk, x_isR_ref, x_cat_nil, x_cat_int, x_cat_ref, x_cat_long, Option.toList_some, Option.toList_none, List.cons_append, List.nil_append, Nat.reduceAdd, Nat.reduceLeDiff, Nat.reduceLT, t_tag_si, t_tag_sr, t_tag_sI, x_r_si, x_i_sr, t_r_sI, x_ia_si, x_ia_sI, x_ia_sr, x_ra_si, x_ra_sI, x_ra_sr, g_t41 hs, g_r41_3 hs, g_r41_5 hs, g_a43 hs, g_a45 hs, hx, hc, hk, hm, S166, clamp10 m (by omega), nI_add, nI_eqD (show k < 2 ^ 31 by omega) (show 2 < 2 ^ 31 by decide), nI_eqD (show k < 2 ^ 31 by omega) (show 4 < 2 ^ 31 by decide), nI_eqD (show k < 2 ^ 31 by omega) (show 5 < 2 ^ 31 by decide), waN]
  by_cases h1 : k = 2
  · simp only [h1, if_true]
  · by_cases h3 : k = 4
    · simp only [h1, h3, Nat.reduceEqDiff, if_true, if_false]
    · by_cases h5 : k = 5 <;> simp only [h1, h3, h5, Nat.reduceEqDiff, if_true, if_false]
theorem S193 {s k m v : Nat} (hs : Sh w) (h6 : s < 6) (hk : x_i w 43 s = nI k) (hm : x_i w 45 s = nI m) (k5 : k ≤ 5) (m9 : m ≤ 9) (v99 : v ≤ 99) : X_R L xs (d + 1) 193 0 [.ref 41, .int (nI s), .int (nI v), x_junk] [] w Q = Q (some (.int (nI (tuN k m v)))) w := by
  have hx := x_ix_nI h6 (show 6 < 2 ^ 31 by decide)
  have hc := nI_cl (show s < 2 ^ 31 by omega)
  simp only [X193_0, X193_1, X193_4, X193_5, X193_6, X193_7, X193_8, X193_9, X193_12, X193_13, X193_14, X193_17, X193_18, X193_19, X193_20, X193_23, X193_24, X193_25, X193_28, X193_29, X193_30, X193_31, X193_34, X193_35, X193_36, X193_39, X193_40, X193_41, X193_42, X193_45, X193_46, X193_47, X193_48, X193_49, X193_50, X193_52, X193_55, X193_58, X193_59, Nat.zero_le, and_true, true_and, x_nb0, x_nb1, x_nbp, x_isL_int, x_isL_ref, x_isL_junk, x_isR_ref, x_cat_nil, x_cat_int, x_cat_ref, x_cat_long, Option.toList_some, Option.toList_none, List.cons_append, List.nil_append, Nat.reduceAdd, Nat.reduceLeDiff, Nat.reduceLT, t_tag_si, t_tag_sr, t_tag_sI, x_r_si, x_i_sr, t_r_sI, x_ia_si, x_ia_sI, x_ia_sr, x_ra_si, x_ra_sI, x_ra_sr, g_t41 hs, g_r41_3 hs, g_r41_5 hs, g_a43 hs, g_a45 hs, hx, hc, hk, hm, S166, pk_mul, clampV m (by omega) v (by omega), nI_add, nI_eqD (show k < 2 ^ 31 by omega) (show 3 < 2 ^ 31 by decide), nI_eqD (show k < 2 ^ 31 by omega) (show 4 < 2 ^ 31 by decide), nI_eqD (show k < 2 ^ 31 by omega) (show 5 < 2 ^ 31 by decide), tuN]
  by_cases h1 : k = 3
  · simp only [h1, if_true]
  · by_cases h3 : k = 4
    · simp only [h1, h3, Nat.reduceEqDiff, if_true, if_false]
    · by_cases h5 : k = 5 <;> simp only [h1, h3, h5, Nat.reduceEqDiff, if_true, if_false]
-- the class's sleepers: 35 + s
theorem S108 {a k o : Nat} (ht : x_tag w a = some (0, 5)) (hk : x_i w a 0 = nI k) (k5 : k ≤ 5) (o5 : o ≤ 5) : X_R L xs (d + 1) 108 0 [.ref a, .int (nI o)] [] w Q = Q (some (.int (bI (isTab k o = true)))) w := by
  have hx := x_ix_nI (show k < 6 by omega) (show 6 < 2 ^ 31 by decide)
  have hc := nI_cl (show k < 2 ^ 31 by omega)
  have e : ([1, 3, 5, 11, 21, 33] : List Int32).getD k 0 >>> (nI o &&& 31) &&& nI 1 = bv (([1, 3, 5, 11, 21, 33] : List Int32).getD k 0) (nI o) := rfl
  have b1 : (nI 0 ≤ nI k ∧ nI k ≤ nI 5) := ⟨nI_le (Nat.zero_le _) (by omega), nI_le (by omega) (by decide)⟩
  have b2 : (nI 0 ≤ nI o ∧ nI o ≤ nI 5) := ⟨nI_le (Nat.zero_le _) (by omega), nI_le (by omega) (by decide)⟩
  simp only [X108_0, X108_1, X108_4, X108_5, X108_6, X108_9, X108_12, X108_13, X108_14, X108_15, X108_18, X108_21, X108_24, X108_25, X108_28, X108_28s, X108_29, X108_30, X108_31, X108_32, X108_33, X108_34, X108_37, X108_38, X108_41, X108_42, Nat.zero_le, and_true, true_and, x_nb0, x_nb1, x_nbp, x_isL_int, x_isL_ref, x_isL_junk, x_isR_ref, x_cat_nil, x_cat_int, x_cat_ref, x_cat_long, Option.toList_some, Option.toList_none, List.cons_append, List.nil_append, Nat.reduceAdd, Nat.reduceLeDiff, Nat.reduceLT, t_tag_si, t_tag_sr, t_tag_sI, x_r_si, x_i_sr, t_r_sI, x_ia_si, x_ia_sI, x_ia_sr, x_ra_si, x_ra_sI, x_ra_sr, ht, hk, S10, bI_0, b1, b2, and_self, not_true, if_false, hx, hc, e]
  by_cases h : bv (([1, 3, 5, 11, 21, 33] : List Int32).getD k 0) (nI o) = nI 1
  · rw [if_pos h, bI_t (show isTab k o = true from decide_eq_true h)]
  · rw [if_neg h, bI_f (show ¬ isTab k o = true from fun q => h (of_decide_eq_true q))]
theorem S107 {a k t m : Nat} (hta : x_tag w a = some (0, 5)) (hk : x_i w a 0 = nI k) (ht : x_i w a 1 = nI t) (hm : x_i w a 2 = nI m) (k5 : k ≤ 5) (t30 : t ≤ 30) (m9 : m ≤ 9) : X_R L xs (d + 2) 107 0 [.ref a, x_junk] [] w Q = Q (some (.int (nI (wgN k t m)))) w := by
  have i1 := isTab_0 k (by omega) 1 (by decide)
  have i3 := isTab_0 k (by omega) 3 (by decide)
  simp only [X107_0, X107_1, X107_2, X107_5, X107_8, X107_9, X107_12, X107_13, X107_14, X107_17, X107_18, X107_19, X107_22, X107_23, X107_26, X107_27, X107_28, X107_29, X107_32, X107_35, X107_36, X107_37, X107_38, X107_41, X107_42, Nat.zero_le, and_true, true_and, x_nb0, x_nb1, x_nbp, x_isL_int, x_isL_ref, x_isL_junk, x_isR_ref, x_cat_nil, x_cat_int, x_cat_ref, x_cat_long, Option.toList_some, Option.toList_none, List.cons_append, List.nil_append, Nat.reduceAdd, Nat.reduceLeDiff, Nat.reduceLT, t_tag_si, t_tag_sr, t_tag_sI, x_r_si, x_i_sr, t_r_sI, x_ia_si, x_ia_sI, x_ia_sr, x_ra_si, x_ra_sI, x_ra_sr, hta, S108 hta hk k5 (show 1 ≤ 5 by decide), S108 hta hk k5 (show 3 ≤ 5 by decide), bI_0, ht, hm, pk_mul, nI_add, wgN]
  match k, k5 with
  | 0, _ => simp only [show isTab 0 1 = false from by decide, show isTab 0 3 = false from by decide, Bool.false_eq_true, not_false_eq_true, if_true]; rfl
  | 1, _ => simp only [show isTab 1 1 = true from by decide, show isTab 1 3 = false from by decide, Bool.false_eq_true, not_false_eq_true, not_true, if_true, if_false]
  | 2, _ => simp only [show isTab 2 1 = false from by decide, show isTab 2 3 = false from by decide, Bool.false_eq_true, not_false_eq_true, if_true]; rfl
  | 3, _ => simp only [show isTab 3 1 = true from by decide, show isTab 3 3 = true from by decide, not_true, if_false]; rfl
  | 4, _ => simp only [show isTab 4 1 = false from by decide, show isTab 4 3 = false from by decide, Bool.false_eq_true, not_false_eq_true, if_true]; rfl
  | 5, _ => simp only [show isTab 5 1 = false from by decide, show isTab 5 3 = false from by decide, Bool.false_eq_true, not_false_eq_true, if_true]; rfl
  | k + 6, h => exact absurd h (by omega)
theorem S109 {a k m : Nat} (hta : x_tag w a = some (0, 5)) (hk : x_i w a 0 = nI k) (hm : x_i w a 2 = nI m) (k5 : k ≤ 5) (m9 : m ≤ 9) : X_R L xs (d + 2) 109 0 [.ref a, x_junk] [] w Q = Q (some (.int (nI (waN k m)))) w := by
  simp only [X109_0, X109_1, X109_2, X109_5, X109_8, X109_9, X109_10, X109_11, X109_12, X109_15, X109_18, X109_19, X109_21, X109_22, X109_25, X109_26, X109_29, X109_32, X109_34, X109_35, X109_36, X109_37, X109_40, X109_43, X109_44, X109_45, X109_46, X109_49, X109_50, Nat.zero_le, and_true, true_and, x_nb0, x_nb1, x_nbp, x_isL_int, x_isL_ref, x_isL_junk, x_isR_ref, x_cat_nil, x_cat_int, x_cat_ref, x_cat_long, Option.toList_some, Option.toList_none, List.cons_append, List.nil_append, Nat.reduceAdd, Nat.reduceLeDiff, Nat.reduceLT, t_tag_si, t_tag_sr, t_tag_sI, x_r_si, x_i_sr, t_r_sI, x_ia_si, x_ia_sI, x_ia_sr, x_ra_si, x_ra_sI, x_ra_sr, hta, S108 hta hk k5 (show 5 ≤ 5 by decide), S108 hta hk k5 (show 2 ≤ 5 by decide), S108 hta hk k5 (show 4 ≤ 5 by decide), bI_0, hm, max10 m (by omega), nI_add, waN]
  match k, k5 with
  | 0, _ => simp only [show isTab 0 5 = false from by decide, show isTab 0 2 = false from by decide, show isTab 0 4 = false from by decide, Bool.false_eq_true, not_false_eq_true, if_true]; rfl
  | 1, _ => simp only [show isTab 1 5 = false from by decide, show isTab 1 2 = false from by decide, show isTab 1 4 = false from by decide, Bool.false_eq_true, not_false_eq_true, if_true]; rfl
  | 2, _ => simp only [show isTab 2 5 = false from by decide, show isTab 2 2 = true from by decide, show isTab 2 4 = false from by decide, Bool.false_eq_true, not_false_eq_true, not_true, if_true, if_false]
  | 3, _ => simp only [show isTab 3 5 = false from by decide, show isTab 3 2 = false from by decide, show isTab 3 4 = false from by decide, Bool.false_eq_true, not_false_eq_true, if_true]; rfl
  | 4, _ => simp only [show isTab 4 5 = false from by decide, show isTab 4 2 = true from by decide, show isTab 4 4 = true from by decide, Bool.false_eq_true, not_false_eq_true, not_true, if_true, if_false]; rfl
  | 5, _ => simp only [show isTab 5 5 = true from by decide, not_true, if_false]; rfl
  | k + 6, h => exact absurd h (by omega)
theorem S110 {a k m v : Nat} (hta : x_tag w a = some (0, 5)) (hk : x_i w a 0 = nI k) (hm : x_i w a 2 = nI m) (k5 : k ≤ 5) (m9 : m ≤ 9) (v99 : v ≤ 99) : X_R L xs d 110 0 [.ref a, .int (nI v)] [] w Q = Q (some (.int (nI (tuN k m v)))) w := by
  unfold tuN
  match k, k5 with
  | 0, _ => simp only [X110_0, X110_1, X110_56, X110_57, Nat.zero_le, and_true, true_and, x_nb0, x_nb1, x_nbp, x_isL_int, x_isL_ref, x_isL_junk, x_isR_ref, x_cat_nil, x_cat_int, x_cat_ref, x_cat_long, Option.toList_some, Option.toList_none, List.cons_append, List.nil_append, Nat.reduceAdd, Nat.reduceLeDiff, Nat.reduceLT, t_tag_si, t_tag_sr, t_tag_sI, x_r_si, x_i_sr, t_r_sI, x_ia_si, x_ia_sI, x_ia_sr, x_ra_si, x_ra_sI, x_ra_sr, hta, hk, X110_4_d (x := nI 0) (by decide)]; rfl
  | 1, _ => simp only [X110_0, X110_1, X110_56, X110_57, Nat.zero_le, and_true, true_and, x_nb0, x_nb1, x_nbp, x_isL_int, x_isL_ref, x_isL_junk, x_isR_ref, x_cat_nil, x_cat_int, x_cat_ref, x_cat_long, Option.toList_some, Option.toList_none, List.cons_append, List.nil_append, Nat.reduceAdd, Nat.reduceLeDiff, Nat.reduceLT, t_tag_si, t_tag_sr, t_tag_sI, x_r_si, x_i_sr, t_r_sI, x_ia_si, x_ia_sI, x_ia_sr, x_ra_si, x_ra_sI, x_ra_sr, hta, hk, X110_4_d (x := nI 1) (by decide)]; rfl
  | 2, _ => simp only [X110_0, X110_1, X110_56, X110_57, Nat.zero_le, and_true, true_and, x_nb0, x_nb1, x_nbp, x_isL_int, x_isL_ref, x_isL_junk, x_isR_ref, x_cat_nil, x_cat_int, x_cat_ref, x_cat_long, Option.toList_some, Option.toList_none, List.cons_append, List.nil_append, Nat.reduceAdd, Nat.reduceLeDiff, Nat.reduceLT, t_tag_si, t_tag_sr, t_tag_sI, x_r_si, x_i_sr, t_r_sI, x_ia_si, x_ia_sI, x_ia_sr, x_ra_si, x_ra_sI, x_ra_sr, hta, hk, X110_4_d (x := nI 2) (by decide)]; rfl
  | 3, _ => simp only [X110_0, X110_1, X110_32, X110_33, X110_34, X110_37, X110_38, Nat.zero_le, and_true, true_and, x_nb0, x_nb1, x_nbp, x_isL_int, x_isL_ref, x_isL_junk, x_isR_ref, x_cat_nil, x_cat_int, x_cat_ref, x_cat_long, Option.toList_some, Option.toList_none, List.cons_append, List.nil_append, Nat.reduceAdd, Nat.reduceLeDiff, Nat.reduceLT, t_tag_si, t_tag_sr, t_tag_sI, x_r_si, x_i_sr, t_r_sI, x_ia_si, x_ia_sI, x_ia_sr, x_ra_si, x_ra_sI, x_ra_sr, hta, hk, X110_4_3, hm, nI_add]; rfl
  | 4, _ => simp only [X110_0, X110_1, X110_39, X110_40, X110_41, X110_42, Nat.zero_le, and_true, true_and, x_nb0, x_nb1, x_nbp, x_isL_int, x_isL_ref, x_isL_junk, x_isR_ref, x_cat_nil, x_cat_int, x_cat_ref, x_cat_long, Option.toList_some, Option.toList_none, List.cons_append, List.nil_append, Nat.reduceAdd, Nat.reduceLeDiff, Nat.reduceLT, t_tag_si, t_tag_sr, t_tag_sI, x_r_si, x_i_sr, t_r_sI, x_ia_si, x_ia_sI, x_ia_sr, x_ra_si, x_ra_sI, x_ra_sr, hta, hk, X110_4_4, pk_mul]; rfl
  | 5, _ => simp only [X110_0, X110_1, X110_43, X110_44, X110_45, X110_46, X110_47, X110_50, X110_51, X110_52, X110_55, Nat.zero_le, and_true, true_and, x_nb0, x_nb1, x_nbp, x_isL_int, x_isL_ref, x_isL_junk, x_isR_ref, x_cat_nil, x_cat_int, x_cat_ref, x_cat_long, Option.toList_some, Option.toList_none, List.cons_append, List.nil_append, Nat.reduceAdd, Nat.reduceLeDiff, Nat.reduceLT, t_tag_si, t_tag_sr, t_tag_sI, x_r_si, x_i_sr, t_r_sI, x_ia_si, x_ia_sI, x_ia_sr, x_ra_si, x_ra_sI, x_ra_sr, hta, hk, X110_4_5, hm, pk_mul, maxV m (by omega) v (by omega)]; rfl
  | k + 6, h => exact absurd h (by omega)
end S47
