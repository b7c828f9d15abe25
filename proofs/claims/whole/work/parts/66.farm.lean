/-! ===== how far: the reference ===== -/
def sprN (C : Nat → Int32) (m : Int32) : Nat → Int32
  | 0 => m
  | k + 1 => sprN C m k ||| (if bv m (nI k) = nI 1 then C k else nI 0)
def rchN (C : Nat → Int32) (a : Int32) : Nat → Int32
  | 0 => nI 1 <<< (a &&& 31)
  | r + 1 => sprN C (rchN C a r) 20
def farF (C : Nat → Int32) (a b : Int32) : Nat → Nat → Int32
  | 0, _ => -1
  | n + 1, r => if bv (rchN C a r) b = nI 1 then nI r else farF C a b n (r + 1)
section S66
variable {L : Nat} {xs : Nat → Int32} {d : Nat} {w : x_W} {Q : Option Value → x_W → Prop}
theorem S192 {a b : Int32} (hs : Sh w) : X_R L xs d 192 0 [.ref 41, .int a, .int b, x_junk, x_junk, x_junk, x_junk] [] w Q = Q (some (.int (farF (x_i w 42) a b 20 0))) w := by
  have ebv : ∀ m q : Int32, m >>> (q &&& 31) &&& nI 1 = bv m q := fun _ _ => rfl
  have inner : ∀ n k, k + n = 20 → ∀ (m : Int32) (r : Nat), X_R L xs d 192 32 [.ref 41, .int a, .int b, .int m, .int (nI r), .int (sprN (x_i w 42) m k), .int (nI k)] [] w Q = X_R L xs d 192 7 [.ref 41, .int a, .int b, .int (sprN (x_i w 42) m 20), .int (nI (r + 1)), .int (sprN (x_i w 42) m 20), .int (nI 20)] [] w Q := by
    intro n
    induction n with
    | zero =>
      intro k hk m r
      obtain rfl : k = 20 := by omega
      rw [X192_32]
      simp only [X192_34, X192_36, X192_71, X192_73, X192_74, X192_77, Nat.zero_le, and_true, true_and, x_nb0, x_nb1, x_nbp, x_isL_int, x_isL_ref, x_isL_junk, x_isR_ref, x_cat_nil, x_cat_int, x_cat_ref, x_cat_long, Option.toList_some, Option.toList_none, List.cons_append, List.nil_append, Nat.reduceAdd, Nat.reduceLeDiff, Nat.reduceLT, t_tag_si, t_tag_sr, t_tag_sI, x_r_si, x_i_sr, t_r_sI, x_ia_si, x_ia_sI, x_ia_sr, x_ra_si, x_ra_sI, x_ra_sr, nI_leT (Nat.le_refl 20) (show 20 < 2 ^ 31 by decide), if_true, nI_add]
    | succ n ih =>
      intro k hk m r
      have e := ih (k + 1) (by omega) m r
      have hkx := x_ix_nI (show k < 20 by omega) (show 20 < 2 ^ 31 by decide)
      have hkc := nI_cl (show k < 2 ^ 31 by omega)
      unfold sprN at e
      rw [X192_32]
      rcases bv_cases m (nI k) with hb | hb
      · rw [hb, if_neg n01] at e
        simp only [X192_34, X192_36, X192_39, X192_41, X192_42, X192_44, X192_45, X192_46, X192_47, X192_48, X192_61, X192_62, X192_63, X192_65, X192_68, Nat.zero_le, and_true, true_and, x_nb0, x_nb1, x_nbp, x_isL_int, x_isL_ref, x_isL_junk, x_isR_ref, x_cat_nil, x_cat_int, x_cat_ref, x_cat_long, Option.toList_some, Option.toList_none, List.cons_append, List.nil_append, Nat.reduceAdd, Nat.reduceLeDiff, Nat.reduceLT, t_tag_si, t_tag_sr, t_tag_sI, x_r_si, x_i_sr, t_r_sI, x_ia_si, x_ia_sI, x_ia_sr, x_ra_si, x_ra_sI, x_ra_sr, nI_leF (show k < 20 by omega) (show 20 < 2 ^ 31 by decide), if_false, ebv, hb, n01, nI_add]
        exact e
      · rw [hb, if_pos rfl] at e
        simp only [X192_34, X192_36, X192_39, X192_41, X192_42, X192_44, X192_45, X192_46, X192_47, X192_48, X192_51, X192_52, X192_55, X192_57, X192_58, X192_62, X192_63, X192_65, X192_68, Nat.zero_le, and_true, true_and, x_nb0, x_nb1, x_nbp, x_isL_int, x_isL_ref, x_isL_junk, x_isR_ref, x_cat_nil, x_cat_int, x_cat_ref, x_cat_long, Option.toList_some, Option.toList_none, List.cons_append, List.nil_append, Nat.reduceAdd, Nat.reduceLeDiff, Nat.reduceLT, t_tag_si, t_tag_sr, t_tag_sI, x_r_si, x_i_sr, t_r_sI, x_ia_si, x_ia_sI, x_ia_sr, x_ra_si, x_ra_sI, x_ra_sr, nI_leF (show k < 20 by omega) (show 20 < 2 ^ 31 by decide), if_false, if_true, ebv, hb, g_t41 hs, g_r41_0 hs, g_a42 hs, hkx, hkc, nI_add]
        exact e
  have outer : ∀ n r, r + n = 20 → ∀ u5 u6 : Value, x_isL u5 = false → x_isL u6 = false → X_R L xs d 192 7 [.ref 41, .int a, .int b, .int (rchN (x_i w 42) a r), .int (nI r), u5, u6] [] w Q = Q (some (.int (farF (x_i w 42) a b n r))) w := by
    intro n
    induction n with
    | zero =>
      intro r hr u5 u6 h5 h6
      obtain rfl : r = 20 := by omega
      rw [X192_7]
      simp only [X192_9, X192_11, X192_80, X192_81, Nat.zero_le, and_true, true_and, x_nb0, x_nb1, x_nbp, x_isL_int, x_isL_ref, x_isL_junk, x_isR_ref, x_cat_nil, x_cat_int, x_cat_ref, x_cat_long, Option.toList_some, Option.toList_none, List.cons_append, List.nil_append, Nat.reduceAdd, Nat.reduceLeDiff, Nat.reduceLT, t_tag_si, t_tag_sr, t_tag_sI, x_r_si, x_i_sr, t_r_sI, x_ia_si, x_ia_sI, x_ia_sr, x_ra_si, x_ra_sI, x_ra_sr, nI_leT (Nat.le_refl 20) (show 20 < 2 ^ 31 by decide), if_true, farF]
    | succ n ih =>
      intro r hr u5 u6 h5 h6
      unfold farF
      rw [X192_7]
      rcases bv_cases (rchN (x_i w 42) a r) b with hb | hb
      · have e1 := inner 20 0 rfl (rchN (x_i w 42) a r) r
        have e2 := ih (r + 1) (by omega) (.int (sprN (x_i w 42) (rchN (x_i w 42) a r) 20)) (.int (nI 20)) rfl rfl
        have e3 : rchN (x_i w 42) a (r + 1) = sprN (x_i w 42) (rchN (x_i w 42) a r) 20 := rfl
        rw [e3] at e2
        rw [hb, if_neg n01, ← e2, ← e1]
        simp only [X192_9, X192_11, X192_14, X192_15, X192_16, X192_17, X192_18, X192_19, X192_20, X192_26, X192_27, X192_29, X192_30, Nat.zero_le, and_true, true_and, x_nb0, x_nb1, x_nbp, x_isL_int, x_isL_ref, x_isL_junk, x_isR_ref, x_cat_nil, x_cat_int, x_cat_ref, x_cat_long, Option.toList_some, Option.toList_none, List.cons_append, List.nil_append, Nat.reduceAdd, Nat.reduceLeDiff, Nat.reduceLT, t_tag_si, t_tag_sr, t_tag_sI, x_r_si, x_i_sr, t_r_sI, x_ia_si, x_ia_sI, x_ia_sr, x_ra_si, x_ra_sI, x_ra_sr, nI_leF (show r < 20 by omega) (show 20 < 2 ^ 31 by decide), if_false, ebv, hb, n01, h5, h6]
        rfl
      · rw [hb, if_pos rfl]
        simp only [X192_9, X192_11, X192_14, X192_15, X192_16, X192_17, X192_18, X192_19, X192_20, X192_23, X192_25, Nat.zero_le, and_true, true_and, x_nb0, x_nb1, x_nbp, x_isL_int, x_isL_ref, x_isL_junk, x_isR_ref, x_cat_nil, x_cat_int, x_cat_ref, x_cat_long, Option.toList_some, Option.toList_none, List.cons_append, List.nil_append, Nat.reduceAdd, Nat.reduceLeDiff, Nat.reduceLT, t_tag_si, t_tag_sr, t_tag_sI, x_r_si, x_i_sr, t_r_sI, x_ia_si, x_ia_sI, x_ia_sr, x_ra_si, x_ra_sI, x_ra_sr, nI_leF (show r < 20 by omega) (show 20 < 2 ^ 31 by decide), if_false, if_true, ebv, hb]
  have e := outer 20 0 rfl x_junk x_junk rfl rfl
  rw [← e]
  simp only [X192_0, X192_1, X192_2, X192_3, X192_4, X192_5, Nat.zero_le, and_true, true_and, x_nb0, x_nb1, x_nbp, x_isL_int, x_isL_ref, x_isL_junk, x_isR_ref, x_cat_nil, x_cat_int, x_cat_ref, x_cat_long, Option.toList_some, Option.toList_none, List.cons_append, List.nil_append, Nat.reduceAdd, Nat.reduceLeDiff, Nat.reduceLT, t_tag_si, t_tag_sr, t_tag_sI, x_r_si, x_i_sr, t_r_sI, x_ia_si, x_ia_sI, x_ia_sr, x_ra_si, x_ra_sI, x_ra_sr]
  rfl
end S66
