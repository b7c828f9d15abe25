/-! ===== how far: the class measures from a knot ===== -/
def nxtN (C : Nat → Int32) (N : Int32) : Nat → Int32
  | 0 => nI 0
  | k + 1 => if bv N (nI k) = nI 1 then nxtN C N k ||| C k else nxtN C N k
def layN (N : Int32) (a F : Nat) (f : Nat → Int32) : Nat → Nat → Int32
  | 0 => f
  | k + 1 => if bv N (nI k) = nI 1 then upd (layN N a F f k) (a * 20 + k) (nI F) else layN N a F f k
def msN (C : Nat → Int32) (a : Nat) : Nat → Nat → Int32 → Int32 → (Nat → Int32) → Nat → Int32
  | 0, _, _, _, f => f
  | n + 1, F, R, N, f => if N = nI 0 then f else msN C a n (F + 1) (R ||| nxtN C N 20) (nxtN C N 20 &&& (R ^^^ (-1))) (layN N a F f 20)
section S67
variable {L : Nat} {xs : Nat → Int32} {d : Nat} {w : x_W} {Q : Option Value → x_W → Prop}
theorem S98 {a : Nat} (hs : Sh w) (ha : a < 20) (f0 : Nat → Int32) : X_R L xs d 98 0 [.ref 23, .int (nI a), x_junk, x_junk, x_junk, x_junk, x_junk] [] (x_sI w 28 f0) Q = Q none (x_sI w 28 (msN (x_i w 24) a 20 0 (nI 1 <<< (nI a &&& 31)) (nI 1 <<< (nI a &&& 31)) f0)) := by
  have ebv : ∀ m q : Int32, m >>> (q &&& 31) &&& nI 1 = bv m q := fun _ _ => rfl
  have e24 : ∀ g, x_i (x_sI w 28 g) 24 = x_i w 24 := fun g => x_i_sIn _ _ _ (by decide)
  have inner : ∀ n k, k + n = 20 → ∀ (R N : Int32) (F : Nat) (f : Nat → Int32), X_R L xs d 98 26 [.ref 23, .int (nI a), .int R, .int N, .int (nI F), .int (nxtN (x_i w 24) N k), .int (nI k)] [] (x_sI w 28 (layN N a F f k)) Q = X_R L xs d 98 9 [.ref 23, .int (nI a), .int (R ||| nxtN (x_i w 24) N 20), .int (nxtN (x_i w 24) N 20 &&& (R ^^^ (-1))), .int (nI (F + 1)), .int (nxtN (x_i w 24) N 20), .int (nI 20)] [] (x_sI w 28 (layN N a F f 20)) Q := by
    intro n
    induction n with
    | zero =>
      intro k hk R N F f
      obtain rfl : k = 20 := by omega
      rw [X98_26]
      simp only [X98_28, X98_30, X98_75, X98_77, X98_78, X98_79, X98_80, X98_81, X98_82, X98_83, X98_85, X98_86, X98_87, X98_90, Nat.zero_le, and_true, true_and, x_nb0, x_nb1, x_nbp, x_isL_int, x_isL_ref, x_isL_junk, x_isR_ref, x_cat_nil, x_cat_int, x_cat_ref, x_cat_long, Option.toList_some, Option.toList_none, List.cons_append, List.nil_append, Nat.reduceAdd, Nat.reduceLeDiff, Nat.reduceLT, t_tag_si, t_tag_sr, t_tag_sI, x_r_si, x_i_sr, t_r_sI, x_ia_si, x_ia_sI, x_ia_sr, x_ra_si, x_ra_sI, x_ra_sr, nI_leT (Nat.le_refl 20) (show 20 < 2 ^ 31 by decide), if_true, nI_add]
    | succ n ih =>
      intro k hk R N F f
      have e := ih (k + 1) (by omega) R N F f
      have hkx := x_ix_nI (show k < 20 by omega) (show 20 < 2 ^ 31 by decide)
      have hkc := nI_cl (show k < 2 ^ 31 by omega)
      have hax := x_ix_nI (show a * 20 + k < 400 by omega) (show 400 < 2 ^ 31 by decide)
      have hac := nI_cl (show a * 20 + k < 2 ^ 31 by omega)
      unfold nxtN layN at e
      rw [X98_26]
      rcases bv_cases N (nI k) with hb | hb
      · rw [hb, if_neg n01, if_neg n01] at e
        simp only [X98_28, X98_30, X98_33, X98_34, X98_36, X98_37, X98_38, X98_39, X98_40, X98_69, X98_72, Nat.zero_le, and_true, true_and, x_nb0, x_nb1, x_nbp, x_isL_int, x_isL_ref, x_isL_junk, x_isR_ref, x_cat_nil, x_cat_int, x_cat_ref, x_cat_long, Option.toList_some, Option.toList_none, List.cons_append, List.nil_append, Nat.reduceAdd, Nat.reduceLeDiff, Nat.reduceLT, t_tag_si, t_tag_sr, t_tag_sI, x_r_si, x_i_sr, t_r_sI, x_ia_si, x_ia_sI, x_ia_sr, x_ra_si, x_ra_sI, x_ra_sr, nI_leF (show k < 20 by omega) (show 20 < 2 ^ 31 by decide), if_false, ebv, hb, n01, nI_add]
        exact e
      · rw [hb, if_pos rfl, if_pos rfl] at e
        simp only [X98_28, X98_30, X98_33, X98_34, X98_36, X98_37, X98_38, X98_39, X98_40, X98_43, X98_44, X98_47, X98_48, X98_50, X98_51, X98_53, X98_54, X98_56, X98_57, X98_59, X98_60, X98_63, X98_65, X98_65s, X98_66, X98_67, X98_69, X98_72, Nat.zero_le, and_true, true_and, x_nb0, x_nb1, x_nbp, x_isL_int, x_isL_ref, x_isL_junk, x_isR_ref, x_cat_nil, x_cat_int, x_cat_ref, x_cat_long, Option.toList_some, Option.toList_none, List.cons_append, List.nil_append, Nat.reduceAdd, Nat.reduceLeDiff, Nat.reduceLT, t_tag_si, t_tag_sr, t_tag_sI, x_r_si, x_i_sr, t_r_sI, x_ia_si, x_ia_sI, x_ia_sr, x_ra_si, x_ra_sI, x_ra_sr, nI_leF (show k < 20 by omega) (show 20 < 2 ^ 31 by decide), if_false, if_true, ebv, hb, g_t23 hs, g_r23_0 hs, g_r23_2 hs, g_r23_5 hs, g_a24 hs, g_a25 hs, g_a26 hs, g_a27 hs, g_a28 hs, g_a28 hs, e24, hkx, hkc, hax, hac, nI_mul, nI_add, x_si_sI]
        exact e
  have outer : ∀ n F, F + n = 20 → ∀ (R N : Int32) (f : Nat → Int32) (u5 u6 : Value), x_isL u5 = false → x_isL u6 = false → X_R L xs d 98 9 [.ref 23, .int (nI a), .int R, .int N, .int (nI F), u5, u6] [] (x_sI w 28 f) Q = Q none (x_sI w 28 (msN (x_i w 24) a n F R N f)) := by
    intro n
    induction n with
    | zero =>
      intro F hF R N f u5 u6 h5 h6
      obtain rfl : F = 20 := by omega
      rw [X98_9]
      simp only [X98_11, X98_13, X98_93, Nat.zero_le, and_true, true_and, x_nb0, x_nb1, x_nbp, x_isL_int, x_isL_ref, x_isL_junk, x_isR_ref, x_cat_nil, x_cat_int, x_cat_ref, x_cat_long, Option.toList_some, Option.toList_none, List.cons_append, List.nil_append, Nat.reduceAdd, Nat.reduceLeDiff, Nat.reduceLT, t_tag_si, t_tag_sr, t_tag_sI, x_r_si, x_i_sr, t_r_sI, x_ia_si, x_ia_sI, x_ia_sr, x_ra_si, x_ra_sI, x_ra_sr, nI_leT (Nat.le_refl 20) (show 20 < 2 ^ 31 by decide), if_true]
      rfl
    | succ n ih =>
      intro F hF R N f u5 u6 h5 h6
      unfold msN
      rw [X98_9]
      by_cases hN : N = nI 0
      · rw [if_pos hN]
        simp only [X98_11, X98_13, X98_16, X98_17, X98_93, Nat.zero_le, and_true, true_and, x_nb0, x_nb1, x_nbp, x_isL_int, x_isL_ref, x_isL_junk, x_isR_ref, x_cat_nil, x_cat_int, x_cat_ref, x_cat_long, Option.toList_some, Option.toList_none, List.cons_append, List.nil_append, Nat.reduceAdd, Nat.reduceLeDiff, Nat.reduceLT, t_tag_si, t_tag_sr, t_tag_sI, x_r_si, x_i_sr, t_r_sI, x_ia_si, x_ia_sI, x_ia_sr, x_ra_si, x_ra_sI, x_ra_sr, nI_leF (show F < 20 by omega) (show 20 < 2 ^ 31 by decide), if_false, hN, if_true]
      · rw [if_neg hN]
        have e1 := inner 20 0 rfl R N F f
        have e2 := ih (F + 1) (by omega) (R ||| nxtN (x_i w 24) N 20) (nxtN (x_i w 24) N 20 &&& (R ^^^ (-1))) (layN N a F f 20) (.int (nxtN (x_i w 24) N 20)) (.int (nI 20)) rfl rfl
        rw [← e2, ← e1]
        simp only [X98_11, X98_13, X98_16, X98_17, X98_20, X98_21, X98_23, X98_24, Nat.zero_le, and_true, true_and, x_nb0, x_nb1, x_nbp, x_isL_int, x_isL_ref, x_isL_junk, x_isR_ref, x_cat_nil, x_cat_int, x_cat_ref, x_cat_long, Option.toList_some, Option.toList_none, List.cons_append, List.nil_append, Nat.reduceAdd, Nat.reduceLeDiff, Nat.reduceLT, t_tag_si, t_tag_sr, t_tag_sI, x_r_si, x_i_sr, t_r_sI, x_ia_si, x_ia_sI, x_ia_sr, x_ra_si, x_ra_sI, x_ra_sr, nI_leF (show F < 20 by omega) (show 20 < 2 ^ 31 by decide), if_false, hN, h5, h6]
        rfl
  have e := outer 20 0 rfl (nI 1 <<< (nI a &&& 31)) (nI 1 <<< (nI a &&& 31)) f0 x_junk x_junk rfl rfl
  rw [← e]
  simp only [X98_0, X98_1, X98_2, X98_3, X98_4, X98_5, X98_6, X98_7, Nat.zero_le, and_true, true_and, x_nb0, x_nb1, x_nbp, x_isL_int, x_isL_ref, x_isL_junk, x_isR_ref, x_cat_nil, x_cat_int, x_cat_ref, x_cat_long, Option.toList_some, Option.toList_none, List.cons_append, List.nil_append, Nat.reduceAdd, Nat.reduceLeDiff, Nat.reduceLT, t_tag_si, t_tag_sr, t_tag_sI, x_r_si, x_i_sr, t_r_sI, x_ia_si, x_ia_sI, x_ia_sr, x_ra_si, x_ra_sI, x_ra_sr]
end S67
