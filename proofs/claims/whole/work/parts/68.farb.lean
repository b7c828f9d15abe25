/-! ===== how far: the class ===== -/
def farA (C : Nat → Int32) (f : Nat → Int32) : Nat → Nat → Int32
  | 0 => f
  | a + 1 => msN C a 20 0 (nI 1 <<< (nI a &&& 31)) (nI 1 <<< (nI a &&& 31)) (farA C f a)
def WF (w : x_W) : x_W := x_si (x_sI w 28 (farA (x_i w 24) (x_fn 400 (fun _ => -1) (x_i w 28)) 20)) 23 6 (nI 1)
section S68
variable {L : Nat} {xs : Nat → Int32} {d : Nat} {w : x_W} {Q : Option Value → x_W → Prop}
theorem S97k {i j : Nat} (hs : Sh w) (hi : i < 20) (hj : j < 20) (hk : x_i w 23 6 = nI 1) : X_R L xs (d + 1) 97 0 [.ref 23, .int (nI i), .int (nI j), x_junk] [] w Q = Q (some (.int (x_i w 28 (i * 20 + j)))) w := by
  have hax := x_ix_nI (show i * 20 + j < 400 by omega) (show 400 < 2 ^ 31 by decide)
  have hac := nI_cl (show i * 20 + j < 2 ^ 31 by omega)
  simp only [X97_0, X97_1, X97_4, X97_39, X97_40, X97_43, X97_44, X97_46, X97_47, X97_48, X97_49, X97_49s, X97_50, Nat.zero_le, and_true, true_and, x_nb0, x_nb1, x_nbp, x_isL_int, x_isL_ref, x_isL_junk, x_isR_ref, x_cat_nil, x_cat_int, x_cat_ref, x_cat_long, Option.toList_some, Option.toList_none, List.cons_append, List.nil_append, Nat.reduceAdd, Nat.reduceLeDiff, Nat.reduceLT, t_tag_si, t_tag_sr, t_tag_sI, x_r_si, x_i_sr, t_r_sI, x_ia_si, x_ia_sI, x_ia_sr, x_ra_si, x_ra_sI, x_ra_sr, g_t23 hs, g_r23_5 hs, g_a28 hs, hk, n10, if_false, nI_mul, nI_add, hax, hac]
theorem S97 {i j : Nat} (hs : Sh w) (hi : i < 20) (hj : j < 20) (hk : x_i w 23 6 = nI 0) : X_R L xs (d + 1) 97 0 [.ref 23, .int (nI i), .int (nI j), x_junk] [] w Q = Q (some (.int (farA (x_i w 24) (x_fn 400 (fun _ => -1) (x_i w 28)) 20 (i * 20 + j)))) (WF w) := by
  have hax := x_ix_nI (show i * 20 + j < 400 by omega) (show 400 < 2 ^ 31 by decide)
  have hac := nI_cl (show i * 20 + j < 2 ^ 31 by omega)
  generalize hf0 : x_fn 400 (fun _ => (-1 : Int32)) (x_i w 28) = f0
  have hlast : X_R L xs (d + 1) 97 34 [.ref 23, .int (nI i), .int (nI j), .int (nI 20)] [] (x_sI w 28 (farA (x_i w 24) f0 20)) Q = Q (some (.int (farA (x_i w 24) f0 20 (i * 20 + j)))) (WF w) := by
    have hsu : Sh (x_si (x_sI w 28 (farA (x_i w 24) f0 20)) 23 6 (nI 1)) := hs
    have hsv : Sh (x_sI w 28 (farA (x_i w 24) f0 20)) := hs
    have e28 : x_i (x_si (x_sI w 28 (farA (x_i w 24) f0 20)) 23 6 (nI 1)) 28 = farA (x_i w 24) f0 20 := by
      unfold x_si
      rw [x_i_sIn _ _ _ (by decide), x_i_sI]
    have hb1 : nI 1 = (0 : Int32) ∨ nI 1 = (1 : Int32) := Or.inr rfl
    have hW : x_si (x_sI w 28 (farA (x_i w 24) f0 20)) 23 6 (nI 1) = WF w := by unfold WF; rw [hf0]
    rw [hW] at hsu e28
    simp only [X97_34, X97_35, X97_36, X97_39, X97_40, X97_43, X97_44, X97_46, X97_47, X97_48, X97_49, X97_49s, X97_50, Nat.zero_le, and_true, true_and, x_nb0, x_nb1, x_nbp, x_isL_int, x_isL_ref, x_isL_junk, x_isR_ref, x_cat_nil, x_cat_int, x_cat_ref, x_cat_long, Option.toList_some, Option.toList_none, List.cons_append, List.nil_append, Nat.reduceAdd, Nat.reduceLeDiff, Nat.reduceLT, t_tag_si, t_tag_sr, t_tag_sI, x_r_si, x_i_sr, t_r_sI, x_ia_si, x_ia_sI, x_ia_sr, x_ra_si, x_ra_sI, x_ra_sr, g_t23 hsv, hb1, hW, g_t23 hsu, g_r23_5 hsu, g_a28 hsu, nI_mul, nI_add, hax, hac, e28]
  have loop : ∀ n a, a + n = 20 → X_R L xs (d + 1) 97 17 [.ref 23, .int (nI i), .int (nI j), .int (nI a)] [] (x_sI w 28 (farA (x_i w 24) f0 a)) Q = Q (some (.int (farA (x_i w 24) f0 20 (i * 20 + j)))) (WF w) := by
    intro n
    induction n with
    | zero =>
      intro a ha
      obtain rfl : a = 20 := by omega
      rw [← hlast, X97_17]
      simp only [X97_18, X97_20, Nat.zero_le, and_true, true_and, x_nb0, x_nb1, x_nbp, x_isL_int, x_isL_ref, x_isL_junk, x_isR_ref, x_cat_nil, x_cat_int, x_cat_ref, x_cat_long, Option.toList_some, Option.toList_none, List.cons_append, List.nil_append, Nat.reduceAdd, Nat.reduceLeDiff, Nat.reduceLT, t_tag_si, t_tag_sr, t_tag_sI, x_r_si, x_i_sr, t_r_sI, x_ia_si, x_ia_sI, x_ia_sr, x_ra_si, x_ra_sI, x_ra_sr, nI_leT (Nat.le_refl 20) (show 20 < 2 ^ 31 by decide), if_true]
    | succ n ih =>
      intro a ha
      have e := ih (a + 1) (by omega)
      have h98 := fun (Q' : Option Value → x_W → Prop) => S98 (L := L) (xs := xs) (d := d) (Q := Q') (a := a) hs (by omega) (farA (x_i w 24) f0 a)
      rw [← e, X97_17]
      simp only [X97_18, X97_20, X97_23, X97_24, X97_25, X97_28, X97_31, Nat.zero_le, and_true, true_and, x_nb0, x_nb1, x_nbp, x_isL_int, x_isL_ref, x_isL_junk, x_isR_ref, x_cat_nil, x_cat_int, x_cat_ref, x_cat_long, Option.toList_some, Option.toList_none, List.cons_append, List.nil_append, Nat.reduceAdd, Nat.reduceLeDiff, Nat.reduceLT, t_tag_si, t_tag_sr, t_tag_sI, x_r_si, x_i_sr, t_r_sI, x_ia_si, x_ia_sI, x_ia_sr, x_ra_si, x_ra_sI, x_ra_sr, g_t23 hs, nI_leF (show a < 20 by omega) (show 20 < 2 ^ 31 by decide), if_false, h98, nI_add]
      rfl
  have e := loop 20 0 rfl
  have hfill := fun (Q' : Option Value → x_W → Prop) => S244 (L := L) (xs := xs) (d := d) (Q := Q') (w := w) (a := 28) (n := 400) (v := -1) (g_t28 hs) (by decide) (by decide)
  rw [hf0] at hfill
  rw [← e]
  simp only [X97_0, X97_1, X97_4, X97_7, X97_8, X97_11, X97_12, X97_15, X97_16, Nat.zero_le, and_true, true_and, x_nb0, x_nb1, x_nbp, x_isL_int, x_isL_ref, x_isL_junk, x_isR_ref, x_cat_nil, x_cat_int, x_cat_ref, x_cat_long, Option.toList_some, Option.toList_none, List.cons_append, List.nil_append, Nat.reduceAdd, Nat.reduceLeDiff, Nat.reduceLT, t_tag_si, t_tag_sr, t_tag_sI, x_r_si, x_i_sr, t_r_sI, x_ia_si, x_ia_sI, x_ia_sr, x_ra_si, x_ra_sI, x_ra_sr, g_t23 hs, g_r23_5 hs, hk, if_true, hfill]
  rfl
end S68
