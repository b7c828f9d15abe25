/-! ===== a law says: the reference ===== -/
theorem nI_mul (a b : Nat) : nI a * nI b = nI (a * b) := (Int32.ofNat_mul a b).symm
/-- the reference's law: part p of text r lies from s0 to s1 as the signs st -/
def PartM (w : x_W) (r p s0 s1 : Nat) (st : Nat → Nat) : Prop := x_i w 49 (4 * r + p) = nI s0 ∧ x_i w 49 (4 * r + p + 1) = nI s1 ∧ s0 ≤ s1 ∧ s1 ≤ 160 ∧ ∀ m, m < s1 - s0 → x_i w 48 (200 * r + (s0 + m)) = smT (st m) ∧ wfT (st m) (topN st m)
section S56
variable {L : Nat} {xs : Nat → Int32} {d : Nat} {w : x_W} {Q : Option Value → x_W → Prop}
theorem S164s {r p i h e t : Nat} {f : Nat → Int32} {v4 : Value} (hs : Sh w) (hr : x_i w 41 12 = nI r) (hr6 : r < 6) (hp : p < 3) (hE : x_i w 49 (4 * r + p + 1) = nI e) (hen : e ≤ 160) (hi : i < e) (ht : x_i w 48 (200 * r + i) = smT t) (hw : wfT t h) (hh : h < 200) (hv : x_isL v4 = false) :
    X_R L xs (d + 1) 164 16 [.ref 41, .int (nI p), .int (nI h), .int (nI i), v4] [] (x_sI w 58 f) Q = X_R L xs (d + 1) 164 16 [.ref 41, .int (nI p), .int (nI (top1 t h)), .int (nI (i + 1)), .int (smT t)] [] (x_sI w 58 (stk1 (x_i w 59) t h f)) Q := by
  have tg := g_t41 hs
  have r10 := g_r41_10 hs
  have r9 := g_r41_9 hs
  have r32 := g_r41_32 hs
  have r33 := g_r41_33 hs
  have a48 := g_a48 hs
  have a49 := g_a49 hs
  have a58 := g_a58 hs
  have a59 := g_a59 hs
  have e41 : ∀ g, x_i (x_sI w 58 g) 41 = x_i w 41 := fun g => x_i_sIn _ _ _ (by decide)
  have e48 : ∀ g, x_i (x_sI w 58 g) 48 = x_i w 48 := fun g => x_i_sIn _ _ _ (by decide)
  have e49 : ∀ g, x_i (x_sI w 58 g) 49 = x_i w 49 := fun g => x_i_sIn _ _ _ (by decide)
  have e59 : ∀ g, x_i (x_sI w 58 g) 59 = x_i w 59 := fun g => x_i_sIn _ _ _ (by decide)
  have ix0 := x_ix_nI (show 4 * r + p + 1 < 24 by omega) (show 24 < 2 ^ 31 by decide)
  have ic0 := nI_cl (show 4 * r + p + 1 < 2 ^ 31 by omega)
  have ix1 := x_ix_nI (show 200 * r + i < 1200 by omega) (show 1200 < 2 ^ 31 by decide)
  have ic1 := nI_cl (show 200 * r + i < 2 ^ 31 by omega)
  have ix2 := x_ix_nI hh (show 200 < 2 ^ 31 by decide)
  have ic2 := nI_cl (show h < 2 ^ 31 by omega)
  have le1 := nI_leF hi (show e < 2 ^ 31 by omega)
  rw [X164_16]
  by_cases c1 : t < 10000
  · have e1 : smT t = nI (100000 + t) := if_pos c1
    have e2 : top1 t h = h + 1 := if_pos (by omega)
    have e3 : stk1 (x_i w 59) t h f = upd f h (nI t) := if_pos c1
    rw [e2, e3, e1]
    rw [e1] at ht
    have e4 : nI (100000 + t) - nI 100000 = nI t := by rw [nI_sub (by omega), Nat.add_sub_cancel_left]
    simp only [X164_17, X164_18, X164_21, X164_22, X164_23, X164_26, X164_27, X164_28, X164_29, X164_30, X164_31, X164_32, X164_35, X164_36, X164_39, X164_42, X164_43, X164_46, X164_47, X164_48, X164_49, X164_50, X164_52, X164_54, X164_56, X164_66, X164_67, X164_70, X164_71, X164_73, X164_75, X164_88, X164_90, X164_92, X164_93, X164_94, X164_97, X164_191, X164_194, Nat.zero_le, and_true, true_and, x_nb0, x_nb1, x_nbp, x_isL_int, x_isL_ref, x_isL_junk, x_isR_ref, x_cat_nil, x_cat_int, x_cat_ref, x_cat_long, Option.toList_some, Option.toList_none, List.cons_append, List.nil_append, Nat.reduceAdd, Nat.reduceLeDiff, Nat.reduceLT, t_tag_si, t_tag_sr, t_tag_sI, x_r_si, x_i_sr, t_r_sI, x_ia_si, x_ia_sI, x_ia_sr, x_ra_si, x_ra_sI, x_ra_sr, tg, r9, r10, r32, r33, a48, a49, a58, a59, e41, e48, e49, e59, x_i_sI, hr, hE, ht, ix0, ic0, ix1, ic1, ix2, ic2, le1, if_false, if_true, nI_mul, nI_add, nI_leT (show 100000 ≤ 100000 + t by omega) (show 100000 + t < 2 ^ 31 by omega), nI_leT (show 11 ≤ 100000 + t by omega) (show 100000 + t < 2 ^ 31 by omega), e4, x_si_sI]
  · by_cases c2 : t < 20000
    · obtain ⟨k, hk, rfl⟩ : ∃ k, k < 6 ∧ t = 10000 + k := by
        rcases hw.1 with q | q | q
        · omega
        · exact ⟨t - 10000, by omega, by omega⟩
        · omega
      have e1 : smT (10000 + k) = nI k := by unfold smT; rw [if_neg c1, if_pos c2, Nat.add_sub_cancel_left]
      have e2 : top1 (10000 + k) h = h + 1 := if_pos c2
      have e3 : stk1 (x_i w 59) (10000 + k) h f = upd f h (x_i w 59 k) := by unfold stk1; rw [if_neg c1, if_pos c2, Nat.add_sub_cancel_left]
      rw [e2, e3, e1]
      rw [e1] at ht
      have ix3 := x_ix_nI hk (show 6 < 2 ^ 31 by decide)
      have ic3 := nI_cl (show k < 2 ^ 31 by omega)
      simp only [X164_17, X164_18, X164_21, X164_22, X164_23, X164_26, X164_27, X164_28, X164_29, X164_30, X164_31, X164_32, X164_35, X164_36, X164_39, X164_42, X164_43, X164_46, X164_47, X164_48, X164_49, X164_50, X164_52, X164_54, X164_56, X164_59, X164_61, X164_63, X164_66, X164_67, X164_70, X164_71, X164_73, X164_75, X164_78, X164_79, X164_82, X164_84, X164_85, X164_93, X164_94, X164_97, X164_191, X164_194, Nat.zero_le, and_true, true_and, x_nb0, x_nb1, x_nbp, x_isL_int, x_isL_ref, x_isL_junk, x_isR_ref, x_cat_nil, x_cat_int, x_cat_ref, x_cat_long, Option.toList_some, Option.toList_none, List.cons_append, List.nil_append, Nat.reduceAdd, Nat.reduceLeDiff, Nat.reduceLT, t_tag_si, t_tag_sr, t_tag_sI, x_r_si, x_i_sr, t_r_sI, x_ia_si, x_ia_sI, x_ia_sr, x_ra_si, x_ra_sI, x_ra_sr, tg, r9, r10, r32, r33, a48, a49, a58, a59, e41, e48, e49, e59, x_i_sI, hr, hE, ht, ix0, ic0, ix1, ic1, ix2, ic2, ix3, ic3, le1, if_false, if_true, nI_mul, nI_add, nI_leF (show k < 100000 by omega) (show 100000 < 2 ^ 31 by decide), nI_leF (show k < 11 by omega) (show 11 < 2 ^ 31 by decide), x_si_sI]
    · have hw2 := hw.2 (by omega)
      by_cases c3 : t = 20013
      · subst c3
        obtain ⟨q, rfl⟩ : ∃ q, h = q + 1 := ⟨h - 1, by omega⟩
        have e1 : smT 20013 = nI 13 := rfl
        have e2 : top1 20013 (q + 1) = q + 1 := rfl
        have e3 : stk1 (x_i w 59) 20013 (q + 1) f = upd f q (if f q = nI 0 then nI 1 else nI 0) := rfl
        rw [e2, e3, e1]
        rw [e1] at ht
        have ix3 := x_ix_nI (show q < 200 by omega) (show 200 < 2 ^ 31 by decide)
        have ic3 := nI_cl (show q < 2 ^ 31 by omega)
        by_cases hz : f q = nI 0
        · simp only [X164_17, X164_18, X164_21, X164_22, X164_23, X164_26, X164_27, X164_28, X164_29, X164_30, X164_31, X164_32, X164_35, X164_36, X164_39, X164_42, X164_43, X164_46, X164_47, X164_48, X164_49, X164_50, X164_52, X164_54, X164_56, X164_59, X164_61, X164_63, X164_100, X164_102, X164_104, X164_107, X164_108, X164_111, X164_112, X164_113, X164_114, X164_115, X164_118, X164_119, X164_120, X164_121, X164_122, X164_125, X164_126, X164_130, X164_131, X164_191, X164_194, Nat.zero_le, and_true, true_and, x_nb0, x_nb1, x_nbp, x_isL_int, x_isL_ref, x_isL_junk, x_isR_ref, x_cat_nil, x_cat_int, x_cat_ref, x_cat_long, Option.toList_some, Option.toList_none, List.cons_append, List.nil_append, Nat.reduceAdd, Nat.reduceLeDiff, Nat.reduceLT, t_tag_si, t_tag_sr, t_tag_sI, x_r_si, x_i_sr, t_r_sI, x_ia_si, x_ia_sI, x_ia_sr, x_ra_si, x_ra_sI, x_ra_sr, tg, r9, r10, r32, r33, a48, a49, a58, a59, e41, e48, e49, e59, x_i_sI, hr, hE, ht, ix0, ic0, ix1, ic1, ix3, ic3, le1, hz, if_false, if_true, nI_mul, nI_add, nI_leF (show 13 < 100000 by decide) (show 100000 < 2 ^ 31 by decide), nI_leT (show 11 ≤ 13 by decide) (show 13 < 2 ^ 31 by decide), nI_s1, x_si_sI]
        · simp only [X164_17, X164_18, X164_21, X164_22, X164_23, X164_26, X164_27, X164_28, X164_29, X164_30, X164_31, X164_32, X164_35, X164_36, X164_39, X164_42, X164_43, X164_46, X164_47, X164_48, X164_49, X164_50, X164_52, X164_54, X164_56, X164_59, X164_61, X164_63, X164_100, X164_102, X164_104, X164_107, X164_108, X164_111, X164_112, X164_113, X164_114, X164_115, X164_118, X164_119, X164_120, X164_121, X164_122, X164_129, X164_130, X164_131, X164_191, X164_194, Nat.zero_le, and_true, true_and, x_nb0, x_nb1, x_nbp, x_isL_int, x_isL_ref, x_isL_junk, x_isR_ref, x_cat_nil, x_cat_int, x_cat_ref, x_cat_long, Option.toList_some, Option.toList_none, List.cons_append, List.nil_append, Nat.reduceAdd, Nat.reduceLeDiff, Nat.reduceLT, t_tag_si, t_tag_sr, t_tag_sI, x_r_si, x_i_sr, t_r_sI, x_ia_si, x_ia_sI, x_ia_sr, x_ra_si, x_ra_sI, x_ra_sr, tg, r9, r10, r32, r33, a48, a49, a58, a59, e41, e48, e49, e59, x_i_sI, hr, hE, ht, ix0, ic0, ix1, ic1, ix3, ic3, le1, hz, if_false, if_true, nI_mul, nI_add, nI_leF (show 13 < 100000 by decide) (show 100000 < 2 ^ 31 by decide), nI_leT (show 11 ≤ 13 by decide) (show 13 < 2 ^ 31 by decide), nI_s1, x_si_sI]
      · by_cases c4 : t = 20019
        · subst c4
          obtain ⟨q, rfl⟩ : ∃ q, h = q + 1 := ⟨h - 1, by omega⟩
          have e1 : smT 20019 = nI 19 := rfl
          have e2 : top1 20019 (q + 1) = q + 1 := rfl
          have e3 : stk1 (x_i w 59) 20019 (q + 1) f = upd f q (-(f q)) := rfl
          rw [e2, e3, e1]
          rw [e1] at ht
          have ix3 := x_ix_nI (show q < 200 by omega) (show 200 < 2 ^ 31 by decide)
          have ic3 := nI_cl (show q < 2 ^ 31 by omega)
          have n19 : ¬ nI 19 = nI 13 := by decide
          simp only [X164_17, X164_18, X164_21, X164_22, X164_23, X164_26, X164_27, X164_28, X164_29, X164_30, X164_31, X164_32, X164_35, X164_36, X164_39, X164_42, X164_43, X164_46, X164_47, X164_48, X164_49, X164_50, X164_52, X164_54, X164_56, X164_59, X164_61, X164_63, X164_100, X164_102, X164_104, X164_134, X164_136, X164_138, X164_141, X164_142, X164_145, X164_146, X164_147, X164_148, X164_149, X164_152, X164_153, X164_154, X164_155, X164_156, X164_157, X164_158, X164_191, X164_194, Nat.zero_le, and_true, true_and, x_nb0, x_nb1, x_nbp, x_isL_int, x_isL_ref, x_isL_junk, x_isR_ref, x_cat_nil, x_cat_int, x_cat_ref, x_cat_long, Option.toList_some, Option.toList_none, List.cons_append, List.nil_append, Nat.reduceAdd, Nat.reduceLeDiff, Nat.reduceLT, t_tag_si, t_tag_sr, t_tag_sI, x_r_si, x_i_sr, t_r_sI, x_ia_si, x_ia_sI, x_ia_sr, x_ra_si, x_ra_sI, x_ra_sr, tg, r9, r10, r32, r33, a48, a49, a58, a59, e41, e48, e49, e59, x_i_sI, hr, hE, ht, ix0, ic0, ix1, ic1, ix3, ic3, le1, n19, if_false, if_true, nI_mul, nI_add, nI_leF (show 19 < 100000 by decide) (show 100000 < 2 ^ 31 by decide), nI_leT (show 11 ≤ 19 by decide) (show 19 < 2 ^ 31 by decide), nI_s1, x_si_sI]
        · obtain ⟨c, hc, rfl⟩ : ∃ c, isop c ∧ t = 20000 + c := by
            rcases hw.1 with q | q | q
            · omega
            · omega
            · rcases q.2 with r | r
              · exact ⟨t - 20000, r, by omega⟩
              · exact absurd r (fun z => z.elim c3 c4)
          obtain ⟨q, rfl⟩ : ∃ q, h = q + 1 + 1 := ⟨h - 2, by have := hw2.2 c3 c4; omega⟩
          have hcb : 11 ≤ c ∧ c ≤ 18 := by
            rcases hc with rfl | rfl | rfl | rfl | rfl | rfl | rfl <;> decide
          have e1 : smT (20000 + c) = nI c := by unfold smT; rw [if_neg c1, if_neg c2, Nat.add_sub_cancel_left]
          have e2 : top1 (20000 + c) (q + 1 + 1) = q + 1 := by unfold top1; rw [if_neg c2, if_neg (fun z => z.elim c3 c4)]; rfl
          have e3 : stk1 (x_i w 59) (20000 + c) (q + 1 + 1) f = upd f q (opI c (f q) (f (q + 1))) := by unfold stk1; rw [if_neg c1, if_neg c2, if_neg c3, if_neg c4, Nat.add_sub_cancel_left]; rfl
          rw [e2, e3, e1]
          rw [e1] at ht
          have n13 : (nI c = nI 13) = False := nI_eqF (fun z => c3 (by omega)) (by omega) (by decide)
          have n19 : (nI c = nI 19) = False := nI_eqF (fun z => c4 (by omega)) (by omega) (by decide)
          have ix3 := x_ix_nI (show q < 200 by omega) (show 200 < 2 ^ 31 by decide)
          have ic3 := nI_cl (show q < 2 ^ 31 by omega)
          have ix4 := x_ix_nI (show q + 1 < 200 by omega) (show 200 < 2 ^ 31 by decide)
          have ic4 := nI_cl (show q + 1 < 2 ^ 31 by omega)
          simp only [X164_17, X164_18, X164_21, X164_22, X164_23, X164_26, X164_27, X164_28, X164_29, X164_30, X164_31, X164_32, X164_35, X164_36, X164_39, X164_42, X164_43, X164_46, X164_47, X164_48, X164_49, X164_50, X164_52, X164_54, X164_56, X164_59, X164_61, X164_63, X164_100, X164_102, X164_104, X164_134, X164_136, X164_138, X164_161, X164_164, X164_165, X164_168, X164_169, X164_170, X164_171, X164_173, X164_174, X164_177, X164_178, X164_179, X164_180, X164_181, X164_182, X164_185, X164_186, X164_187, X164_190, X164_191, X164_194, Nat.zero_le, and_true, true_and, x_nb0, x_nb1, x_nbp, x_isL_int, x_isL_ref, x_isL_junk, x_isR_ref, x_cat_nil, x_cat_int, x_cat_ref, x_cat_long, Option.toList_some, Option.toList_none, List.cons_append, List.nil_append, Nat.reduceAdd, Nat.reduceLeDiff, Nat.reduceLT, t_tag_si, t_tag_sr, t_tag_sI, x_r_si, x_i_sr, t_r_sI, x_ia_si, x_ia_sI, x_ia_sr, x_ra_si, x_ra_sI, x_ra_sr, tg, r9, r10, r32, r33, a48, a49, a58, a59, e41, e48, e49, e59, x_i_sI, hr, hE, ht, ix0, ic0, ix1, ic1, ix3, ic3, ix4, ic4, le1, n13, n19, if_false, if_true, nI_mul, nI_add, nI_leF (show c < 100000 by omega) (show 100000 < 2 ^ 31 by decide), nI_leT (show 11 ≤ c by omega) (show c < 2 ^ 31 by omega), nI_m1, nI_s1, S165 hc, x_si_sI]
theorem S164 {r p s0 e : Nat} {st : Nat → Nat} (hs : Sh w) (hr : x_i w 41 12 = nI r) (hr6 : r < 6) (hp : p < 3) (hP : PartM w r p s0 e st) :
    X_R L xs (d + 1) 164 0 [.ref 41, .int (nI p), x_junk, x_junk, x_junk] [] w Q = Q (some (.int (stkN (x_i w 59) st (x_i w 58) (e - s0) 0))) (x_sI w 58 (stkN (x_i w 59) st (x_i w 58) (e - s0))) := by
  obtain ⟨hE0, hE, he0, hen, hst⟩ := hP
  have e41 : ∀ g, x_i (x_sI w 58 g) 41 = x_i w 41 := fun g => x_i_sIn _ _ _ (by decide)
  have e49 : ∀ g, x_i (x_sI w 58 g) 49 = x_i w 49 := fun g => x_i_sIn _ _ _ (by decide)
  have ixz := x_ix_nI (show 4 * r + p < 24 by omega) (show 24 < 2 ^ 31 by decide)
  have icz := nI_cl (show 4 * r + p < 2 ^ 31 by omega)
  have ix0 := x_ix_nI (show 4 * r + p + 1 < 24 by omega) (show 24 < 2 ^ 31 by decide)
  have ic0 := nI_cl (show 4 * r + p + 1 < 2 ^ 31 by omega)
  have ix5 := x_ix_nI (show 0 < 200 by decide) (show 200 < 2 ^ 31 by decide)
  have ic5 := nI_cl (show 0 < 2 ^ 31 by decide)
  have loop : ∀ k m, m + k = e - s0 → ∀ v4 : Value, x_isL v4 = false → X_R L xs (d + 1) 164 16 [.ref 41, .int (nI p), .int (nI (topN st m)), .int (nI (s0 + m)), v4] [] (x_sI w 58 (stkN (x_i w 59) st (x_i w 58) m)) Q = Q (some (.int (stkN (x_i w 59) st (x_i w 58) (e - s0) 0))) (x_sI w 58 (stkN (x_i w 59) st (x_i w 58) (e - s0))) := by
    intro k
    induction k with
    | zero =>
      intro m hm v4 hv
      obtain rfl : m = e - s0 := by omega
      rw [show s0 + (e - s0) = e by omega, X164_16]
      simp only [X164_17, X164_18, X164_21, X164_22, X164_23, X164_26, X164_27, X164_28, X164_29, X164_30, X164_31, X164_32, X164_197, X164_198, X164_201, X164_202, X164_203, Nat.zero_le, and_true, true_and, x_nb0, x_nb1, x_nbp, x_isL_int, x_isL_ref, x_isL_junk, x_isR_ref, x_cat_nil, x_cat_int, x_cat_ref, x_cat_long, Option.toList_some, Option.toList_none, List.cons_append, List.nil_append, Nat.reduceAdd, Nat.reduceLeDiff, Nat.reduceLT, t_tag_si, t_tag_sr, t_tag_sI, x_r_si, x_i_sr, t_r_sI, x_ia_si, x_ia_sI, x_ia_sr, x_ra_si, x_ra_sI, x_ra_sr, g_t41 hs, g_r41_10 hs, g_r41_32 hs, g_a49 hs, g_a58 hs, e41, e49, x_i_sI, hr, hE, ix0, ic0, ix5, ic5, nI_mul, nI_add, nI_leT (Nat.le_refl e) (show e < 2 ^ 31 by omega), if_true]
    | succ k ih =>
      intro m hm v4 hv
      have h1 := hst m (by omega)
      have ht := topN_le st m
      rw [S164s hs hr hr6 hp hE hen (show s0 + m < e by omega) h1.1 h1.2 (show topN st m < 200 by omega) hv]
      exact ih (m + 1) (by omega) _ rfl
  have e9 := loop (e - s0) 0 (Nat.zero_add _) x_junk rfl
  have e2 : stkN (x_i w 59) st (x_i w 58) 0 = x_i w 58 := rfl
  have e3 : topN st 0 = 0 := rfl
  rw [e2, e3, x_sI_id] at e9
  rw [← e9]
  simp only [X164_0, X164_1, X164_2, X164_3, X164_6, X164_7, X164_8, X164_11, X164_12, X164_13, X164_14, X164_15, Nat.zero_le, and_true, true_and, x_nb0, x_nb1, x_nbp, x_isL_int, x_isL_ref, x_isL_junk, x_isR_ref, x_cat_nil, x_cat_int, x_cat_ref, x_cat_long, Option.toList_some, Option.toList_none, List.cons_append, List.nil_append, Nat.reduceAdd, Nat.reduceLeDiff, Nat.reduceLT, t_tag_si, t_tag_sr, t_tag_sI, x_r_si, x_i_sr, t_r_sI, x_ia_si, x_ia_sI, x_ia_sr, x_ra_si, x_ra_sI, x_ra_sr, g_t41 hs, g_r41_10 hs, g_a49 hs, hr, nI_mul, nI_add, ixz, icz, hE0, Nat.add_zero]
end S56
