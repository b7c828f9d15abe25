/-! ===== what would tear: the reference ===== -/
def tm (c : Nat → Nat → Bool) (p : Nat → Nat) (br : Nat → Nat → Int32) (k o : Nat) : Nat := if k < o ∧ c k o = true ∧ ¬ nI (absD (p k) (p o)) ≤ br k o then 1 else 0
theorem dv20 : ∀ q, q < 400 → nI q / nI 20 = nI (q / 20) ∧ nI q - nI (q / 20) * nI 20 = nI (q % 20) := by decide +kernel
theorem n20_0 : ¬ nI 20 = nI 0 := by decide
def UN (w : x_W) (f g : Nat → Int32) : x_W := x_sI (x_sI w 59 f) 58 g
section S61
variable {L : Nat} {xs : Nat → Int32} {d : Nat} {w : x_W} {Q : Option Value → x_W → Prop}
theorem UN_o {f g : Nat → Int32} {b : Nat} (h1 : b ≠ 59) (h2 : b ≠ 58) : x_i (UN w f g) b = x_i w b := by
  unfold UN
  rw [x_i_sIn _ _ _ h2, x_i_sIn _ _ _ h1]
theorem UN_UN {f g f' g' : Nat → Int32} : UN (UN w f g) f' g' = UN w f' g' := by
  unfold UN
  rw [x_sI_comm _ (show 58 ≠ 59 by decide), x_sI_sI, x_sI_sI]
theorem UN_id : UN w (x_i w 59) (x_i w 58) = w := by
  unfold UN
  rw [x_sI_id, x_sI_id]
theorem S181s {r s0 e q M : Nat} {st l p : Nat → Nat} {v3 v4 v5 : Value} (hs : Sh w) (hr : x_i w 41 12 = nI r) (hr6 : r < 6) (hP : PartM w r 2 s0 e st) (hW : WfP st (e - s0)) (hld : ∀ k, k < 20 → x_i w 60 k = nI (l k)) (hp : ∀ k, k < 20 → x_i w 61 k = nI (p k) ∧ p k ≤ 999) (hq : q < 400) (h3 : x_isL v3 = false) (h4 : x_isL v4 = false) (h5 : x_isL v5 = false) :
    ∃ f g u3 u4 u5, (x_isL u3 = false ∧ x_isL u4 = false ∧ x_isL u5 = false) ∧ ∀ Q, X_R L xs (d + 3) 181 4 [.ref 41, .int (nI M), .int (nI q), v3, v4, v5] [] w Q = X_R L xs (d + 3) 181 4 [.ref 41, .int (nI (M + tm (cbN (x_i w 42)) p (brF st (e - s0) l) (q / 20) (q % 20))), .int (nI (q + 1)), u3, u4, u5] [] (UN w f g) Q := by
  have lt := nI_leF hq (show 400 < 2 ^ 31 by decide)
  obtain ⟨dq, rq⟩ := dv20 q hq
  have hk : q / 20 < 20 := by omega
  have ho : q % 20 < 20 := by omega
  generalize q / 20 = k at *
  generalize q % 20 = o at *
  have hix := x_ix_nI hk (show 20 < 2 ^ 31 by decide)
  have hic := nI_cl (show k < 2 ^ 31 by omega)
  have hox := x_ix_nI ho (show 20 < 2 ^ 31 by decide)
  have hoc := nI_cl (show o < 2 ^ 31 by omega)
  by_cases hko : k < o
  · have l2 := nI_leF hko (show o < 2 ^ 31 by omega)
    have hc := fun (Q' : Option Value → x_W → Prop) => S152 (L := L) (xs := xs) (d := d + 2) (w := w) (Q := Q') (b := nI o) hs hix
    rw [hic] at hc
    rcases bv_cases (x_i w 42 k) (nI o) with hb | hb
    · have ht : tm (cbN (x_i w 42)) p (brF st (e - s0) l) k o = 0 := by
        unfold tm cbN
        rw [hb, if_neg (fun z => absurd z.2.1 (by decide))]
      refine ⟨x_i w 59, x_i w 58, .int (nI k), .int (nI o), .int (nI 0), ⟨rfl, rfl, rfl⟩, fun Q => ?_⟩
      rw [UN_id, ht, X181_4]
      simp only [X181_0, X181_1, X181_2, X181_3, X181_5, X181_8, X181_11, X181_12, X181_14, X181_15, X181_16, X181_17, X181_19, X181_20, X181_22, X181_23, X181_25, X181_28, X181_29, X181_30, X181_32, X181_35, X181_85, X181_86, X181_88, X181_89, X181_91, X181_94, X181_95, X181_98, X181_99, X181_100, X181_101, X181_104, X181_107, X181_108, Nat.zero_le, and_true, true_and, x_nb0, x_nb1, x_nbp, x_isL_int, x_isL_ref, x_isL_junk, x_isR_ref, x_cat_nil, x_cat_int, x_cat_ref, x_cat_long, Option.toList_some, Option.toList_none, List.cons_append, List.nil_append, Nat.reduceAdd, Nat.reduceLeDiff, Nat.reduceLT, t_tag_si, t_tag_sr, t_tag_sI, x_r_si, x_i_sr, t_r_sI, x_ia_si, x_ia_sI, x_ia_sr, x_ra_si, x_ra_sI, x_ra_sr, h3, h4, h5, lt, if_false, ten0, n20_0, not_false_eq_true, dq, rq, l2, g_t41 hs, hc, hb, if_true, nI_add, Nat.add_zero]
    · have hct : cbN (x_i w 42) k o = true := by
        unfold cbN
        rw [hb]
        rfl
      have h1 := hp k hk
      have h2 := hp o ho
      have ha := apartN (show p k < 2 ^ 31 by omega) (show p o < 2 ^ 31 by omega)
      have h163 := fun (Q' : Option Value → x_W → Prop) => S163 (L := L) (xs := xs) (d := d) (Q := Q') (w := w) (p := 2) (a0 := nI 0) (a1 := nI 0) (a2 := nI 0) (a3 := nI (l k + l o)) (a4 := nI k) (a5 := nI 0) hs hr hr6 (by decide) hP hW
      have hbr : clI (bndI 2) (sayN (set6 (x_i w 59) (nI 0) (nI 0) (nI 0) (nI (l k + l o)) (nI k) (nI 0)) st (e - s0)) = brF st (e - s0) l k o := by
        unfold brF
        rw [sayN_cg hW (set6_cg (x_i w 59) (fun _ => nI 0) _ _ _ _ _ _)]
        rfl
      rw [hbr] at h163
      have hWN : WN w (set6 (x_i w 59) (nI 0) (nI 0) (nI 0) (nI (l k + l o)) (nI k) (nI 0)) st (e - s0) = UN w (set6 (x_i w 59) (nI 0) (nI 0) (nI 0) (nI (l k + l o)) (nI k) (nI 0)) (stkN (set6 (x_i w 59) (nI 0) (nI 0) (nI 0) (nI (l k + l o)) (nI k) (nI 0)) st (x_i w 58) (e - s0)) := rfl
      rw [hWN] at h163
      by_cases hle : nI (absD (p k) (p o)) ≤ brF st (e - s0) l k o
      · have ht : tm (cbN (x_i w 42)) p (brF st (e - s0) l) k o = 0 := if_neg (fun z => z.2.2 hle)
        refine ⟨set6 (x_i w 59) (nI 0) (nI 0) (nI 0) (nI (l k + l o)) (nI k) (nI 0), stkN (set6 (x_i w 59) (nI 0) (nI 0) (nI 0) (nI (l k + l o)) (nI k) (nI 0)) st (x_i w 58) (e - s0), .int (nI k), .int (nI o), .int (nI 0), ⟨rfl, rfl, rfl⟩, fun Q => ?_⟩
        rw [ht, X181_4]
        simp only [X181_0, X181_1, X181_2, X181_3, X181_5, X181_8, X181_11, X181_12, X181_14, X181_15, X181_16, X181_17, X181_19, X181_20, X181_22, X181_23, X181_25, X181_28, X181_29, X181_30, X181_32, X181_35, X181_38, X181_39, X181_42, X181_43, X181_44, X181_45, X181_48, X181_50, X181_51, X181_54, X181_55, X181_56, X181_57, X181_58, X181_59, X181_60, X181_63, X181_64, X181_65, X181_66, X181_69, X181_71, X181_72, X181_73, X181_74, X181_75, X181_78, X181_85, X181_86, X181_88, X181_89, X181_91, X181_94, X181_95, X181_98, X181_99, X181_100, X181_101, X181_104, X181_107, X181_108, Nat.zero_le, and_true, true_and, x_nb0, x_nb1, x_nbp, x_isL_int, x_isL_ref, x_isL_junk, x_isR_ref, x_cat_nil, x_cat_int, x_cat_ref, x_cat_long, Option.toList_some, Option.toList_none, List.cons_append, List.nil_append, Nat.reduceAdd, Nat.reduceLeDiff, Nat.reduceLT, t_tag_si, t_tag_sr, t_tag_sI, x_r_si, x_i_sr, t_r_sI, x_ia_si, x_ia_sI, x_ia_sr, x_ra_si, x_ra_sI, x_ra_sr, h3, h4, h5, lt, if_false, n20_0, not_false_eq_true, dq, rq, l2, g_t41 hs, g_r41_0 hs, g_r41_3 hs, g_r41_4 hs, g_r41_5 hs, g_r41_6 hs, g_r41_7 hs, g_r41_9 hs, g_r41_10 hs, g_r41_17 hs, g_r41_18 hs, g_r41_19 hs, g_r41_20 hs, g_r41_21 hs, g_r41_22 hs, g_r41_27 hs, g_r41_28 hs, g_r41_32 hs, g_r41_33 hs, g_r41_34 hs, g_r41_35 hs, g_r41_36 hs, g_r41_37 hs, g_r41_38 hs, g_r41_39 hs, g_a42 hs, g_a43 hs, g_a44 hs, g_a45 hs, g_a46 hs, g_a47 hs, g_a48 hs, g_a49 hs, g_a50 hs, g_a51 hs, g_a52 hs, g_a53 hs, g_a54 hs, g_a55 hs, g_a56 hs, g_a57 hs, g_a58 hs, g_a59 hs, g_a60 hs, g_a61 hs, g_a62 hs, g_a63 hs, g_a64 hs, g_a65 hs, hc, hb, n10, hix, hic, hox, hoc, h1.1, h2.1, S139, ha, hld k hk, hld o ho, h163, hle, if_true, nI_add, Nat.add_zero]
      · have ht : tm (cbN (x_i w 42)) p (brF st (e - s0) l) k o = 1 := if_pos ⟨hko, hct, hle⟩
        refine ⟨set6 (x_i w 59) (nI 0) (nI 0) (nI 0) (nI (l k + l o)) (nI k) (nI 0), stkN (set6 (x_i w 59) (nI 0) (nI 0) (nI 0) (nI (l k + l o)) (nI k) (nI 0)) st (x_i w 58) (e - s0), .int (nI k), .int (nI o), .int (nI 1), ⟨rfl, rfl, rfl⟩, fun Q => ?_⟩
        rw [ht, X181_4]
        simp only [X181_0, X181_1, X181_2, X181_3, X181_5, X181_8, X181_11, X181_12, X181_14, X181_15, X181_16, X181_17, X181_19, X181_20, X181_22, X181_23, X181_25, X181_28, X181_29, X181_30, X181_32, X181_35, X181_38, X181_39, X181_42, X181_43, X181_44, X181_45, X181_48, X181_50, X181_51, X181_54, X181_55, X181_56, X181_57, X181_58, X181_59, X181_60, X181_63, X181_64, X181_65, X181_66, X181_69, X181_71, X181_72, X181_73, X181_74, X181_75, X181_78, X181_81, X181_82, X181_85, X181_86, X181_88, X181_89, X181_91, X181_94, X181_95, X181_98, X181_99, X181_100, X181_101, X181_104, X181_107, X181_108, Nat.zero_le, and_true, true_and, x_nb0, x_nb1, x_nbp, x_isL_int, x_isL_ref, x_isL_junk, x_isR_ref, x_cat_nil, x_cat_int, x_cat_ref, x_cat_long, Option.toList_some, Option.toList_none, List.cons_append, List.nil_append, Nat.reduceAdd, Nat.reduceLeDiff, Nat.reduceLT, t_tag_si, t_tag_sr, t_tag_sI, x_r_si, x_i_sr, t_r_sI, x_ia_si, x_ia_sI, x_ia_sr, x_ra_si, x_ra_sI, x_ra_sr, h3, h4, h5, lt, if_false, n20_0, not_false_eq_true, dq, rq, l2, g_t41 hs, g_r41_0 hs, g_r41_3 hs, g_r41_4 hs, g_r41_5 hs, g_r41_6 hs, g_r41_7 hs, g_r41_9 hs, g_r41_10 hs, g_r41_17 hs, g_r41_18 hs, g_r41_19 hs, g_r41_20 hs, g_r41_21 hs, g_r41_22 hs, g_r41_27 hs, g_r41_28 hs, g_r41_32 hs, g_r41_33 hs, g_r41_34 hs, g_r41_35 hs, g_r41_36 hs, g_r41_37 hs, g_r41_38 hs, g_r41_39 hs, g_a42 hs, g_a43 hs, g_a44 hs, g_a45 hs, g_a46 hs, g_a47 hs, g_a48 hs, g_a49 hs, g_a50 hs, g_a51 hs, g_a52 hs, g_a53 hs, g_a54 hs, g_a55 hs, g_a56 hs, g_a57 hs, g_a58 hs, g_a59 hs, g_a60 hs, g_a61 hs, g_a62 hs, g_a63 hs, g_a64 hs, g_a65 hs, hc, hb, n10, hix, hic, hox, hoc, h1.1, h2.1, S139, ha, hld k hk, hld o ho, h163, hle, if_true, nI_add]
  · have l2 := nI_leT (Nat.not_lt.mp hko) (show k < 2 ^ 31 by omega)
    have ht : tm (cbN (x_i w 42)) p (brF st (e - s0) l) k o = 0 := if_neg (fun z => hko z.1)
    refine ⟨x_i w 59, x_i w 58, .int (nI k), .int (nI o), .int (nI 0), ⟨rfl, rfl, rfl⟩, fun Q => ?_⟩
    rw [UN_id, ht, X181_4]
    simp only [X181_5, X181_8, X181_11, X181_12, X181_14, X181_15, X181_16, X181_17, X181_19, X181_20, X181_22, X181_23, X181_25, X181_85, X181_86, X181_88, X181_89, X181_91, X181_98, X181_99, X181_100, X181_101, X181_104, Nat.zero_le, and_true, true_and, x_nb0, x_nb1, x_nbp, x_isL_int, x_isL_ref, x_isL_junk, x_isR_ref, x_cat_nil, x_cat_int, x_cat_ref, x_cat_long, Option.toList_some, Option.toList_none, List.cons_append, List.nil_append, Nat.reduceAdd, Nat.reduceLeDiff, Nat.reduceLT, t_tag_si, t_tag_sr, t_tag_sI, x_r_si, x_i_sr, t_r_sI, x_ia_si, x_ia_sI, x_ia_sr, x_ra_si, x_ra_sI, x_ra_sr, h3, h4, h5, lt, if_false, n20_0, not_false_eq_true, dq, rq, l2, if_true, nI_add, Nat.add_zero]
theorem S181 {r s0 e : Nat} {st l p : Nat → Nat} (hs : Sh w) (hr : x_i w 41 12 = nI r) (hr6 : r < 6) (hP : PartM w r 2 s0 e st) (hW : WfP st (e - s0)) (hld : ∀ k, k < 20 → x_i w 60 k = nI (l k)) (hp : ∀ k, k < 20 → x_i w 61 k = nI (p k) ∧ p k ≤ 999) :
    ∃ f g, ∀ Q, X_R L xs (d + 3) 181 0 [.ref 41, x_junk, x_junk, x_junk, x_junk, x_junk] [] w Q = Q (some (.int (nI (sumT (fun q => tm (cbN (x_i w 42)) p (brF st (e - s0) l) (q / 20) (q % 20)) 400)))) (UN w f g) := by
  generalize hbr : brF st (e - s0) l = br
  generalize hcc : cbN (x_i w 42) = c
  have loop : ∀ n q, q + n = 400 → ∀ (f g : Nat → Int32) (v3 v4 v5 : Value), x_isL v3 = false → x_isL v4 = false → x_isL v5 = false → ∃ f' g', ∀ Q, X_R L xs (d + 3) 181 4 [.ref 41, .int (nI (sumT (fun q => tm c p br (q / 20) (q % 20)) q)), .int (nI q), v3, v4, v5] [] (UN w f g) Q = Q (some (.int (nI (sumT (fun q => tm c p br (q / 20) (q % 20)) 400)))) (UN w f' g') := by
    intro n
    induction n with
    | zero =>
      intro q hq f g v3 v4 v5 h3 h4 h5
      obtain rfl : q = 400 := by omega
      refine ⟨f, g, fun Q => ?_⟩
      rw [X181_4]
      simp only [X181_5, X181_8, X181_107, X181_108, Nat.zero_le, and_true, true_and, x_nb0, x_nb1, x_nbp, x_isL_int, x_isL_ref, x_isL_junk, x_isR_ref, x_cat_nil, x_cat_int, x_cat_ref, x_cat_long, Option.toList_some, Option.toList_none, List.cons_append, List.nil_append, Nat.reduceAdd, Nat.reduceLeDiff, Nat.reduceLT, t_tag_si, t_tag_sr, t_tag_sI, x_r_si, x_i_sr, t_r_sI, x_ia_si, x_ia_sI, x_ia_sr, x_ra_si, x_ra_sI, x_ra_sr, nI_leT (Nat.le_refl 400) (show 400 < 2 ^ 31 by decide), if_true]
    | succ n ih =>
      intro q hq f g v3 v4 v5 h3 h4 h5
      have hr' : x_i (UN w f g) 41 12 = nI r := by rw [UN_o (by decide) (by decide)]; exact hr
      have hP' : PartM (UN w f g) r 2 s0 e st := by
        unfold PartM
        rw [UN_o (b := 49) (by decide) (by decide), UN_o (b := 48) (by decide) (by decide)]
        exact hP
      obtain ⟨f1, g1, u3, u4, u5, ⟨k3, k4, k5⟩, h1⟩ := S181s (L := L) (xs := xs) (d := d) (w := UN w f g) (M := sumT (fun q => tm c p br (q / 20) (q % 20)) q) (q := q) (l := l) (p := p) (v3 := v3) (v4 := v4) (v5 := v5) hs hr' hr6 hP' hW (fun z hz => by rw [UN_o (by decide) (by decide)]; exact hld z hz) (fun z hz => by rw [UN_o (by decide) (by decide)]; exact hp z hz) (by omega) h3 h4 h5
      obtain ⟨f2, g2, h2⟩ := ih (q + 1) (by omega) f1 g1 u3 u4 u5 k3 k4 k5
      refine ⟨f2, g2, fun Q => ?_⟩
      rw [h1, UN_UN, UN_o (by decide) (by decide), hbr, hcc, ← h2 Q]
      rfl
  obtain ⟨f, g, h⟩ := loop 400 0 rfl (x_i w 59) (x_i w 58) x_junk x_junk x_junk rfl rfl rfl
  refine ⟨f, g, fun Q => ?_⟩
  rw [← h Q, UN_id]
  simp only [X181_0, X181_1, X181_2, X181_3, Nat.zero_le, and_true, true_and, x_nb0, x_nb1, x_nbp, x_isL_int, x_isL_ref, x_isL_junk, x_isR_ref, x_cat_nil, x_cat_int, x_cat_ref, x_cat_long, Option.toList_some, Option.toList_none, List.cons_append, List.nil_append, Nat.reduceAdd, Nat.reduceLeDiff, Nat.reduceLT, t_tag_si, t_tag_sr, t_tag_sI, x_r_si, x_i_sr, t_r_sI, x_ia_si, x_ia_sI, x_ia_sr, x_ra_si, x_ra_sI, x_ra_sr]
  rfl
end S61
