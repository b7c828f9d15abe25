/-! ===== what would tear: the class ===== -/
def brF (st : Nat → Nat) (n : Nat) (l : Nat → Nat) (i j : Nat) : Int32 := clI (nI 999) (sayN (set6 (fun _ => nI 0) (nI 0) (nI 0) (nI 0) (nI (l i + l j)) (nI i) (nI 0)) st n)
def tc (c : Nat → Nat → Bool) (p : Nat → Nat) (br : Nat → Nat → Int32) (k o : Nat) : Nat := if o < 20 ∧ c k o = true ∧ ¬ nI (absD (p k) (p o)) ≤ br k o then 1 else 0
theorem sayN_cg {nm nm' : Nat → Int32} {st : Nat → Nat} {n : Nat} (hw : WfP st n) (hn : ∀ k, k < 6 → nm k = nm' k) : sayN nm st n = sayN nm' st n := by
  have h : sayN nm st n = stkN nm st (fun _ => nI 0) n 0 := rfl
  rw [h, sayN_of hw hn]
section S59
variable {L : Nat} {xs : Nat → Int32} {d : Nat} {w : x_W} {Q : Option Value → x_W → Prop}
theorem S58 {A0 A E K n e0 e i j : Nat} {st l : Nat → Nat} (hs : Sh w) (hl : LawW w A0 A E K n) (hP : PartX w A E n 2 e0 e st) (hW : WfP st (e - e0)) (hi : i < 20) (hj : j < 20) (hld : ∀ k, k < 20 → x_i w 25 k = nI (l k)) :
    X_R L xs (d + 2) 58 0 [.ref 22, .int (nI i), .int (nI j)] [] w Q = Q (some (.int (brF st (e - e0) l i j))) (WL w K (set6 (x_i w 34) (nI 0) (nI 0) (nI 0) (nI (l i + l j)) (nI i) (nI 0)) st (e - e0)) := by
  have h52 := fun (Q' : Option Value → x_W → Prop) => S52 (L := L) (xs := xs) (d := d + 1) (Q := Q') (w := w) (a := nI 0) (b := nI 0) (c := nI 0) hs
  have h53 := fun (Q' : Option Value → x_W → Prop) => S53' (L := L) (xs := xs) (d := d + 1) (Q := Q') (w := w) (a := nI (l i + l j)) (b := nI i) (c := nI 0) (a' := nI 0) (b' := nI 0) (c' := nI 0) hs
  have h81 := fun (Q' : Option Value → x_W → Prop) => S81w (L := L) (xs := xs) (d := d) (Q := Q') (nm := set6 (x_i w 34) (nI 0) (nI 0) (nI 0) (nI (l i + l j)) (nI i) (nI 0)) hs hl (show 2 < 3 by decide) hP hW
  have hb : clI (bndI 2) (sayN (set6 (x_i w 34) (nI 0) (nI 0) (nI 0) (nI (l i + l j)) (nI i) (nI 0)) st (e - e0)) = brF st (e - e0) l i j := by
    unfold brF
    rw [sayN_cg hW (set6_cg (x_i w 34) (fun _ => nI 0) _ _ _ _ _ _)]
    rfl
  rw [hb] at h81
  have lt := hl.1.1
  have lw := hl.2.2.2
  have ix1 := x_ix_nI hi (show 20 < 2 ^ 31 by decide)
  have ic1 := nI_cl (show i < 2 ^ 31 by omega)
  have ix2 := x_ix_nI hj (show 20 < 2 ^ 31 by decide)
  have ic2 := nI_cl (show j < 2 ^ 31 by omega)
  have e25 : ∀ g, x_i (x_sI w 34 g) 25 = x_i w 25 := fun g => x_i_sIn _ _ _ (by decide)
  simp only [X58_0, X58_1, X58_2, X58_3, X58_4, X58_7, X58_8, X58_9, X58_12, X58_15, X58_16, X58_17, X58_18, X58_21, X58_24, X58_25, X58_26, X58_27, X58_28, X58_29, X58_32, X58_33, X58_36, X58_37, X58_38, X58_41, X58_44, Nat.zero_le, and_true, true_and, x_nb0, x_nb1, x_nbp, x_isL_int, x_isL_ref, x_isL_junk, x_isR_ref, x_cat_nil, x_cat_int, x_cat_ref, x_cat_long, Option.toList_some, Option.toList_none, List.cons_append, List.nil_append, Nat.reduceAdd, Nat.reduceLeDiff, Nat.reduceLT, t_tag_si, t_tag_sr, t_tag_sI, x_r_si, x_i_sr, t_r_sI, x_ia_si, x_ia_sI, x_ia_sr, x_ra_si, x_ra_sI, x_ra_sr, g_t22 hs, g_r22_0 hs, g_t22 hs, g_r22_0 hs, g_r22_2 hs, g_r22_3 hs, g_r22_5 hs, g_r22_6 hs, g_r22_7 hs, g_r22_8 hs, g_a29 hs, g_r29_0 hs, g_r29_1 hs, g_r29_2 hs, g_r29_3 hs, g_r29_4 hs, g_r29_5 hs, g_a30 hs, g_a31 hs, g_a32 hs, g_a33 hs, g_a34 hs, g_t35 hs, g_t36 hs, g_t37 hs, g_t38 hs, g_t39 hs, g_t40 hs, g_t23 hs, g_r23_2 hs, g_a25 hs, h52, h53, h81, lw, lt, ix1, ic1, ix2, ic2, e25, hld i hi, hld j hj, nI_add]
def UK (w : x_W) (K : Nat) (f g : Nat → Int32) : x_W := x_sI (x_sI w 34 f) K g
theorem UK_o {K : Nat} {f g : Nat → Int32} {b : Nat} (h1 : b ≠ 34) (h2 : b ≠ K) : x_i (UK w K f g) b = x_i w b := by
  unfold UK
  rw [x_i_sIn _ _ _ h2, x_i_sIn _ _ _ h1]
theorem UK_UK {K : Nat} {f g f' g' : Nat → Int32} (h : 34 ≠ K) : UK (UK w K f g) K f' g' = UK w K f' g' := by
  unfold UK
  rw [x_sI_comm _ (Ne.symm h), x_sI_sI, x_sI_sI]
theorem UK_id {K : Nat} (h : 34 ≠ K) : UK w K (x_i w 34) (x_i w K) = w := by
  unfold UK
  rw [x_sI_id, x_sI_id]
/-- one pair of knots -/
theorem S57s {A0 A E K n e0 e k o M : Nat} {st l p : Nat → Nat} (hs : Sh w) (hd : Sd w) (hl : LawW w A0 A E K n) (hK : K = 13 ∨ 66 ≤ K) (hP : PartX w A E n 2 e0 e st) (hW : WfP st (e - e0)) (hld : ∀ k, k < 20 → x_i w 25 k = nI (l k)) (hp : ∀ k, k < 20 → x_i w 26 k = nI (p k) ∧ p k ≤ 999) (hk : k < 20) (ho : o ≤ k + 5) :
    ∃ f g, ∀ Q, X_R L xs (d + 3) 57 14 [.ref 22, .int (nI M), .int (nI k), .int (nI o)] [] w Q = X_R L xs (d + 3) 57 14 [.ref 22, .int (nI (M + tc (cbN (x_i w 24)) p (brF st (e - e0) l) k o)), .int (nI k), .int (nI (o + 1))] [] (UK w K f g) Q := by
  have lt := nI_ltF ho (show k + 5 < 2 ^ 31 by omega)
  have hkc := nI_cl (show k < 2 ^ 31 by omega)
  by_cases h20 : o < 20
  · have hc := fun (Q' : Option Value → x_W → Prop) => S88t (L := L) (xs := xs) (d := d + 2) (w := w) (Q := Q') hs (kn_nI hk) (kn_nI h20)
    rw [hkc] at hc
    rcases bv_cases (x_i w 24 k) (nI o) with hb | hb
    · have ht : tc (cbN (x_i w 24)) p (brF st (e - e0) l) k o = 0 := by
        unfold tc cbN
        rw [hb, if_neg (fun q => absurd q.2.1 (by decide))]
      refine ⟨x_i w 34, x_i w K, fun Q => ?_⟩
      rw [UK_id hl.1.2.2.2.2.2.2.2.2.2.2, ht, X57_14]
      simp only [X57_15, X57_16, X57_17, X57_18, X57_21, X57_22, X57_25, X57_26, X57_27, X57_30, X57_54, X57_57, Nat.zero_le, and_true, true_and, x_nb0, x_nb1, x_nbp, x_isL_int, x_isL_ref, x_isL_junk, x_isR_ref, x_cat_nil, x_cat_int, x_cat_ref, x_cat_long, Option.toList_some, Option.toList_none, List.cons_append, List.nil_append, Nat.reduceAdd, Nat.reduceLeDiff, Nat.reduceLT, t_tag_si, t_tag_sr, t_tag_sI, x_r_si, x_i_sr, t_r_sI, x_ia_si, x_ia_sI, x_ia_sr, x_ra_si, x_ra_sI, x_ra_sr, nI_add, lt, if_false, g_t22 hs, g_r22_0 hs, g_t23 hs, hc, hb, if_true, Nat.add_zero]
    · have hct : cbN (x_i w 24) k o = true := by
        unfold cbN
        rw [hb]
        rfl
      have hpl : plN (cbN (x_i w 24)) p k o = absD (p k) (p o) := if_pos hct
      have h93 := fun (Q' : Option Value → x_W → Prop) => S93 (L := L) (xs := xs) (d := d + 1) (Q := Q') hs hd hk h20 hp
      rw [hpl] at h93
      have h58 := fun (Q' : Option Value → x_W → Prop) => S58 (L := L) (xs := xs) (d := d) (Q := Q') hs hl hP hW hk h20 hld
      refine ⟨set6 (x_i w 34) (nI 0) (nI 0) (nI 0) (nI (l k + l o)) (nI k) (nI 0), stkN (set6 (x_i w 34) (nI 0) (nI 0) (nI 0) (nI (l k + l o)) (nI k) (nI 0)) st (upd (x_i w K) 0 (nI 0)) (e - e0), fun Q => ?_⟩
      have hWL : WL w K (set6 (x_i w 34) (nI 0) (nI 0) (nI 0) (nI (l k + l o)) (nI k) (nI 0)) st (e - e0) = UK w K (set6 (x_i w 34) (nI 0) (nI 0) (nI 0) (nI (l k + l o)) (nI k) (nI 0)) (stkN (set6 (x_i w 34) (nI 0) (nI 0) (nI 0) (nI (l k + l o)) (nI k) (nI 0)) st (upd (x_i w K) 0 (nI 0)) (e - e0)) := rfl
      rw [hWL] at h58
      by_cases hle : nI (absD (p k) (p o)) ≤ brF st (e - e0) l k o
      · have ht : tc (cbN (x_i w 24)) p (brF st (e - e0) l) k o = 0 := if_neg (fun q => q.2.2 hle)
        rw [ht, X57_14]
        simp only [X57_15, X57_16, X57_17, X57_18, X57_21, X57_22, X57_25, X57_26, X57_27, X57_30, X57_33, X57_34, X57_37, X57_38, X57_39, X57_42, X57_43, X57_44, X57_45, X57_48, X57_54, X57_57, Nat.zero_le, and_true, true_and, x_nb0, x_nb1, x_nbp, x_isL_int, x_isL_ref, x_isL_junk, x_isR_ref, x_cat_nil, x_cat_int, x_cat_ref, x_cat_long, Option.toList_some, Option.toList_none, List.cons_append, List.nil_append, Nat.reduceAdd, Nat.reduceLeDiff, Nat.reduceLT, t_tag_si, t_tag_sr, t_tag_sI, x_r_si, x_i_sr, t_r_sI, x_ia_si, x_ia_sI, x_ia_sr, x_ra_si, x_ra_sI, x_ra_sr, nI_add, lt, if_false, g_t22 hs, g_r22_0 hs, g_t23 hs, hc, hb, n10, h93, h58, hle, if_true, Nat.add_zero]
      · have ht : tc (cbN (x_i w 24)) p (brF st (e - e0) l) k o = 1 := if_pos ⟨h20, hct, hle⟩
        rw [ht, X57_14]
        simp only [X57_15, X57_16, X57_17, X57_18, X57_21, X57_22, X57_25, X57_26, X57_27, X57_30, X57_33, X57_34, X57_37, X57_38, X57_39, X57_42, X57_43, X57_44, X57_45, X57_48, X57_51, X57_54, X57_57, Nat.zero_le, and_true, true_and, x_nb0, x_nb1, x_nbp, x_isL_int, x_isL_ref, x_isL_junk, x_isR_ref, x_cat_nil, x_cat_int, x_cat_ref, x_cat_long, Option.toList_some, Option.toList_none, List.cons_append, List.nil_append, Nat.reduceAdd, Nat.reduceLeDiff, Nat.reduceLT, t_tag_si, t_tag_sr, t_tag_sI, x_r_si, x_i_sr, t_r_sI, x_ia_si, x_ia_sI, x_ia_sr, x_ra_si, x_ra_sI, x_ra_sr, nI_add, lt, if_false, g_t22 hs, g_r22_0 hs, g_t23 hs, hc, hb, n10, h93, h58, hle]
  · have ht : tc (cbN (x_i w 24)) p (brF st (e - e0) l) k o = 0 := if_neg (fun q => h20 q.1)
    have hno : ¬ (kn (nI k) ∧ kn (nI o)) := by
      intro q
      have := q.2.2
      rw [nI_leF (show 19 < o by omega) (show o < 2 ^ 31 by omega)] at this
      exact this
    have hc := fun (Q' : Option Value → x_W → Prop) => S88f (L := L) (xs := xs) (d := d + 2) (w := w) (Q := Q') hno
    refine ⟨x_i w 34, x_i w K, fun Q => ?_⟩
    rw [UK_id hl.1.2.2.2.2.2.2.2.2.2.2, ht, X57_14]
    simp only [X57_15, X57_16, X57_17, X57_18, X57_21, X57_22, X57_25, X57_26, X57_27, X57_30, X57_54, X57_57, Nat.zero_le, and_true, true_and, x_nb0, x_nb1, x_nbp, x_isL_int, x_isL_ref, x_isL_junk, x_isR_ref, x_cat_nil, x_cat_int, x_cat_ref, x_cat_long, Option.toList_some, Option.toList_none, List.cons_append, List.nil_append, Nat.reduceAdd, Nat.reduceLeDiff, Nat.reduceLT, t_tag_si, t_tag_sr, t_tag_sI, x_r_si, x_i_sr, t_r_sI, x_ia_si, x_ia_sI, x_ia_sr, x_ra_si, x_ra_sI, x_ra_sr, nI_add, lt, if_false, g_t22 hs, g_r22_0 hs, g_t23 hs, hc, if_true, Nat.add_zero]
end S59
