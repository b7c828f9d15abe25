/-! ===== the first text ===== -/
def tbL : List Nat := [102, 101, 108, 116, 32, 109, 111, 114, 101, 32, 42, 32, 52, 32, 43, 32, 56, 32, 45, 32, 102, 97, 114, 32, 42, 32, 51, 32, 59, 32, 115, 108, 111, 112, 101, 32, 50, 32, 59, 32, 98, 101, 97, 114, 115, 32, 54, 48, 32, 59]
def tb (k : Nat) : Nat := tbL.getD k 0
theorem tb_len : (x_sbyt ((1000 + 1 - 1000) / 2)).length = 50 := by decide +kernel
theorem tb_cls : ∀ k, k < 50 → chV ((x_sbyt ((1000 + 1 - 1000) / 2)).getD k 0) = nI (tb k) := by decide +kernel
theorem tb_le : ∀ k, k < 50 → tb k ≤ 255 := by decide +kernel
theorem sE0 : sE 1000 := by unfold sE; decide
theorem mrun_up {b : Nat → Nat} {n : Nat} : ∀ (k : Nat) (A : MSt) (r : Sum Nat (List Nat × Nat)), mrun b n k A = .inr r → mrun b n (k + 1) A = .inr r := by
  intro k
  induction k with
  | zero => intro A r h; exact absurd (show Sum.inl A = Sum.inr r from h) (by intro z; cases z)
  | succ k ih =>
    intro A r h
    cases hm : mst b n A with
    | inl B =>
      have h2 := ih B r (mrun_l hm h)
      unfold mrun
      rw [hm]
      exact h2
    | inr q =>
      have h2 := mrun_r hm h
      unfold mrun
      rw [hm, h2]
theorem mrun_dt {b : Nat → Nat} {n : Nat} {A : MSt} {r r' : Sum Nat (List Nat × Nat)} (h : Rch b n A (.inr r)) (h' : Rch b n A (.inr r')) : r = r' := by
  obtain ⟨k, hk⟩ := h
  obtain ⟨j, hj⟩ := h'
  have up : ∀ m k r, mrun b n k A = .inr r → mrun b n (k + m) A = .inr r := by
    intro m
    induction m with
    | zero => intro k r h; exact h
    | succ m ih => intro k r h; exact mrun_up _ _ _ (ih k r h)
  have h1 := up j k r hk
  have h2 := up k j r' hj
  rw [Nat.add_comm] at h2
  rw [h1] at h2
  exact Sum.inr.inj h2
def tbX0 : List Nat := [10001, 4, 20018, 8, 20016, 10002, 3, 20018, 20017]
theorem tb_p0 : tK tb 50 (tS tb 50 0) = 262 ∧ mrun tb 50 40 ([], [], tN tb 50 (tS tb 50 0), 2) = .inr (.inr (tbX0, 28)) ∧ tN tb 50 28 = 30 := by decide +kernel
theorem tb_p1 : tK tb 50 30 = 263 ∧ mrun tb 50 40 ([], [], tN tb 50 30, 2) = .inr (.inr ([2], 38)) ∧ tN tb 50 38 = 40 := by decide +kernel
theorem tb_p2 : tK tb 50 40 = 264 ∧ mrun tb 50 40 ([], [], tN tb 50 40, 2) = .inr (.inr ([60], 49)) ∧ tN tb 50 49 = 50 := by decide +kernel
theorem tb_e : tK tb 50 50 = 301 := by decide +kernel
theorem prt_no {p s f s1 : Nat} {l : List Nat} (h1 : tK tb 50 s = 262 + p) (h2 : mrun tb 50 40 ([], [], tN tb 50 s, 2) = .inr (.inr (l, s1))) : ¬ PrtF tb 50 p s f := by
  rintro (⟨h, _⟩ | ⟨_, h⟩)
  · exact h h1
  · have := mrun_dt (h []) ⟨40, h2⟩
    cases this
theorem prt_s {p s s1 s2 s2' : Nat} {l x : List Nat} (h2 : mrun tb 50 40 ([], [], tN tb 50 s, 2) = .inr (.inr (l, s1))) (h3 : tN tb 50 s1 = s2') (hP : Prt tb 50 p s s2 x) : s2 = s2' := by
  obtain ⟨_, _, q, _, _, hs, hR⟩ := hP
  have h := mrun_dt (hR []) ⟨40, h2⟩
  injection h with h
  injection h with _ h
  rw [hs, h, h3]
theorem noF (f : Nat) : ¬ TxF tb 50 f := by
  rintro (h | ⟨s1, x0, h0, h⟩)
  · exact prt_no tb_p0.1 tb_p0.2.1 h
  · have e1 := prt_s tb_p0.2.1 tb_p0.2.2 h0
    subst e1
    rcases h with h | ⟨s2, x1, h1, h⟩
    · exact prt_no tb_p1.1 tb_p1.2.1 h
    · have e2 := prt_s tb_p1.2.1 tb_p1.2.2 h1
      subst e2
      rcases h with h | ⟨s3, x2, h2, _, h3, _⟩
      · exact prt_no tb_p2.1 tb_p2.2.1 h
      · have e3 := prt_s tb_p2.2.1 tb_p2.2.2 h2
        subst e3
        exact h3 tb_e
/-! ===== the class is made ===== -/
def wA (w : x_W) : x_W := x_sr (x_si (x_sr (x_new (x_si (x_sr (x_new (x_si (x_si (x_new (x_sr (x_new (x_si (x_si (x_sr (x_new (x_sr (x_sr (x_new (x_si (x_sr (x_new (x_si (x_sr (x_new (x_new w (0, 6) (fun _ => 0)) (1, 160) (fun _ => 0)) 1 0 (.ref 2)) 1 1 (nI 0)) (1, 160) (fun _ => 0)) 1 2 (.ref 3)) 1 3 (nI 0)) (1, 3) (fun _ => 0)) 1 4 (.ref 4)) 0 0 (.ref 1)) (2, 6) (fun _ => 0)) 0 1 (.ref 5)) 0 2 (nI 1)) 0 3 (nI 0)) (3, 4) (fun _ => 0)) 0 6 (.ref 6)) (0, 1) (fun _ => 0)) 7 0 (nI 0)) 7 1 (nI 0)) (1, 20) (fun _ => 0)) 7 2 (.ref 8)) 7 3 (nI 0)) (1, 6) (fun _ => 0)) 7 4 (.ref 9)) 7 5 (nI 0)) 0 7 (.ref 7)
def wNt (w : x_W) : x_W := x_si (x_sr (x_new (x_sr (x_new (x_sr (x_new (x_sr (x_new (x_si (x_sr (x_new w (1, 20) (fun _ => 0)) 23 0 (.ref 24)) 23 1 (nI 557073)) (1, 20) (fun _ => 0)) 23 2 (.ref 25)) (1, 20) (fun _ => 0)) 23 3 (.ref 26)) (1, 20) (fun _ => 0)) 23 4 (.ref 27)) (1, 400) (fun _ => 0)) 23 5 (.ref 28)) 23 6 (nI 0)
def wCr (w : x_W) : x_W := x_sr (x_sr (x_new (x_sr (x_new (x_sr (x_new (x_sr (x_new (x_si (x_sr (x_new (x_sr (x_new (x_sr w 22 0 (.ref 23)) (4, 6) (fun _ => 0)) 22 2 (.ref 29)) (1, 6) (fun _ => 0)) 22 3 (.ref 30)) 22 4 (nI 0)) (1, 6) (fun _ => 0)) 22 5 (.ref 31)) (1, 6) (fun _ => 0)) 22 6 (.ref 32)) (1, 6) (fun _ => 0)) 22 7 (.ref 33)) (1, 6) (fun _ => 0)) 22 8 (.ref 34)) 22 1 (.ref 10)
theorem e00 : (nI 0 = 0 ∨ nI 0 = 1) = True := by simp only [eq_iff_iff, iff_true]; exact Or.inl rfl
section S9999934
variable {L : Nat} {xs : Nat → Int32} {d : Nat} {w : x_W} {Q : Option Value → x_W → Prop}
theorem S1a (hl : w.1.length = 1) (t0 : x_tag w 0 = some (0, 7)) : X_R L xs (d + 1) 1 0 [.ref 0, x_junk, x_junk] [] w Q = X_R L xs (d + 1) 1 55 [.ref 0, .int (nI 0), x_junk] [] (wA w) Q := by
  unfold wA
  simp only [X1_0, X1_1, X1_4, X1_5, X1_8i, X1_8, X1_9, X1_12, X1_15, X1_16, X1_18, X1_21, X1_24, X1_25, X1_26, X1_29, X1_30, X1_31, X1_34, X1_35, X1_36, X1_39, X1_42, X1_43, X1_46i, X1_46, X1_47, X1_50, X1_53, X1_54, X111_0, X111_1, X111_4, X111_5, X111_8, X111_10, X111_13, X111_14, X111_15, X111_18, X111_19, X111_22, X111_24, X111_27, X111_28, X111_29, X111_32, X111_33, X111_34, X111_36, X111_39, X75_0, X75_1, X75_4, X75_5, X75_6, X75_9, X75_10, X75_11, X75_14, X75_15, X75_17, X75_19, X75_22, X75_23, X75_24, X75_27, X75_28, X75_30, X75_32, X75_35, X75_36, X75_37, X75_40, Nat.zero_le, and_true, true_and, x_nb0, x_nb1, x_nbp, x_isL_int, x_isL_ref, x_isL_junk, x_isR_ref, x_cat_nil, x_cat_int, x_cat_ref, x_cat_long, Option.toList_some, Option.toList_none, List.cons_append, List.nil_append, Nat.reduceAdd, Nat.reduceLeDiff, Nat.reduceLT, t_tag_si, t_tag_sr, t_tag_sI, x_r_si, x_i_sr, t_r_sI, x_ia_si, x_ia_sI, x_ia_sr, x_ra_si, x_ra_sI, x_ra_sr, nw_len, len_si, len_sr, len_sI, tg_new, xr_new, xr_sr, xi_new, xi_si, nI_cl, lD, ltD, nI_n0, Nat.reduceEqDiff, Nat.reducePow, if_true, if_false, and_false, false_and, and_self, or_false, false_or, not_false_eq_true, not_true_eq_false, ne_eq, hl, t0, e00]
theorem S85a (hl : w.1.length = 24) (t23 : x_tag w 23 = some (0, 3)) : X_R L xs d 85 0 [.ref 23, x_junk, x_junk] [] w Q = X_R L xs d 85 58 [.ref 23, .int (nI 0), x_junk] [] (wNt w) Q := by
  unfold wNt
  simp only [X85_0, X85_1, X85_4, X85_5, X85_7, X85_9, X85_12, X85_13, X85_15, X85_18, X85_19, X85_21, X85_23, X85_26, X85_27, X85_29, X85_31, X85_34, X85_35, X85_37, X85_39, X85_42, X85_43, X85_46, X85_48, X85_51, X85_52, X85_53, X85_56, X85_57, Nat.zero_le, and_true, true_and, x_nb0, x_nb1, x_nbp, x_isL_int, x_isL_ref, x_isL_junk, x_isR_ref, x_cat_nil, x_cat_int, x_cat_ref, x_cat_long, Option.toList_some, Option.toList_none, List.cons_append, List.nil_append, Nat.reduceAdd, Nat.reduceLeDiff, Nat.reduceLT, t_tag_si, t_tag_sr, t_tag_sI, x_r_si, x_i_sr, t_r_sI, x_ia_si, x_ia_sI, x_ia_sr, x_ra_si, x_ra_sI, x_ra_sr, nw_len, len_si, len_sr, len_sI, tg_new, xr_new, xr_sr, xi_new, xi_si, nI_cl, lD, ltD, nI_n0, Nat.reduceEqDiff, Nat.reducePow, if_true, if_false, and_false, false_and, and_self, or_false, false_or, not_false_eq_true, not_true_eq_false, ne_eq, hl, t23, e00]
theorem S51c (hl : w.1.length = 29) (t22 : x_tag w 22 = some (0, 0)) : X_R L xs d 51 12 [.ref 22, .ref 10, x_junk] [.ref 23, .ref 22] w Q = X_R L xs d 51 76 [.ref 22, .ref 10, .int (nI 0)] [] (wCr w) Q := by
  unfold wCr
  simp only [X51_12, X51_15, X51_16, X51_18, X51_21, X51_24, X51_25, X51_27, X51_29, X51_32, X51_33, X51_34, X51_37, X51_38, X51_40, X51_42, X51_45, X51_46, X51_48, X51_50, X51_53, X51_54, X51_56, X51_58, X51_61, X51_62, X51_64, X51_66, X51_69, X51_70, X51_71, X51_74, X51_75, Nat.zero_le, and_true, true_and, x_nb0, x_nb1, x_nbp, x_isL_int, x_isL_ref, x_isL_junk, x_isR_ref, x_cat_nil, x_cat_int, x_cat_ref, x_cat_long, Option.toList_some, Option.toList_none, List.cons_append, List.nil_append, Nat.reduceAdd, Nat.reduceLeDiff, Nat.reduceLT, t_tag_si, t_tag_sr, t_tag_sI, x_r_si, x_i_sr, t_r_sI, x_ia_si, x_ia_sI, x_ia_sr, x_ra_si, x_ra_sI, x_ra_sr, nw_len, len_si, len_sr, len_sI, tg_new, xr_new, xr_sr, xi_new, xi_si, nI_cl, lD, ltD, nI_n0, Nat.reduceEqDiff, Nat.reducePow, if_true, if_false, and_false, false_and, and_self, or_false, false_or, not_false_eq_true, not_true_eq_false, ne_eq, hl, t22]
theorem S112w (hs : ShT w) {t : Nat} (ht : x_i w 1 1 = nI t) (h160 : t < 160) {v : Int32} : X_R L xs d 112 0 [.ref 1, .int v] [] w Q = Q none (x_si (x_si w 2 t v) 1 1 (nI (t + 1))) := by
  have tx := x_ix_nI h160 (show 160 < 2 ^ 31 by decide)
  have tc := nI_cl (show t < 2 ^ 31 by omega)
  have e11 : x_i (x_si w 2 t v) 1 1 = nI t := by rw [x_i_sin _ _ _ _ (by decide)]; exact ht
  simp only [X112_0, X112_1, X112_4, X112_7, X112_10, X112_11, X112_14, X112_15, X112_18, X112_19, X112_20, X112_21i, X112_21, X112_22, X112_25, X112_26, X112_27, X112_30, Nat.zero_le, and_true, true_and, x_nb0, x_nb1, x_nbp, x_isL_int, x_isL_ref, x_isL_junk, x_isR_ref, x_cat_nil, x_cat_int, x_cat_ref, x_cat_long, Option.toList_some, Option.toList_none, List.cons_append, List.nil_append, Nat.reduceAdd, Nat.reduceLeDiff, Nat.reduceLT, t_tag_si, t_tag_sr, t_tag_sI, x_r_si, x_i_sr, t_r_sI, x_ia_si, x_ia_sI, x_ia_sr, x_ra_si, x_ra_sI, x_ra_sr, k_t1 hs, k_r1_0 hs, k_a2 hs, ht, nI_leF h160 (show 160 < 2 ^ 31 by decide), if_false, tx, tc, e11, nI_add]
theorem S1b (hs : ShT w) (t0 : x_tag w 0 = some (0, 7)) (r00 : x_r w 0 0 = .ref 1) : ∀ n j, j + n = 50 → ∀ w1, Ch (gp [2] [(1, 1)]) w w1 → x_i w1 1 1 = nI j → (∀ k, k < j → x_i w1 2 k = nI (tb k)) → ∃ w2, Ch (gp [2] [(1, 1)]) w w2 ∧ x_i w2 1 1 = nI 50 ∧ (∀ k, k < 50 → x_i w2 2 k = nI (tb k)) ∧ ∀ Q, X_R L xs (d + 4) 1 55 [.ref 0, .int (nI j), x_junk] [] w1 Q = X_R L xs (d + 4) 1 83 [.ref 0, .int (nI 50), x_junk] [] w2 Q := by
  intro n
  induction n with
  | zero =>
    intro j hj w1 c1 h11 hk
    obtain rfl : j = 50 := by omega
    have e232 := fun (Q' : Option Value → x_W → Prop) => S232 (L := L) (xs := xs) (d := d + 2) (w := w1) (Q := Q') sE0 tb_len
    refine ⟨w1, c1, h11, hk, fun Q => ?_⟩
    rw [X1_55]
    simp only [X1_56, X1_58 sE0, X1_61, Nat.zero_le, and_true, true_and, x_nb0, x_nb1, x_nbp, x_isL_int, x_isL_ref, x_isL_junk, x_isR_ref, x_cat_nil, x_cat_int, x_cat_ref, x_cat_long, Option.toList_some, Option.toList_none, List.cons_append, List.nil_append, Nat.reduceAdd, Nat.reduceLeDiff, Nat.reduceLT, t_tag_si, t_tag_sr, t_tag_sI, x_r_si, x_i_sr, t_r_sI, x_ia_si, x_ia_sI, x_ia_sr, x_ra_si, x_ra_sI, x_ra_sr, e232, nI_leT (Nat.le_refl 50) (show 50 < 2 ^ 31 by decide), if_true]
  | succ n ih =>
    intro j hj w1 c1 h11 hk
    have hs1 := c1.shT hs
    have t01 : x_tag w1 0 = some (0, 7) := (c1.t 0).trans t0
    have r01 : x_r w1 0 0 = .ref 1 := by rw [c1.r]; exact r00
    have hc := tb_cls j (by omega)
    have hle := tb_le j (by omega)
    have e232 := fun (Q' : Option Value → x_W → Prop) => S232 (L := L) (xs := xs) (d := d + 2) (w := w1) (Q := Q') sE0 tb_len
    have e234 := fun (Q' : Option Value → x_W → Prop) => S234 (L := L) (xs := xs) (d := d) (w := w1) (Q := Q') sE0 tb_len (by decide) (show j < 50 by omega) (by rw [hc]; exact nchar _ (by omega))
    rw [hc] at e234
    have e112 := fun (Q' : Option Value → x_W → Prop) => S112w (L := L) (xs := xs) (d := d + 3) (w := w1) (Q := Q') hs1 h11 (show j < 160 by omega) (v := nI (tb j))
    have c2 : Ch (gp [2] [(1, 1)]) w1 (x_si (x_si w1 2 j (nI (tb j))) 1 1 (nI (j + 1))) := (Ch_si rfl).trans (Ch_si rfl)
    obtain ⟨w2, c3, h3, hk3, e3⟩ := ih (j + 1) (by omega) _ (c1.trans c2) si_s (fun k hk2 => by
      rw [x_i_sin _ _ _ _ (by decide)]
      by_cases z : k = j
      · rw [z, si_s]
      · rw [si_o z]; exact hk k (by omega))
    refine ⟨w2, c3, h3, hk3, fun Q => ?_⟩
    rw [← e3 Q, X1_55]
    simp only [X1_56, X1_58 sE0, X1_61, X1_64, X1_65, X1_68, X1_70, X1_71 sE0, X1_74, X1_77, X1_80, Nat.zero_le, and_true, true_and, x_nb0, x_nb1, x_nbp, x_isL_int, x_isL_ref, x_isL_junk, x_isR_ref, x_cat_nil, x_cat_int, x_cat_ref, x_cat_long, Option.toList_some, Option.toList_none, List.cons_append, List.nil_append, Nat.reduceAdd, Nat.reduceLeDiff, Nat.reduceLT, t_tag_si, t_tag_sr, t_tag_sI, x_r_si, x_i_sr, t_r_sI, x_ia_si, x_ia_sI, x_ia_sr, x_ra_si, x_ra_sI, x_ra_sr, e232, nI_leF (show j < 50 by omega) (show 50 < 2 ^ 31 by decide), if_false, t01, r01, e234, k_t1 hs1, e112, nI_add]
end S9999934
