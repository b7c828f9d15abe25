/-! ===== the class's reader: the three parts of a text ===== -/
def Prt (b : Nat → Nat) (n p s s2 : Nat) (ext : List Nat) : Prop := tK b n s = 262 + p ∧ (∀ h, wfL ext h (h + 1)) ∧ ∃ s1, s1 ≤ n ∧ tK b n s1 = 59 ∧ s2 = tN b n s1 ∧ ∀ om, Rch b n ([], om, tN b n s, 2) (.inr (.inr (om ++ ext, s1)))
def PrtF (b : Nat → Nat) (n p s f : Nat) : Prop := (tK b n s ≠ 262 + p ∧ f = s) ∨ (tK b n s = 262 + p ∧ ∀ om, Rch b n ([], om, tN b n s, 2) (.inr (.inl f)))
def pR : Nat → Nat → Bool := gp [3, 4] [(1, 3), (1, 5), (1, 6), (1, 7), (1, 8), (1, 9), (1, 10)]
section S9997
variable {L : Nat} {xs : Nat → Int32} {b : Nat → Nat} {n s f p : Nat} {d' : Nat} {w : x_W} {out : List Nat}
theorem PF.ends (h : PF w f) {k : Nat} {v : Int32} : PF (x_si w 4 k v) f := by
  obtain ⟨h5, h10, hf, c, hc, h3⟩ := h
  have e := x_i_sin w 4 k v (show 1 ≠ 4 by decide)
  exact ⟨by rw [e]; exact h5, by rw [e]; exact h10, hf, c, hc, by rw [e]; exact h3⟩
theorem POK.ends {o : Nat} (h : POK w b n s o out) {k : Nat} {v : Int32} : POK (x_si w 4 k v) b n s o out := by
  have e := x_i_sin w 4 k v (show 1 ≠ 4 by decide)
  have e3 := x_i_sin w 4 k v (show 3 ≠ 4 by decide)
  unfold POK AtT at *
  rw [e, e3]
  exact h
/-- what a part's way of choosing its word needs of p -/
theorem p3 (hp : p < 3) : p = 0 ∨ p = 1 ∨ p = 2 := by omega
theorem S113F (hs : ShT w) (h : PF w f) (hp : p < 3) : ∃ w2, Ch pR w w2 ∧ PF w2 f ∧ ∀ Q, X_R L xs (d' + 48) 113 26 [.ref 1, .int (nI p)] [] w Q = X_R L xs (d' + 48) 113 26 [.ref 1, .int (nI (p + 1))] [] w2 Q := by
  obtain ⟨w1, c1, h1, e1⟩ := S122F (L := L) (xs := xs) (d := d' + 46) (t := 262 + p) hs h (by omega) (by omega)
  have hs1 := c1.shT hs
  obtain ⟨w2, c2, h2, e2⟩ := F124 (L := L) (xs := xs) (d := d' + 41) w1 f hs1 h1
  have hs2 := c2.shT hs1
  obtain ⟨w3, c3, h3, e3⟩ := S122F (L := L) (xs := xs) (d := d' + 46) (t := 59) hs2 h2 (by decide) (by decide)
  have hs3 := c3.shT hs2
  have tx := x_ix_nI hp (show 3 < 2 ^ 31 by decide)
  have tc := nI_cl (show p < 2 ^ 31 by omega)
  refine ⟨x_si w3 4 p (x_i w3 1 3), (gp_up ((c1.trans c2).trans c3) rfl rfl : Ch pR w w3).trans (Ch_si rfl), h3.ends, fun Q => ?_⟩
  rw [X113_26]
  rcases p3 hp with rfl | rfl | rfl
  · simp only [X113_27, X113_28, X113_31, X113_32, X113_33, X113_36, X113_39, X113_56, X113_59, X113_60, X113_63, X113_64, X113_66, X113_69, X113_70, X113_73, X113_74, X113_75, X113_78, X113_79, X113_82, Nat.zero_le, and_true, true_and, x_nb0, x_nb1, x_nbp, x_isL_int, x_isL_ref, x_isL_junk, x_isR_ref, x_cat_nil, x_cat_int, x_cat_ref, x_cat_long, Option.toList_some, Option.toList_none, List.cons_append, List.nil_append, Nat.reduceAdd, Nat.reduceLeDiff, Nat.reduceLT, t_tag_si, t_tag_sr, t_tag_sI, x_r_si, x_i_sr, t_r_sI, x_ia_si, x_ia_sI, x_ia_sr, x_ra_si, x_ra_sI, x_ra_sr, nI_leF (show 0 < 3 by decide) (by decide), k_t1 hs, if_false, if_true, e1, k_t1 hs1, e2, k_t1 hs2, e3, k_t1 hs3, k_r1_4 hs3, k_a4 hs3, tx, tc, nI_add]
  · simp only [X113_27, X113_28, X113_31, X113_32, X113_33, X113_42, X113_43, X113_44, X113_47, X113_50, X113_56, X113_59, X113_60, X113_63, X113_64, X113_66, X113_69, X113_70, X113_73, X113_74, X113_75, X113_78, X113_79, X113_82, Nat.zero_le, and_true, true_and, x_nb0, x_nb1, x_nbp, x_isL_int, x_isL_ref, x_isL_junk, x_isR_ref, x_cat_nil, x_cat_int, x_cat_ref, x_cat_long, Option.toList_some, Option.toList_none, List.cons_append, List.nil_append, Nat.reduceAdd, Nat.reduceLeDiff, Nat.reduceLT, t_tag_si, t_tag_sr, t_tag_sI, x_r_si, x_i_sr, t_r_sI, x_ia_si, x_ia_sI, x_ia_sr, x_ra_si, x_ra_sI, x_ra_sr, nI_leF (show 1 < 3 by decide) (by decide), n10, k_t1 hs, if_false, if_true, e1, k_t1 hs1, e2, k_t1 hs2, e3, k_t1 hs3, k_r1_4 hs3, k_a4 hs3, tx, tc, nI_add]
  · simp only [X113_27, X113_28, X113_31, X113_32, X113_33, X113_42, X113_43, X113_44, X113_53, X113_56, X113_59, X113_60, X113_63, X113_64, X113_66, X113_69, X113_70, X113_73, X113_74, X113_75, X113_78, X113_79, X113_82, Nat.zero_le, and_true, true_and, x_nb0, x_nb1, x_nbp, x_isL_int, x_isL_ref, x_isL_junk, x_isR_ref, x_cat_nil, x_cat_int, x_cat_ref, x_cat_long, Option.toList_some, Option.toList_none, List.cons_append, List.nil_append, Nat.reduceAdd, Nat.reduceLeDiff, Nat.reduceLT, t_tag_si, t_tag_sr, t_tag_sI, x_r_si, x_i_sr, t_r_sI, x_ia_si, x_ia_sI, x_ia_sr, x_ra_si, x_ra_sI, x_ra_sr, nI_leF (show 2 < 3 by decide) (by decide), nI_eqF (show 2 ≠ 0 by decide) (by decide) (by decide), nI_eqF (show 2 ≠ 1 by decide) (by decide) (by decide), k_t1 hs, if_false, if_true, e1, k_t1 hs1, e2, k_t1 hs2, e3, k_t1 hs3, k_r1_4 hs3, k_a4 hs3, tx, tc, nI_add]
theorem S113p (hs : ShT w) (hT : TPx w b n) (h : POK w b n s 0 out) (hp : p < 3) : ∃ w2, Ch pR w w2 ∧ ((∃ f, PF w2 f ∧ PrtF b n p s f) ∨ ∃ s2 ext, POK w2 b n s2 0 (out ++ ext) ∧ x_i w2 4 p = nI (out ++ ext).length ∧ (∀ k, k ≠ p → x_i w2 4 k = x_i w 4 k) ∧ Prt b n p s s2 ext) ∧ ∀ Q, X_R L xs (d' + 48) 113 26 [.ref 1, .int (nI p)] [] w Q = X_R L xs (d' + 48) 113 26 [.ref 1, .int (nI (p + 1))] [] w2 Q := by
  have tx := x_ix_nI hp (show 3 < 2 ^ 31 by decide)
  have tc := nI_cl (show p < 2 ^ 31 by omega)
  obtain ⟨w1, c1, h1, e1⟩ := S122 (L := L) (xs := xs) (d := d' + 40) (t := 262 + p) hs hT h (by omega) (by omega)
  have hs1 := c1.shT hs
  have hT1 := hT.ch c1 rfl (fun _ => rfl)
  have rows : ∀ w2 w3, ShT w2 → ShT w3 → (∀ Q, X_R L xs (d' + 47) 124 0 [.ref 1, x_junk] [] w1 Q = Q none w2) → (∀ Q, X_R L xs (d' + 47) 122 0 [.ref 1, .int (nI 59)] [] w2 Q = Q none w3) → ∀ Q, X_R L xs (d' + 48) 113 26 [.ref 1, .int (nI p)] [] w Q = X_R L xs (d' + 48) 113 26 [.ref 1, .int (nI (p + 1))] [] (x_si w3 4 p (x_i w3 1 3)) Q := by
    intro w2 w3 hs2 hs3 e2 e3 Q
    rw [X113_26]
    rcases p3 hp with rfl | rfl | rfl
    · simp only [X113_27, X113_28, X113_31, X113_32, X113_33, X113_36, X113_39, X113_56, X113_59, X113_60, X113_63, X113_64, X113_66, X113_69, X113_70, X113_73, X113_74, X113_75, X113_78, X113_79, X113_82, Nat.zero_le, and_true, true_and, x_nb0, x_nb1, x_nbp, x_isL_int, x_isL_ref, x_isL_junk, x_isR_ref, x_cat_nil, x_cat_int, x_cat_ref, x_cat_long, Option.toList_some, Option.toList_none, List.cons_append, List.nil_append, Nat.reduceAdd, Nat.reduceLeDiff, Nat.reduceLT, t_tag_si, t_tag_sr, t_tag_sI, x_r_si, x_i_sr, t_r_sI, x_ia_si, x_ia_sI, x_ia_sr, x_ra_si, x_ra_sI, x_ra_sr, nI_leF (show 0 < 3 by decide) (by decide), k_t1 hs, if_false, if_true, e1, k_t1 hs1, e2, k_t1 hs2, e3, k_t1 hs3, k_r1_4 hs3, k_a4 hs3, tx, tc, nI_add]
    · simp only [X113_27, X113_28, X113_31, X113_32, X113_33, X113_42, X113_43, X113_44, X113_47, X113_50, X113_56, X113_59, X113_60, X113_63, X113_64, X113_66, X113_69, X113_70, X113_73, X113_74, X113_75, X113_78, X113_79, X113_82, Nat.zero_le, and_true, true_and, x_nb0, x_nb1, x_nbp, x_isL_int, x_isL_ref, x_isL_junk, x_isR_ref, x_cat_nil, x_cat_int, x_cat_ref, x_cat_long, Option.toList_some, Option.toList_none, List.cons_append, List.nil_append, Nat.reduceAdd, Nat.reduceLeDiff, Nat.reduceLT, t_tag_si, t_tag_sr, t_tag_sI, x_r_si, x_i_sr, t_r_sI, x_ia_si, x_ia_sI, x_ia_sr, x_ra_si, x_ra_sI, x_ra_sr, nI_leF (show 1 < 3 by decide) (by decide), n10, k_t1 hs, if_false, if_true, e1, k_t1 hs1, e2, k_t1 hs2, e3, k_t1 hs3, k_r1_4 hs3, k_a4 hs3, tx, tc, nI_add]
    · simp only [X113_27, X113_28, X113_31, X113_32, X113_33, X113_42, X113_43, X113_44, X113_53, X113_56, X113_59, X113_60, X113_63, X113_64, X113_66, X113_69, X113_70, X113_73, X113_74, X113_75, X113_78, X113_79, X113_82, Nat.zero_le, and_true, true_and, x_nb0, x_nb1, x_nbp, x_isL_int, x_isL_ref, x_isL_junk, x_isR_ref, x_cat_nil, x_cat_int, x_cat_ref, x_cat_long, Option.toList_some, Option.toList_none, List.cons_append, List.nil_append, Nat.reduceAdd, Nat.reduceLeDiff, Nat.reduceLT, t_tag_si, t_tag_sr, t_tag_sI, x_r_si, x_i_sr, t_r_sI, x_ia_si, x_ia_sI, x_ia_sr, x_ra_si, x_ra_sI, x_ra_sr, nI_leF (show 2 < 3 by decide) (by decide), nI_eqF (show 2 ≠ 0 by decide) (by decide) (by decide), nI_eqF (show 2 ≠ 1 by decide) (by decide) (by decide), k_t1 hs, if_false, if_true, e1, k_t1 hs1, e2, k_t1 hs2, e3, k_t1 hs3, k_r1_4 hs3, k_a4 hs3, tx, tc, nI_add]
  by_cases kp : tK b n s = 262 + p
  · rw [if_pos kp] at h1
    obtain ⟨w2, c2, e2, hr⟩ := S124 L xs b n (tN b n s) (d' + 47) 0 out w1 (by omega) hs1 hT1 h1
    have hs2 := c2.shT hs1
    have hT2 := hT1.ch c2 rfl (fun _ => rfl)
    rcases hr with ⟨f, hf, hm⟩ | ⟨s1, ext, hq, hss, hex, hwf, he, hm⟩
    · obtain ⟨w3, c3, h3, e3⟩ := S122F (L := L) (xs := xs) (d := d' + 46) (t := 59) hs2 hf (by decide) (by decide)
      exact ⟨x_si w3 4 p (x_i w3 1 3), (gp_up ((c1.trans c2).trans c3) rfl rfl : Ch pR w w3).trans (Ch_si rfl), Or.inl ⟨f, h3.ends, Or.inr ⟨kp, fun om => hm [] om 2 rfl (by decide) rfl⟩⟩, rows w2 w3 hs2 (c3.shT hs2) e2 e3⟩
    · obtain ⟨w3, c3, h3, e3⟩ := S122 (L := L) (xs := xs) (d := d' + 40) (t := 59) hs2 hT2 hq (by decide) (by decide)
      have hmm : ∀ om, ∃ om' pend, unw 1 (pend ++ []) om' = ([], om ++ ext) ∧ Lds b n ([], om, tN b n s, 2) (pend ++ [], om', s1, 0) ∧ (rk (sgO (tK b n s1)) = 4 → Rch b n (pend ++ [], om', s1, 0) (.inr (.inl s1))) := by
        intro om
        obtain ⟨pend, om', q1, q2, q3, q4⟩ := hm [] om 2 rfl (by decide) rfl
        exact ⟨om', pend, by rw [unw_app (show hdR [] < 1 by decide) pend om' q1, q2], q3, q4 (by decide)⟩
      refine ⟨x_si w3 4 p (x_i w3 1 3), (gp_up ((c1.trans c2).trans c3) rfl rfl : Ch pR w w3).trans (Ch_si rfl), ?_, rows w2 w3 hs2 (c3.shT hs2) e2 e3⟩
      by_cases k59 : tK b n s1 = 59
      · rw [if_pos k59] at h3
        refine Or.inr ⟨tN b n s1, ext, h3.ends, ?_, fun k hk => ?_, kp, hwf, s1, hq.s_le, k59, rfl, fun om => ?_⟩
        · rw [si_s]; exact h3.2.2.2.1
        · rw [si_o hk, c3.i (fun _ => rfl : ∀ k, pP 4 k = false), c2.i (fun _ => rfl : ∀ k, pP 4 k = false), c1.i (fun _ => rfl : ∀ k, pP 4 k = false)]
        · obtain ⟨om', pend, q1, q3, _⟩ := hmm om
          exact q3 _ (Rch_e (by rw [mst_end k59 q1, if_pos rfl]))
      · rw [if_neg k59] at h3
        refine Or.inl ⟨s1, h3.ends, Or.inr ⟨kp, fun om => ?_⟩⟩
        obtain ⟨om', pend, q1, q3, q4⟩ := hmm om
        apply q3
        by_cases k41 : tK b n s1 = 41
        · exact Rch_e (by rw [mst_shut k41 q1]; rfl)
        · by_cases k0 : sgO (tK b n s1) = 0
          · exact Rch_e (mst_nop k59 k41 k0)
          · rcases he with z | z | ⟨_, z⟩
            · exact absurd z k0
            · exact absurd z (Nat.not_lt.mpr (sgO_rk k0))
            · exact q4 z
  · rw [if_neg kp] at h1
    obtain ⟨w2, c2, h2, e2⟩ := F124 (L := L) (xs := xs) (d := d' + 41) w1 s hs1 h1
    have hs2 := c2.shT hs1
    obtain ⟨w3, c3, h3, e3⟩ := S122F (L := L) (xs := xs) (d := d' + 46) (t := 59) hs2 h2 (by decide) (by decide)
    exact ⟨x_si w3 4 p (x_i w3 1 3), (gp_up ((c1.trans c2).trans c3) rfl rfl : Ch pR w w3).trans (Ch_si rfl), Or.inl ⟨s, h3.ends, Or.inl ⟨kp, rfl⟩⟩, rows w2 w3 hs2 (c3.shT hs2) e2 e3⟩
end S9997
