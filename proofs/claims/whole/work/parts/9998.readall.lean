/-! ===== the class's read ===== -/
def TxO (b : Nat → Nat) (n : Nat) (x0 x1 x2 : List Nat) : Prop := ∃ s1 s2 s3, Prt b n 0 (tS b n 0) s1 x0 ∧ Prt b n 1 s1 s2 x1 ∧ Prt b n 2 s2 s3 x2 ∧ s3 ≤ n ∧ tK b n s3 = 301
def TxF (b : Nat → Nat) (n f : Nat) : Prop := PrtF b n 0 (tS b n 0) f ∨ ∃ s1 x0, Prt b n 0 (tS b n 0) s1 x0 ∧ (PrtF b n 1 s1 f ∨ ∃ s2 x1, Prt b n 1 s1 s2 x1 ∧ (PrtF b n 2 s2 f ∨ ∃ s3 x2, Prt b n 2 s2 s3 x2 ∧ s3 ≤ n ∧ tK b n s3 ≠ 301 ∧ f = s3))
section S9998
variable {L : Nat} {xs : Nat → Int32} {b : Nat → Nat} {n : Nat} {d' : Nat} {w : x_W}
theorem S113e (hs : ShT w) {f : Nat} (h : PF w f) : ∃ w2, Ch pR w w2 ∧ ∀ Q, X_R L xs (d' + 48) 113 26 [.ref 1, .int (nI 3)] [] w Q = Q (some (.int (nI f))) w2 := by
  obtain ⟨w2, c2, h2, e2⟩ := S123F (L := L) (xs := xs) (d := d' + 47) hs h
  refine ⟨w2, gp_up c2 rfl rfl, fun Q => ?_⟩
  have hs2 := c2.shT hs
  rw [X113_26]
  simp only [X113_27, X113_28, X113_85, X113_86, X113_89, X113_92, X113_95, X113_96, X113_99, X113_100, X113_103, Nat.zero_le, and_true, true_and, x_nb0, x_nb1, x_nbp, x_isL_int, x_isL_ref, x_isL_junk, x_isR_ref, x_cat_nil, x_cat_int, x_cat_ref, x_cat_long, Option.toList_some, Option.toList_none, List.cons_append, List.nil_append, Nat.reduceAdd, Nat.reduceLeDiff, Nat.reduceLT, t_tag_si, t_tag_sr, t_tag_sI, x_r_si, x_i_sr, t_r_sI, x_ia_si, x_ia_sI, x_ia_sr, x_ra_si, x_ra_sI, x_ra_sr, nI_leT (Nat.le_refl 3) (show 3 < 2 ^ 31 by decide), if_true, k_t1 hs, h.1, nI_eqF (show 302 ≠ 301 by decide) (by decide) (by decide), if_false, e2, k_t1 hs2, h2.2.1]
theorem S113 (hs : ShT w) (hT : TPx w b n) : ∃ w2, Ch pR w w2 ∧ ((∃ f, f ≤ 160 ∧ TxF b n f ∧ ∀ Q, X_R L xs (d' + 48) 113 0 [.ref 1, x_junk] [] w Q = Q (some (.int (nI f))) w2) ∨ ∃ x0 x1 x2, TxO b n x0 x1 x2 ∧ (x0 ++ x1 ++ x2).length ≤ 160 ∧ x_i w2 1 3 = nI (x0 ++ x1 ++ x2).length ∧ (∀ k, k < (x0 ++ x1 ++ x2).length → x_i w2 3 k = sxT ((x0 ++ x1 ++ x2).getD k 0)) ∧ x_i w2 4 0 = nI x0.length ∧ x_i w2 4 1 = nI (x0 ++ x1).length ∧ x_i w2 4 2 = nI (x0 ++ x1 ++ x2).length ∧ ∀ Q, X_R L xs (d' + 48) 113 0 [.ref 1, x_junk] [] w Q = Q (some (.int (-1))) w2) := by
  have h160 := hT.1
  have c0 : Ch pR w (x_si (x_si (x_si (x_si w 1 3 (nI 0)) 1 7 (nI 0)) 1 9 (nI 0)) 1 10 (-1)) := (((Ch_si rfl).trans (Ch_si rfl)).trans (Ch_si rfl)).trans (Ch_si rfl)
  have hsa : ShT (x_si w 1 3 (nI 0)) := (Ch_si (P := pR) rfl : Ch pR w _).shT hs
  have hsb : ShT (x_si (x_si w 1 3 (nI 0)) 1 7 (nI 0)) := (Ch_si (P := pR) rfl : Ch pR _ _).shT hsa
  have hsc : ShT (x_si (x_si (x_si w 1 3 (nI 0)) 1 7 (nI 0)) 1 9 (nI 0)) := (Ch_si (P := pR) rfl : Ch pR _ _).shT hsb
  have hs0 := c0.shT hs
  have hT0 := hT.ch c0 rfl (fun _ => rfl)
  obtain ⟨w1, c1, h1, e1⟩ := S114 (L := L) (xs := xs) (d := d' + 41) hs0 hT0 (p := 0) (by rw [si_o (show 7 ≠ 10 by decide), si_o (show 7 ≠ 9 by decide), si_s]) (Nat.zero_le n)
  have hs1 := c1.shT hs0
  have hT1 := hT0.ch c1 rfl (fun _ => rfl)
  have hp1 : POK w1 b n (tS b n 0) 0 [] := by
    refine ⟨h1, ?_, ?_, ?_, fun k hk => absurd hk (Nat.not_lt_zero k), Nat.zero_le _, Nat.zero_le _⟩
    · rw [c1.2.2 1 9 rfl, si_o (show 9 ≠ 10 by decide), si_s]
    · rw [c1.2.2 1 10 rfl, si_s]
    · rw [c1.2.2 1 3 rfl, si_o (show 3 ≠ 10 by decide), si_o (show 3 ≠ 9 by decide), si_o (show 3 ≠ 7 by decide), si_s]; rfl
  have c01 : Ch pR w w1 := c0.trans (gp_up c1 rfl rfl)
  have e0 : ∀ Q, X_R L xs (d' + 48) 113 0 [.ref 1, x_junk] [] w Q = X_R L xs (d' + 48) 113 26 [.ref 1, .int (nI 0)] [] w1 Q := fun Q => by
    simp only [X113_0, X113_1, X113_2, X113_5, X113_6, X113_7, X113_10, X113_11, X113_12, X113_15, X113_16, X113_17, X113_20, X113_21, X113_24, X113_25, Nat.zero_le, and_true, true_and, x_nb0, x_nb1, x_nbp, x_isL_int, x_isL_ref, x_isL_junk, x_isR_ref, x_cat_nil, x_cat_int, x_cat_ref, x_cat_long, Option.toList_some, Option.toList_none, List.cons_append, List.nil_append, Nat.reduceAdd, Nat.reduceLeDiff, Nat.reduceLT, t_tag_si, t_tag_sr, t_tag_sI, x_r_si, x_i_sr, t_r_sI, x_ia_si, x_ia_sI, x_ia_sr, x_ra_si, x_ra_sI, x_ra_sr, k_t1 hs, k_t1 hsa, k_t1 hsb, k_t1 hsc, k_t1 hs0, e1]
  obtain ⟨w2, c2, hr2, e2⟩ := S113p (L := L) (xs := xs) (d' := d') hs1 hT1 hp1 (p := 0) (by decide)
  have hs2 := c2.shT hs1
  have hT2 := hT1.ch c2 rfl (fun _ => rfl)
  rcases hr2 with ⟨f, hf, hF⟩ | ⟨s1, x0, hp2, g2, k2, hP0⟩
  · obtain ⟨w3, c3, h3, e3⟩ := S113F (L := L) (xs := xs) (d' := d') hs2 hf (p := 1) (by decide)
    obtain ⟨w4, c4, h4, e4⟩ := S113F (L := L) (xs := xs) (d' := d') (c3.shT hs2) h3 (p := 2) (by decide)
    obtain ⟨w5, c5, e5⟩ := S113e (L := L) (xs := xs) (d' := d') (c4.shT (c3.shT hs2)) h4
    exact ⟨w5, (((c01.trans c2).trans c3).trans c4).trans c5, Or.inl ⟨f, hf.2.2.1, Or.inl hF, fun Q => by rw [e0, e2, e3, e4, e5]⟩⟩
  · obtain ⟨w3, c3, hr3, e3⟩ := S113p (L := L) (xs := xs) (d' := d') hs2 hT2 hp2 (p := 1) (by decide)
    have hs3 := c3.shT hs2
    have hT3 := hT2.ch c3 rfl (fun _ => rfl)
    rcases hr3 with ⟨f, hf, hF⟩ | ⟨s2, x1, hp3, g3, k3, hP1⟩
    · obtain ⟨w4, c4, h4, e4⟩ := S113F (L := L) (xs := xs) (d' := d') hs3 hf (p := 2) (by decide)
      obtain ⟨w5, c5, e5⟩ := S113e (L := L) (xs := xs) (d' := d') (c4.shT hs3) h4
      exact ⟨w5, (((c01.trans c2).trans c3).trans c4).trans c5, Or.inl ⟨f, hf.2.2.1, Or.inr ⟨s1, x0, hP0, Or.inl hF⟩, fun Q => by rw [e0, e2, e3, e4, e5]⟩⟩
    · obtain ⟨w4, c4, hr4, e4⟩ := S113p (L := L) (xs := xs) (d' := d') hs3 hT3 hp3 (p := 2) (by decide)
      have hs4 := c4.shT hs3
      have hT4 := hT3.ch c4 rfl (fun _ => rfl)
      rcases hr4 with ⟨f, hf, hF⟩ | ⟨s3, x2, hp4, g4, k4, hP2⟩
      · obtain ⟨w5, c5, e5⟩ := S113e (L := L) (xs := xs) (d' := d') hs4 hf
        exact ⟨w5, (((c01.trans c2).trans c3).trans c4).trans c5, Or.inl ⟨f, hf.2.2.1, Or.inr ⟨s1, x0, hP0, Or.inr ⟨s2, x1, hP1, Or.inl hF⟩⟩, fun Q => by rw [e0, e2, e3, e4, e5]⟩⟩
      · have a5 := hp4.1.2.1
        have hK := tK_lt (s := s3) hT4
        have ek : (nI (tK b n s3) = nI 301) = (tK b n s3 = 301) := nI_eqD (by omega) (by decide)
        have hsn := hp4.s_le
        by_cases kE : tK b n s3 = 301
        · refine ⟨w4, ((c01.trans c2).trans c3).trans c4, Or.inr ⟨x0, x1, x2, ⟨s1, s2, s3, hP0, hP1, hP2, hsn, kE⟩, ?_, hp4.2.2.2.1, hp4.2.2.2.2.1, ?_, ?_, g4, fun Q => ?_⟩⟩
          · have hle := hp4.2.2.2.2.2.1
            exact Nat.le_trans hle (by omega)
          · rw [k4 0 (by decide), k3 0 (by decide)]; exact g2
          · rw [k4 1 (by decide)]; exact g3
          · rw [e0, e2, e3, e4, X113_26]
            simp only [X113_27, X113_28, X113_85, X113_86, X113_89, X113_92, X113_99, X113_100, X113_103, Nat.zero_le, and_true, true_and, x_nb0, x_nb1, x_nbp, x_isL_int, x_isL_ref, x_isL_junk, x_isR_ref, x_cat_nil, x_cat_int, x_cat_ref, x_cat_long, Option.toList_some, Option.toList_none, List.cons_append, List.nil_append, Nat.reduceAdd, Nat.reduceLeDiff, Nat.reduceLT, t_tag_si, t_tag_sr, t_tag_sI, x_r_si, x_i_sr, t_r_sI, x_ia_si, x_ia_sI, x_ia_sr, x_ra_si, x_ra_sI, x_ra_sr, nI_leT (Nat.le_refl 3) (show 3 < 2 ^ 31 by decide), if_true, k_t1 hs4, a5, ek, eq_true kE, hp4.2.2.1]
        · obtain ⟨w5, c5, h5, e5⟩ := S123 (L := L) (xs := xs) (d := d' + 47) hs4 h160 hp4
          have hs5 := c5.shT hs4
          refine ⟨w5, (((c01.trans c2).trans c3).trans c4).trans (gp_up c5 rfl rfl), Or.inl ⟨s3, by omega, Or.inr ⟨s1, x0, hP0, Or.inr ⟨s2, x1, hP1, Or.inr ⟨s3, x2, hP2, hsn, kE, rfl⟩⟩⟩, fun Q => ?_⟩⟩
          rw [e0, e2, e3, e4, X113_26]
          simp only [X113_27, X113_28, X113_85, X113_86, X113_89, X113_92, X113_95, X113_96, X113_99, X113_100, X113_103, Nat.zero_le, and_true, true_and, x_nb0, x_nb1, x_nbp, x_isL_int, x_isL_ref, x_isL_junk, x_isR_ref, x_cat_nil, x_cat_int, x_cat_ref, x_cat_long, Option.toList_some, Option.toList_none, List.cons_append, List.nil_append, Nat.reduceAdd, Nat.reduceLeDiff, Nat.reduceLT, t_tag_si, t_tag_sr, t_tag_sI, x_r_si, x_i_sr, t_r_sI, x_ia_si, x_ia_sI, x_ia_sr, x_ra_si, x_ra_sI, x_ra_sr, nI_leT (Nat.le_refl 3) (show 3 < 2 ^ 31 by decide), if_true, k_t1 hs4, a5, ek, eq_false kE, if_false, e5, k_t1 hs5, h5.2.1]
end S9998
