/-! ===== the reference's text ===== -/
def pV (nt b k : Nat) : Bool := pQ nt b k || (b == 49 && decide (4 * nt ≤ k))
def pT (nt b k : Nat) : Bool := pV nt b k || (b == 41 && (k == 8 || k == 11))
theorem ChV {nt : Nat} {w w' : x_W} (h : Ch (pQ nt) w w') : Ch (pV nt) w w' := h.mono fun _ _ hb => by
  unfold pV at hb
  rw [Bool.or_eq_false_iff] at hb
  exact hb.1
theorem ChT {nt : Nat} {w w' : x_W} (h : Ch (pV nt) w w') : Ch (pT nt) w w' := h.mono fun _ _ hb => by
  unfold pT at hb
  rw [Bool.or_eq_false_iff] at hb
  exact hb.1
theorem pV49 {nt p : Nat} : pV nt 49 (4 * nt + p) = true := by
  unfold pV
  rw [Bool.or_eq_true]
  refine Or.inr ?_
  rw [Bool.and_eq_true]
  exact ⟨rfl, decide_eq_true (by omega)⟩
def MI (w : x_W) (nt a n : Nat) (om : List Nat) : Prop := a ≤ n ∧ x_i w 41 23 = nI a ∧ x_i w 41 11 = nI nt ∧ x_i w 41 31 = nI om.length ∧ (∀ k, k < om.length → x_i w 48 (200 * nt + k) = smT (om.getD k 0)) ∧ om.length ≤ a
section S99999
variable {L : Nat} {xs : Nat → Int32} {b : Nat → Nat} {n : Nat} {d : Nat} {w : x_W} {Q : Option Value → x_W → Prop} {nt a p s s2 f : Nat} {om ext : List Nat}
theorem S140p (hs : Sh w) (hT : TPm w b n) (hnt : nt < 6) (hp : p < 3) (hI : MI w nt a n om) (hs1 : tS b n a = s) (hP : Prt b n p s s2 ext) : ∃ w2 a2, Ch (pV nt) w w2 ∧ tS b n a2 = s2 ∧ MI w2 nt a2 n (om ++ ext) ∧ x_i w2 49 (4 * nt + p) = nI om.length ∧ (∀ j, j ≠ 4 * nt + p → x_i w2 49 j = x_i w 49 j) ∧ ∀ Q, X_R L xs (d + 4) 140 26 [.ref 41, .int (nI 1), .int (nI p)] [] w Q = X_R L xs (d + 4) 140 26 [.ref 41, .int (nI 1), .int (nI (p + 1))] [] w2 Q := by
  obtain ⟨ha, h23, h11, h31, h48, hoa⟩ := hI
  have h160 := hT.1
  obtain ⟨w2, c2, hA, e2⟩ := S141 (L := L) (xs := xs) (d := d + 1) hs hT h23 ha
  have hg := tS_ge (b := b) ha
  rw [hs1] at hA hg
  have hs2 := c2.sh hs
  have hT2 := hT.ch c2 rfl (fun _ => rfl) (fun _ => rfl)
  obtain ⟨ht, ht3⟩ := tK_tok (s := s) hT
  obtain ⟨hk, _, s1, hs1n, hs59, hss, hR⟩ := hP
  have t3 := (tok_3 _ ht3 ht).mpr (by omega)
  obtain ⟨a0, a25, a24, a23, a26⟩ := hA
  have hval : x_i w2 41 26 = nI p := by
    rw [a26 (by omega) (Or.inl (by omega))]
    unfold mVal
    rw [if_neg (by omega), if_neg (by omega), if_pos (by omega), hk, Nat.add_sub_cancel_left]
  have hsn : s < n := tK_end (b := b) hg.2 (by omega)
  have hE := tE_ge (b := b) hsn
  have e31 : x_i w2 41 31 = nI om.length := (c2.2.2 41 31 rfl).trans h31
  have e11 : x_i w2 41 11 = nI nt := (c2.2.2 41 11 rfl).trans h11
  have e48 : x_i w2 48 = x_i w 48 := c2.i (fun _ => rfl)
  have e49 : x_i w2 49 = x_i w 49 := c2.i (fun _ => rfl)
  have tx := x_ix_nI (show 4 * nt + p < 24 by omega) (show 24 < 2 ^ 31 by decide)
  have tc := nI_cl (show 4 * nt + p < 2 ^ 31 by omega)
  have c3 : Ch (pV nt) w2 (x_si w2 49 (4 * nt + p) (nI om.length)) := Ch_si pV49
  have hs3 := c3.sh hs2
  have e3 : ∀ j, x_i (x_si w2 49 (4 * nt + p) (nI om.length)) 41 j = x_i w2 41 j := fun j => by rw [x_i_sin _ _ _ _ (by decide)]
  obtain ⟨w4, c4, h4, e4⟩ := S143 (L := L) (xs := xs) (d := d) (nt := nt) (out := om) (p := tE b n s) (R := .inr (om ++ ext, s1)) hs3 (hT2.ch c3 rfl (fun _ => rfl) (fun _ => rfl)) hE.2 ((e3 23).trans a23) ((e3 11).trans e11) hnt ((e3 31).trans e31) (fun k hk => by rw [x_i_sin _ _ _ _ (by decide), e48]; exact h48 k hk) (by omega) (hR om)
  obtain ⟨q1, q2, q3, q4⟩ := h4
  have f49 : x_i w4 49 = x_i (x_si w2 49 (4 * nt + p) (nI om.length)) 49 := c4.i (fun _ => rfl)
  have hE1 := tE_ge (b := b) q3
  refine ⟨w4, tE b n s1, ((ChV (ChM c2)).trans c3).trans (ChV c4), hss.symm, ⟨hE1.2, q1.2.2.2.1, q2.2.1, q2.2.2.2.2.1, q2.2.2.2.2.2.2.1, q4⟩, by rw [f49, si_s], fun j hj => by rw [f49, si_o hj, e49], fun Q => ?_⟩
  rw [X140_26]
  have e4' : ∀ Q, X_R L xs (d + 3) 143 0 [.ref 41, x_junk, x_junk, x_junk] [] (x_si w2 49 (4 * nt + p) (nI om.length)) Q = Q (some (.int (nI 1))) w4 := e4
  simp only [X140_27, X140_28, X140_31, X140_32, X140_35, X140_36, X140_39, X140_40, X140_43, X140_44, X140_47, X140_48, X140_51, X140_52, X140_55, X140_56, X140_60, X140_61, X140_62, X140_65, X140_66, X140_67, X140_70, X140_71, X140_72, X140_73, X140_74, X140_77, X140_78, X140_79, X140_82, X140_83, X140_86, X140_89, X140_90, X140_94, X140_95, X140_98, Nat.zero_le, and_true, true_and, x_nb0, x_nb1, x_nbp, x_isL_int, x_isL_ref, x_isL_junk, x_isR_ref, x_cat_nil, x_cat_int, x_cat_ref, x_cat_long, Option.toList_some, Option.toList_none, List.cons_append, List.nil_append, Nat.reduceAdd, Nat.reduceLeDiff, Nat.reduceLT, t_tag_si, t_tag_sr, t_tag_sI, x_r_si, x_i_sr, t_r_sI, x_ia_si, x_ia_sI, x_ia_sr, x_ra_si, x_ra_sI, x_ra_sr, nI_leF hp (show 3 < 2 ^ 31 by decide), n10, if_false, if_true, g_t41 hs, e2, g_t41 hs3, g_t41 hs2, a25, t3, hval, ne_eq, not_true_eq_false, not_false_eq_true, g_r41_10 hs2, g_a49 hs2, e11, e31, nI_mul, nI_add, tx, tc, e4']
theorem S140q (hs : Sh w) (hT : TPm w b n) (hnt : nt < 6) (hp : p < 3) (hI : MI w nt a n om) (hs1 : tS b n a = s) (hP : PrtF b n p s f) : ∃ w2, Ch (pV nt) w w2 ∧ x_i w2 41 24 = nI f ∧ x_i w2 41 11 = nI nt ∧ ∀ Q, X_R L xs (d + 4) 140 26 [.ref 41, .int (nI 1), .int (nI p)] [] w Q = X_R L xs (d + 4) 140 26 [.ref 41, .int (nI 0), .int (nI (p + 1))] [] w2 Q := by
  obtain ⟨ha, h23, h11, h31, h48, hoa⟩ := hI
  have h160 := hT.1
  obtain ⟨w2, c2, hA, e2⟩ := S141 (L := L) (xs := xs) (d := d + 1) hs hT h23 ha
  have hg := tS_ge (b := b) ha
  rw [hs1] at hA hg
  have hs2 := c2.sh hs
  have hT2 := hT.ch c2 rfl (fun _ => rfl) (fun _ => rfl)
  obtain ⟨ht, ht3⟩ := tK_tok (s := s) hT
  have t3 := propext (tok_3 _ ht3 ht)
  obtain ⟨a0, a25, a24, a23, a26⟩ := hA
  have e31 : x_i w2 41 31 = nI om.length := (c2.2.2 41 31 rfl).trans h31
  have e11 : x_i w2 41 11 = nI nt := (c2.2.2 41 11 rfl).trans h11
  have e48 : x_i w2 48 = x_i w 48 := c2.i (fun _ => rfl)
  have tx := x_ix_nI (show 4 * nt + p < 24 by omega) (show 24 < 2 ^ 31 by decide)
  have tc := nI_cl (show 4 * nt + p < 2 ^ 31 by omega)
  have c3 : Ch (pV nt) w2 (x_si w2 49 (4 * nt + p) (nI om.length)) := Ch_si pV49
  have hs3 := c3.sh hs2
  have e3 : ∀ j, x_i (x_si w2 49 (4 * nt + p) (nI om.length)) 41 j = x_i w2 41 j := fun j => by rw [x_i_sin _ _ _ _ (by decide)]
  rcases hP with ⟨hk, hf⟩ | ⟨hk, hR⟩
  · refine ⟨x_si w2 49 (4 * nt + p) (nI om.length), (ChV (ChM c2)).trans c3, (e3 24).trans (by rw [hf]; exact a24), (e3 11).trans e11, fun Q => ?_⟩
    rw [X140_26]
    by_cases h3 : 262 ≤ tK b n s ∧ tK b n s < 265
    · have hval : x_i w2 41 26 = nI (tK b n s - 262) := by
        rw [a26 (by omega) (Or.inl (by omega))]
        unfold mVal
        rw [if_neg (by omega), if_neg (by omega), if_pos h3]
      simp only [X140_27, X140_28, X140_31, X140_32, X140_35, X140_36, X140_39, X140_40, X140_43, X140_44, X140_47, X140_48, X140_51, X140_52, X140_59, X140_60, X140_61, X140_62, X140_65, X140_66, X140_67, X140_70, X140_71, X140_72, X140_73, X140_74, X140_77, X140_78, X140_79, X140_93, X140_94, X140_95, X140_98, Nat.zero_le, and_true, true_and, x_nb0, x_nb1, x_nbp, x_isL_int, x_isL_ref, x_isL_junk, x_isR_ref, x_cat_nil, x_cat_int, x_cat_ref, x_cat_long, Option.toList_some, Option.toList_none, List.cons_append, List.nil_append, Nat.reduceAdd, Nat.reduceLeDiff, Nat.reduceLT, t_tag_si, t_tag_sr, t_tag_sI, x_r_si, x_i_sr, t_r_sI, x_ia_si, x_ia_sI, x_ia_sr, x_ra_si, x_ra_sI, x_ra_sr, nI_leF hp (show 3 < 2 ^ 31 by decide), n10, if_false, if_true, g_t41 hs, e2, g_t41 hs3, g_t41 hs2, a25, t3, eq_true h3, hval, nI_eqF (show tK b n s - 262 ≠ p by omega) (by omega) (by omega), ne_eq, not_true_eq_false, not_false_eq_true, g_r41_10 hs2, g_a49 hs2, e11, e31, nI_mul, nI_add, tx, tc]
    · simp only [X140_27, X140_28, X140_31, X140_32, X140_35, X140_36, X140_39, X140_40, X140_43, X140_44, X140_59, X140_60, X140_61, X140_62, X140_65, X140_66, X140_67, X140_70, X140_71, X140_72, X140_73, X140_74, X140_77, X140_78, X140_79, X140_93, X140_94, X140_95, X140_98, Nat.zero_le, and_true, true_and, x_nb0, x_nb1, x_nbp, x_isL_int, x_isL_ref, x_isL_junk, x_isR_ref, x_cat_nil, x_cat_int, x_cat_ref, x_cat_long, Option.toList_some, Option.toList_none, List.cons_append, List.nil_append, Nat.reduceAdd, Nat.reduceLeDiff, Nat.reduceLT, t_tag_si, t_tag_sr, t_tag_sI, x_r_si, x_i_sr, t_r_sI, x_ia_si, x_ia_sI, x_ia_sr, x_ra_si, x_ra_sI, x_ra_sr, nI_leF hp (show 3 < 2 ^ 31 by decide), n10, if_false, if_true, g_t41 hs, e2, g_t41 hs3, g_t41 hs2, a25, t3, eq_false h3, ne_eq, not_true_eq_false, not_false_eq_true, g_r41_10 hs2, g_a49 hs2, e11, e31, nI_mul, nI_add, tx, tc]
  · have hval : x_i w2 41 26 = nI p := by
      rw [a26 (by omega) (Or.inl (by omega))]
      unfold mVal
      rw [if_neg (by omega), if_neg (by omega), if_pos (by omega), hk, Nat.add_sub_cancel_left]
    have hsn : s < n := tK_end (b := b) hg.2 (by omega)
    have hE := tE_ge (b := b) hsn
    obtain ⟨w4, c4, h4, e4⟩ := S143 (L := L) (xs := xs) (d := d) (nt := nt) (out := om) (p := tE b n s) (R := .inl f) hs3 (hT2.ch c3 rfl (fun _ => rfl) (fun _ => rfl)) hE.2 ((e3 23).trans a23) ((e3 11).trans e11) hnt ((e3 31).trans e31) (fun k hk => by rw [x_i_sin _ _ _ _ (by decide), e48]; exact h48 k hk) (by omega) (hR om)
    have e4' : ∀ Q, X_R L xs (d + 3) 143 0 [.ref 41, x_junk, x_junk, x_junk] [] (x_si w2 49 (4 * nt + p) (nI om.length)) Q = Q (some (.int (nI 0))) w4 := e4
    refine ⟨w4, ((ChV (ChM c2)).trans c3).trans (ChV c4), h4.1, h4.2, fun Q => ?_⟩
    rw [X140_26]
    simp only [X140_27, X140_28, X140_31, X140_32, X140_35, X140_36, X140_39, X140_40, X140_43, X140_44, X140_47, X140_48, X140_51, X140_52, X140_55, X140_56, X140_60, X140_61, X140_62, X140_65, X140_66, X140_67, X140_70, X140_71, X140_72, X140_73, X140_74, X140_77, X140_78, X140_79, X140_82, X140_83, X140_86, X140_93, X140_94, X140_95, X140_98, Nat.zero_le, and_true, true_and, x_nb0, x_nb1, x_nbp, x_isL_int, x_isL_ref, x_isL_junk, x_isR_ref, x_cat_nil, x_cat_int, x_cat_ref, x_cat_long, Option.toList_some, Option.toList_none, List.cons_append, List.nil_append, Nat.reduceAdd, Nat.reduceLeDiff, Nat.reduceLT, t_tag_si, t_tag_sr, t_tag_sI, x_r_si, x_i_sr, t_r_sI, x_ia_si, x_ia_sI, x_ia_sr, x_ra_si, x_ra_sI, x_ra_sr, nI_leF hp (show 3 < 2 ^ 31 by decide), n10, if_false, if_true, g_t41 hs, e2, g_t41 hs3, g_t41 hs2, a25, t3, eq_true (show 262 ≤ tK b n s ∧ tK b n s < 265 by omega), hval, ne_eq, not_true_eq_false, not_false_eq_true, g_r41_10 hs2, g_a49 hs2, e11, e31, nI_mul, nI_add, tx, tc, e4']
/-- refused -/
theorem S140r (hs : Sh w) (hnt : nt < 6) (h24 : x_i w 41 24 = nI f) (h11 : x_i w 41 11 = nI nt) {v : Value} : ∃ w2, Ch (pT nt) w w2 ∧ x_i w2 41 8 = nI 0 ∧ x_i w2 41 11 = nI nt ∧ ∀ Q, X_R L xs d 140 122 [.ref 41, .int (nI 0), v] [] w Q = Q (some (.int ((-100) - nI f))) w2 := by
  have tx := x_ix_nI (show 4 * nt + 3 < 24 by omega) (show 24 < 2 ^ 31 by decide)
  have tc := nI_cl (show 4 * nt + 3 < 2 ^ 31 by omega)
  have c3 : Ch (pT nt) w (x_si w 49 (4 * nt + 3) (x_i w 41 31)) := ChT (Ch_si pV49)
  have hs3 := c3.sh hs
  have c4 : Ch (pT nt) w (x_si (x_si w 49 (4 * nt + 3) (x_i w 41 31)) 41 8 (nI 0)) := c3.trans (Ch_si rfl)
  have hs4 := c4.sh hs
  have e4 : x_i (x_si (x_si w 49 (4 * nt + 3) (x_i w 41 31)) 41 8 (nI 0)) 41 24 = nI f := by rw [si_o (by decide), x_i_sin _ _ _ _ (by decide)]; exact h24
  refine ⟨_, c4, si_s, by rw [si_o (by decide), x_i_sin _ _ _ _ (by decide)]; exact h11, fun Q => ?_⟩
  simp only [X140_122, X140_123, X140_126, X140_127, X140_128, X140_131, X140_132, X140_133, X140_134, X140_135, X140_138, X140_139, X140_140, X140_141, X140_144, X140_145, X140_148, X140_150, X140_151, X140_154, X140_155, Nat.zero_le, and_true, true_and, x_nb0, x_nb1, x_nbp, x_isL_int, x_isL_ref, x_isL_junk, x_isR_ref, x_cat_nil, x_cat_int, x_cat_ref, x_cat_long, Option.toList_some, Option.toList_none, List.cons_append, List.nil_append, Nat.reduceAdd, Nat.reduceLeDiff, Nat.reduceLT, t_tag_si, t_tag_sr, t_tag_sI, x_r_si, x_i_sr, t_r_sI, x_ia_si, x_ia_sI, x_ia_sr, x_ra_si, x_ra_sI, x_ra_sr, g_t41 hs, g_r41_10 hs, g_a49 hs, h11, nI_mul, nI_add, tx, tc, g_t41 hs3, ne_eq, not_true_eq_false, if_false, if_true, g_t41 hs4, e4]
theorem S140s (hs : Sh w) (hnt : nt < 6) (h24 : x_i w 41 24 = nI f) (h11 : x_i w 41 11 = nI nt) (hp : p ≤ 3) : ∃ w2, Ch (pT nt) w w2 ∧ x_i w2 41 8 = nI 0 ∧ x_i w2 41 11 = nI nt ∧ ∀ Q, X_R L xs d 140 26 [.ref 41, .int (nI 0), .int (nI p)] [] w Q = Q (some (.int ((-100) - nI f))) w2 := by
  obtain ⟨w2, c2, h1, h2, e2⟩ := S140r (L := L) (xs := xs) (d := d) hs hnt h24 h11 (v := .int (nI p))
  refine ⟨w2, c2, h1, h2, fun Q => ?_⟩
  by_cases hp3 : p < 3
  · simp only [X140_26, X140_27, X140_28, X140_31, X140_32, X140_101, X140_102, Nat.zero_le, and_true, true_and, x_nb0, x_nb1, x_nbp, x_isL_int, x_isL_ref, x_isL_junk, x_isR_ref, x_cat_nil, x_cat_int, x_cat_ref, x_cat_long, Option.toList_some, Option.toList_none, List.cons_append, List.nil_append, Nat.reduceAdd, Nat.reduceLeDiff, Nat.reduceLT, t_tag_si, t_tag_sr, t_tag_sI, x_r_si, x_i_sr, t_r_sI, x_ia_si, x_ia_sI, x_ia_sr, x_ra_si, x_ra_sI, x_ra_sr, nI_leF hp3 (show 3 < 2 ^ 31 by decide), if_false, if_true, e2]
  · simp only [X140_26, X140_27, X140_28, X140_101, X140_102, Nat.zero_le, and_true, true_and, x_nb0, x_nb1, x_nbp, x_isL_int, x_isL_ref, x_isL_junk, x_isR_ref, x_cat_nil, x_cat_int, x_cat_ref, x_cat_long, Option.toList_some, Option.toList_none, List.cons_append, List.nil_append, Nat.reduceAdd, Nat.reduceLeDiff, Nat.reduceLT, t_tag_si, t_tag_sr, t_tag_sI, x_r_si, x_i_sr, t_r_sI, x_ia_si, x_ia_sI, x_ia_sr, x_ra_si, x_ra_sI, x_ra_sr, nI_leT (Nat.not_lt.mp hp3) (show p < 2 ^ 31 by omega), if_true, e2]
theorem S140a (hs : Sh w) (h11 : x_i w 41 11 = nI nt) (hnt : nt < 6) : MI (x_si (x_si w 41 23 (nI 0)) 41 31 (nI 0)) nt 0 n [] ∧ Ch (pV nt) w (x_si (x_si w 41 23 (nI 0)) 41 31 (nI 0)) ∧ ∀ Q, X_R L xs d 140 0 [.ref 41, x_junk, x_junk] [] w Q = X_R L xs d 140 26 [.ref 41, .int (nI 1), .int (nI 0)] [] (x_si (x_si w 41 23 (nI 0)) 41 31 (nI 0)) Q := by
  have c1 : Ch (pV nt) w (x_si w 41 23 (nI 0)) := Ch_si rfl
  have c2 : Ch (pV nt) w (x_si (x_si w 41 23 (nI 0)) 41 31 (nI 0)) := c1.trans (Ch_si rfl)
  refine ⟨⟨Nat.zero_le _, (si_o (by decide)).trans si_s, (si_o (by decide)).trans ((si_o (by decide)).trans h11), si_s, fun k hk => absurd hk (Nat.not_lt_zero k), Nat.le_refl _⟩, c2, fun Q => ?_⟩
  simp only [X140_0, X140_1, X140_4, X140_6, X140_12, X140_13, X140_14, X140_17, X140_18, X140_19, X140_22, X140_23, X140_24, X140_25, Nat.zero_le, and_true, true_and, x_nb0, x_nb1, x_nbp, x_isL_int, x_isL_ref, x_isL_junk, x_isR_ref, x_cat_nil, x_cat_int, x_cat_ref, x_cat_long, Option.toList_some, Option.toList_none, List.cons_append, List.nil_append, Nat.reduceAdd, Nat.reduceLeDiff, Nat.reduceLT, t_tag_si, t_tag_sr, t_tag_sI, x_r_si, x_i_sr, t_r_sI, x_ia_si, x_ia_sI, x_ia_sr, x_ra_si, x_ra_sI, x_ra_sr, g_t41 hs, g_t41 (c1.sh hs), h11, nI_eqF (show nt ≠ 6 by omega) (by omega) (by decide), ne_eq, not_false_eq_true, if_true, if_false]
theorem S140F (hs : Sh w) (hT : TPm w b n) (h11 : x_i w 41 11 = nI nt) (hnt : nt < 6) (hF : TxF b n f) : ∃ w2, Ch (pT nt) w w2 ∧ x_i w2 41 8 = nI 0 ∧ x_i w2 41 11 = nI nt ∧ ∀ Q, X_R L xs (d + 4) 140 0 [.ref 41, x_junk, x_junk] [] w Q = Q (some (.int ((-100) - nI f))) w2 := by
  obtain ⟨hI, c0, e0⟩ := S140a (L := L) (xs := xs) (d := d + 4) (n := n) hs h11 hnt
  have hs0 := c0.sh hs
  have hT0 := hT.ch c0 rfl (fun _ => rfl) (fun _ => rfl)
  rcases hF with hF | ⟨s1, x0, hP0, hF⟩
  · obtain ⟨w2, c2, h24, h2, e2⟩ := S140q (L := L) (xs := xs) (d := d) hs0 hT0 hnt (p := 0) (by decide) hI rfl hF
    obtain ⟨w3, c3, h38, h3, e3⟩ := S140s (L := L) (xs := xs) (d := d + 4) (p := 1) (c2.sh hs0) hnt h24 h2 (by decide)
    exact ⟨w3, (ChT (c0.trans c2)).trans c3, h38, h3, fun Q => by rw [e0, e2, e3]⟩
  obtain ⟨w2, a2, c2, hs1, hI2, _, _, e2⟩ := S140p (L := L) (xs := xs) (d := d) hs0 hT0 hnt (p := 0) (by decide) hI rfl hP0
  have hs2 := c2.sh hs0
  have hT2 := hT0.ch c2 rfl (fun _ => rfl) (fun _ => rfl)
  rcases hF with hF | ⟨s2, x1, hP1, hF⟩
  · obtain ⟨w4, c4, h24, h4, e4⟩ := S140q (L := L) (xs := xs) (d := d) hs2 hT2 hnt (p := 1) (by decide) hI2 hs1 hF
    obtain ⟨w3, c3, h38, h3, e3⟩ := S140s (L := L) (xs := xs) (d := d + 4) (p := 2) (c4.sh hs2) hnt h24 h4 (by decide)
    exact ⟨w3, (ChT ((c0.trans c2).trans c4)).trans c3, h38, h3, fun Q => by rw [e0, e2, e4, e3]⟩
  obtain ⟨w4, a4, c4, hs3, hI4, _, _, e4⟩ := S140p (L := L) (xs := xs) (d := d) hs2 hT2 hnt (p := 1) (by decide) hI2 hs1 hP1
  have hs4 := c4.sh hs2
  have hT4 := hT2.ch c4 rfl (fun _ => rfl) (fun _ => rfl)
  rcases hF with hF | ⟨s3, x2, hP2, hs3n, hk, hf⟩
  · obtain ⟨w5, c5, h24, h5, e5⟩ := S140q (L := L) (xs := xs) (d := d) hs4 hT4 hnt (p := 2) (by decide) hI4 hs3 hF
    obtain ⟨w3, c3, h38, h3, e3⟩ := S140s (L := L) (xs := xs) (d := d + 4) (p := 3) (c5.sh hs4) hnt h24 h5 (by decide)
    exact ⟨w3, (ChT (((c0.trans c2).trans c4).trans c5)).trans c3, h38, h3, fun Q => by rw [e0, e2, e4, e5, e3]⟩
  obtain ⟨w5, a5, c5, hs5, hI5, _, _, e5⟩ := S140p (L := L) (xs := xs) (d := d) hs4 hT4 hnt (p := 2) (by decide) hI4 hs3 hP2
  have hs5' := c5.sh hs4
  have hT5 := hT4.ch c5 rfl (fun _ => rfl) (fun _ => rfl)
  obtain ⟨w6, c6, hA, e6⟩ := S141 (L := L) (xs := xs) (d := d + 1) hs5' hT5 hI5.2.1 hI5.1
  rw [hs5] at hA
  have hs6 := c6.sh hs5'
  obtain ⟨ht, ht3⟩ := tK_tok (s := s3) hT
  have t0 := propext (tok_0 _ ht3 ht)
  obtain ⟨w3, c3, h38, h3, e3⟩ := S140r (L := L) (xs := xs) (d := d + 4) hs6 hnt (f := f) (by rw [hf]; exact hA.2.2.1) ((c6.2.2 41 11 rfl).trans hI5.2.2.1) (v := .int (nI 3))
  refine ⟨w3, (ChT ((((c0.trans c2).trans c4).trans c5).trans (ChV (ChM c6)))).trans c3, h38, h3, fun Q => ?_⟩
  rw [e0, e2, e4, e5]
  simp only [X140_26, X140_27, X140_28, X140_101, X140_102, X140_105, X140_106, X140_109, X140_110, X140_113, X140_120, X140_121, Nat.zero_le, and_true, true_and, x_nb0, x_nb1, x_nbp, x_isL_int, x_isL_ref, x_isL_junk, x_isR_ref, x_cat_nil, x_cat_int, x_cat_ref, x_cat_long, Option.toList_some, Option.toList_none, List.cons_append, List.nil_append, Nat.reduceAdd, Nat.reduceLeDiff, Nat.reduceLT, t_tag_si, t_tag_sr, t_tag_sI, x_r_si, x_i_sr, t_r_sI, x_ia_si, x_ia_sI, x_ia_sr, x_ra_si, x_ra_sI, x_ra_sr, nI_leT (Nat.le_refl 3) (show 3 < 2 ^ 31 by decide), n10, if_true, if_false, g_t41 hs5', e6, g_t41 hs6, hA.2.1, t0, eq_false hk, e3]
theorem S140O (hs : Sh w) (hT : TPm w b n) (h11 : x_i w 41 11 = nI nt) (hnt : nt < 6) {x0 x1 x2 : List Nat} (hO : TxO b n x0 x1 x2) : ∃ w2, Ch (pT nt) w w2 ∧ x_i w2 41 8 = nI 0 ∧ x_i w2 41 11 = nI (nt + 1) ∧ (x0 ++ x1 ++ x2).length ≤ 160 ∧ x_i w2 49 (4 * nt) = nI 0 ∧ x_i w2 49 (4 * nt + 1) = nI x0.length ∧ x_i w2 49 (4 * nt + 2) = nI (x0 ++ x1).length ∧ x_i w2 49 (4 * nt + 3) = nI (x0 ++ x1 ++ x2).length ∧ (∀ k, k < (x0 ++ x1 ++ x2).length → x_i w2 48 (200 * nt + k) = smT ((x0 ++ x1 ++ x2).getD k 0)) ∧ ∀ Q, X_R L xs (d + 4) 140 0 [.ref 41, x_junk, x_junk] [] w Q = Q (some (.int (nI nt))) w2 := by
  obtain ⟨hI, c0, e0⟩ := S140a (L := L) (xs := xs) (d := d + 4) (n := n) hs h11 hnt
  have h160 := hT.1
  have hs0 := c0.sh hs
  have hT0 := hT.ch c0 rfl (fun _ => rfl) (fun _ => rfl)
  obtain ⟨s1, s2, s3, hP0, hP1, hP2, hs3n, hk⟩ := hO
  obtain ⟨w2, a2, c2, hs1, hI2, g2, k2, e2⟩ := S140p (L := L) (xs := xs) (d := d) hs0 hT0 hnt (p := 0) (by decide) hI rfl hP0
  have hs2 := c2.sh hs0
  have hT2 := hT0.ch c2 rfl (fun _ => rfl) (fun _ => rfl)
  obtain ⟨w4, a4, c4, hs3, hI4, g4, k4, e4⟩ := S140p (L := L) (xs := xs) (d := d) hs2 hT2 hnt (p := 1) (by decide) hI2 hs1 hP1
  have hs4 := c4.sh hs2
  have hT4 := hT2.ch c4 rfl (fun _ => rfl) (fun _ => rfl)
  obtain ⟨w5, a5, c5, hs5, hI5, g5, k5, e5⟩ := S140p (L := L) (xs := xs) (d := d) hs4 hT4 hnt (p := 2) (by decide) hI4 hs3 hP2
  have hs5' := c5.sh hs4
  have hT5 := hT4.ch c5 rfl (fun _ => rfl) (fun _ => rfl)
  rw [List.nil_append] at hI5 g5 hI2 g4 hI4
  obtain ⟨w6, c6, hA, e6⟩ := S141 (L := L) (xs := xs) (d := d + 1) hs5' hT5 hI5.2.1 hI5.1
  rw [hs5] at hA
  have hs6 := c6.sh hs5'
  obtain ⟨ht, ht3⟩ := tK_tok (s := s3) hT
  have t0 := (tok_0 _ ht3 ht).mpr hk
  generalize hX : x0 ++ x1 ++ x2 = X at *
  have e11 : x_i w6 41 11 = nI nt := (c6.2.2 41 11 rfl).trans hI5.2.2.1
  have e31 : x_i w6 41 31 = nI X.length := (c6.2.2 41 31 rfl).trans hI5.2.2.2.1
  have e48 : x_i w6 48 = x_i w5 48 := c6.i (fun _ => rfl)
  have e49 : x_i w6 49 = x_i w5 49 := c6.i (fun _ => rfl)
  have tx := x_ix_nI (show 4 * nt + 3 < 24 by omega) (show 24 < 2 ^ 31 by decide)
  have tc := nI_cl (show 4 * nt + 3 < 2 ^ 31 by omega)
  have c7 : Ch (pT nt) w6 (x_si w6 49 (4 * nt + 3) (nI X.length)) := ChT (Ch_si pV49)
  have hs7 := c7.sh hs6
  have c8 : Ch (pT nt) w6 (x_si (x_si w6 49 (4 * nt + 3) (nI X.length)) 41 8 (nI 0)) := c7.trans (Ch_si rfl)
  have hs8 := c8.sh hs6
  have c9 : Ch (pT nt) w6 (x_si (x_si (x_si w6 49 (4 * nt + 3) (nI X.length)) 41 8 (nI 0)) 41 11 (nI (nt + 1))) := c8.trans (Ch_si rfl)
  have hs9 := c9.sh hs6
  have e811 : x_i (x_si (x_si w6 49 (4 * nt + 3) (nI X.length)) 41 8 (nI 0)) 41 11 = nI nt := by rw [si_o (by decide), x_i_sin _ _ _ _ (by decide)]; exact e11
  have e911 : x_i (x_si (x_si (x_si w6 49 (4 * nt + 3) (nI X.length)) 41 8 (nI 0)) 41 11 (nI (nt + 1))) 41 11 = nI (nt + 1) := si_s
  have g9 : ∀ j, j ≠ 4 * nt + 3 → x_i (x_si (x_si (x_si w6 49 (4 * nt + 3) (nI X.length)) 41 8 (nI 0)) 41 11 (nI (nt + 1))) 49 j = x_i w5 49 j := fun j hj => by rw [x_i_sin _ _ _ _ (by decide), x_i_sin _ _ _ _ (by decide), si_o hj, e49]
  refine ⟨_, (ChT ((((c0.trans c2).trans c4).trans c5).trans (ChV (ChM c6)))).trans c9, (si_o (by decide)).trans si_s, e911, ?_, ?_, ?_, ?_, ?_, fun k hk => ?_, fun Q => ?_⟩
  · have := hI5.2.2.2.2.2; have := hI5.1; omega
  · rw [g9 _ (by omega), k5 _ (by omega), k4 _ (by omega)]; exact g2
  · rw [g9 _ (by omega), k5 _ (by omega)]; exact g4
  · rw [g9 _ (by omega)]; exact g5
  · rw [x_i_sin _ _ _ _ (by decide), x_i_sin _ _ _ _ (by decide), si_s]
  · rw [x_i_sin _ _ _ _ (by decide), x_i_sin _ _ _ _ (by decide), x_i_sin _ _ _ _ (by decide), e48]; exact hI5.2.2.2.2.1 k hk
  · rw [e0, e2, e4, e5]
    simp only [X140_26, X140_27, X140_28, X140_101, X140_102, X140_105, X140_106, X140_109, X140_110, X140_113, X140_116, X140_117, X140_121, X140_122, X140_123, X140_126, X140_127, X140_128, X140_131, X140_132, X140_133, X140_134, X140_135, X140_138, X140_139, X140_140, X140_141, X140_144, X140_145, X140_156, X140_157i, X140_157, X140_158, X140_161, X140_162, X140_163, X140_166, X140_167, X140_170, X140_171, X140_172, Nat.zero_le, and_true, true_and, x_nb0, x_nb1, x_nbp, x_isL_int, x_isL_ref, x_isL_junk, x_isR_ref, x_cat_nil, x_cat_int, x_cat_ref, x_cat_long, Option.toList_some, Option.toList_none, List.cons_append, List.nil_append, Nat.reduceAdd, Nat.reduceLeDiff, Nat.reduceLT, t_tag_si, t_tag_sr, t_tag_sI, x_r_si, x_i_sr, t_r_sI, x_ia_si, x_ia_sI, x_ia_sr, x_ra_si, x_ra_sI, x_ra_sr, nI_leT (Nat.le_refl 3) (show 3 < 2 ^ 31 by decide), n10, if_true, if_false, g_t41 hs5', e6, g_t41 hs6, hA.2.1, t0, g_r41_10 hs6, g_a49 hs6, e11, e31, nI_mul, nI_add, tx, tc, g_t41 hs7, g_t41 hs8, e811, g_t41 hs9, e911, nI_sub (show 1 ≤ nt + 1 by omega), Nat.add_sub_cancel, ne_eq, not_false_eq_true]
end S99999
