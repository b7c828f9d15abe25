/-! ===== the class goes on to the next token; emits, refuses ===== -/
def tS (b : Nat → Nat) (n p : Nat) : Nat := spn isSp b (n - p) p
def AtT (w : x_W) (b : Nat → Nat) (n s : Nat) : Prop := s ≤ n ∧ x_i w 1 5 = nI (tK b n s) ∧ x_i w 1 6 = nI s ∧ x_i w 1 7 = nI (tE b n s) ∧ (tK b n s = 300 → x_i w 1 8 = nI (vN b s (tE b n s - s)))
theorem tS_ge {b : Nat → Nat} {n p : Nat} (h : p ≤ n) : p ≤ tS b n p ∧ tS b n p ≤ n := by
  have := spn_ge isSp b (n - p) p
  unfold tS
  omega
theorem tE_ge {b : Nat → Nat} {n s : Nat} (h : s < n) : s + 1 ≤ tE b n s ∧ tE b n s ≤ n := by
  unfold tE
  rw [if_neg (by omega)]
  have e : n - s = (n - (s + 1)) + 1 := by omega
  split
  · next h1 =>
    have := spn_ge isLt b (n - (s + 1)) (s + 1)
    rw [e]
    unfold spn
    rw [if_pos h1]
    omega
  · split
    · next h1 =>
      have := spn_ge isDg b (n - (s + 1)) (s + 1)
      rw [e]
      unfold spn
      rw [if_pos h1]
      omega
    · omega
theorem tK_end {b : Nat → Nat} {n s : Nat} (hs : s ≤ n) (h : tK b n s ≠ 301) : s < n := by
  apply Nat.lt_of_not_le
  intro h2
  apply h
  unfold tK
  rw [if_pos h2]
/-- the next token's place -/
def tN (b : Nat → Nat) (n s : Nat) : Nat := tS b n (tE b n s)
theorem tN_gt {b : Nat → Nat} {n s : Nat} (h : s < n) : s < tN b n s ∧ tN b n s ≤ n := by
  have h1 := tE_ge (b := b) h
  have h2 := tS_ge (b := b) h1.2
  unfold tN
  omega
theorem si_s {w : x_W} {a k : Nat} {v : Int32} : x_i (x_si w a k v) a k = v := by rw [x_i_si, upd_s]
theorem si_o {w : x_W} {a k j : Nat} {v : Int32} (h : j ≠ k) : x_i (x_si w a k v) a j = x_i w a j := by rw [x_i_si, upd_o h]
def pN : Nat → Nat → Bool := gp [] [(1, 7), (1, 8)]
section S9990
variable {L : Nat} {xs : Nat → Int32} {d : Nat} {w : x_W} {Q : Option Value → x_W → Prop} {b : Nat → Nat} {n : Nat}
theorem S114r (hs : ShT w) (hT : TPx w b n) {s : Nat} (h7 : x_i w 1 7 = nI s) (hn : s ≤ n) : ∃ w2, Ch pA w w2 ∧ AtT w2 b n s ∧ ∀ Q, X_R L xs (d + 6) 114 52 [.ref 1, x_junk] [] w Q = Q none w2 := by
  have h160 := hT.1
  have c1 : Ch pA w (x_si w 1 6 (nI s)) := Ch_si rfl
  have hs1 := c1.shT hs
  have hT1 := hT.ch c1 rfl (fun _ => rfl)
  have e7 : x_i (x_si w 1 6 (nI s)) 1 7 = nI s := by rw [si_o (show 7 ≠ 6 by decide)]; exact h7
  have e1 : x_i (x_si w 1 6 (nI s)) 1 1 = nI n := hT1.2.1
  have e6 : x_i (x_si w 1 6 (nI s)) 1 6 = nI s := si_s
  by_cases hend : n ≤ s
  · obtain rfl : s = n := by omega
    refine ⟨x_si (x_si w 1 6 (nI s)) 1 5 (nI 301), c1.trans (Ch_si rfl), ⟨Nat.le_refl _, ?_, ?_, ?_, ?_⟩, fun Q => ?_⟩
    · rw [si_s]; unfold tK; rw [if_pos hend]
    · rw [si_o (show 6 ≠ 5 by decide), si_s]
    · rw [si_o (show 7 ≠ 5 by decide), e7]; unfold tE; rw [if_pos hend]
    · intro h; unfold tK at h; rw [if_pos hend] at h; exact absurd h (by decide)
    · simp only [X114_52, X114_53, X114_54, X114_57, X114_60, X114_61, X114_64, X114_65, X114_68, X114_71, X114_72, X114_75, X114_78, Nat.zero_le, and_true, true_and, x_nb0, x_nb1, x_nbp, x_isL_int, x_isL_ref, x_isL_junk, x_isR_ref, x_cat_nil, x_cat_int, x_cat_ref, x_cat_long, Option.toList_some, Option.toList_none, List.cons_append, List.nil_append, Nat.reduceAdd, Nat.reduceLeDiff, Nat.reduceLT, t_tag_si, t_tag_sr, t_tag_sI, x_r_si, x_i_sr, t_r_sI, x_ia_si, x_ia_sI, x_ia_sr, x_ra_si, x_ra_sI, x_ra_sr, k_t1 hs, h7, k_t1 hs1, e7, e1, nI_ltF (Nat.le_refl s) (show s < 2 ^ 31 by omega), if_false]
  · have hlt : s < n := by omega
    obtain ⟨hb, hb2⟩ := hT1.2.2 s hlt
    have tx := x_ix_nI (show s < 160 by omega) (show 160 < 2 ^ 31 by decide)
    have tc := nI_cl (show s < 2 ^ 31 by omega)
    have lt := nI_ltT hlt (show n < 2 ^ 31 by omega)
    have e115 := fun (Q' : Option Value → x_W → Prop) => S115 (L := L) (xs := xs) (d := d + 5) (w := x_si w 1 6 (nI s)) (Q := Q') hb2
    have e119 := fun (Q' : Option Value → x_W → Prop) => S119 (L := L) (xs := xs) (d := d + 5) (w := x_si w 1 6 (nI s)) (Q := Q') hb2
    by_cases hL : isLt (b s) = true
    · rw [bI_t hL] at e115
      have eE : tE b n s = spn isLt b (n - s) s := by unfold tE; rw [if_neg hend, if_pos hL]
      obtain ⟨w3, c3, h3, e3⟩ := S116k (L := L) (xs := xs) (d := d + 4) hs1 hT1 x_junk (n - s) s (by omega) _ Ch.refl e7
      rw [← eE] at h3
      have hs3 := c3.shT hs1
      have hT3 := hT1.ch c3 rfl (fun _ => rfl)
      have e36 : x_i w3 1 6 = nI s := (c3.2.2 1 6 rfl).trans e6
      have hE := tE_ge (b := b) hlt
      have ew := fun (Q' : Option Value → x_W → Prop) => S116w (L := L) (xs := xs) (d := d) (w := w3) (Q := Q') hs3 hT3 e36 h3 (by omega) hE.2 12 0 (by omega)
      have c3' : Ch pA (x_si w 1 6 (nI s)) w3 := gp_up c3 rfl rfl
      refine ⟨x_si w3 1 5 (nI (wT (wdF b s (tE b n s) 12 0))), (c1.trans c3').trans (Ch_si rfl), ⟨hn, ?_, ?_, ?_, ?_⟩, fun Q => ?_⟩
      · rw [si_s]; unfold tK wT; rw [if_neg hend, if_pos hL]
      · rw [si_o (show 6 ≠ 5 by decide), e36]
      · rw [si_o (show 7 ≠ 5 by decide), h3]
      · intro h
        unfold tK at h
        rw [if_neg hend, if_pos hL] at h
        have := wdF_le b s (tE b n s) 12 0 rfl
        split at h <;> omega
      · simp only [X114_52, X114_53, X114_54, X114_57, X114_60, X114_61, X114_64, X114_65, X114_68, X114_79, X114_80, X114_83, X114_84, X114_87, X114_88, X114_89, X114_90, X114_93, X114_96, X114_97, X114_98, X114_101, X114_104, X114_153, Nat.zero_le, and_true, true_and, x_nb0, x_nb1, x_nbp, x_isL_int, x_isL_ref, x_isL_junk, x_isR_ref, x_cat_nil, x_cat_int, x_cat_ref, x_cat_long, Option.toList_some, Option.toList_none, List.cons_append, List.nil_append, Nat.reduceAdd, Nat.reduceLeDiff, Nat.reduceLT, t_tag_si, t_tag_sr, t_tag_sI, x_r_si, x_i_sr, t_r_sI, x_ia_si, x_ia_sI, x_ia_sr, x_ra_si, x_ra_sI, x_ra_sr, k_t1 hs, h7, k_t1 hs1, e7, e1, lt, if_true, k_r1_0 hs1, k_a2 hs1, tx, tc, hb, e115, n10, if_false, e3, X116_39, X116_40, ew, k_t1 hs3]
    · rw [bI_f hL] at e115
      by_cases hD : isDg (b s) = true
      · rw [bI_t hD] at e119
        have eE : tE b n s = spn isDg b (n - s) s := by unfold tE; rw [if_neg hend, if_neg hL, if_pos hD]
        have c2 : Ch pA (x_si w 1 6 (nI s)) (x_si (x_si w 1 6 (nI s)) 1 8 (nI 0)) := Ch_si rfl
        have hs2 := c2.shT hs1
        have hT2 := hT1.ch c2 rfl (fun _ => rfl)
        obtain ⟨w3, c3, h3, h38, e3⟩ := S120k (L := L) (xs := xs) (d := d + 4) (s := s) hs2 hT2 (n - s) 0 (by omega) _ Ch.refl (by rw [si_o (show 7 ≠ 8 by decide)]; exact e7) (by rw [si_s]; rfl)
        rw [Nat.add_zero, ← eE] at h3 h38
        have hs3 := c3.shT hs2
        have e36 : x_i w3 1 6 = nI s := by rw [c3.2.2 1 6 rfl, si_o (show 6 ≠ 8 by decide)]; exact e6
        have hE := tE_ge (b := b) hlt
        have c3' : Ch pA (x_si (x_si w 1 6 (nI s)) 1 8 (nI 0)) w3 := gp_up c3 rfl rfl
        by_cases h4 : tE b n s - s ≤ 4
        · refine ⟨x_si w3 1 5 (nI 300), ((c1.trans c2).trans c3').trans (Ch_si rfl), ⟨hn, ?_, ?_, ?_, ?_⟩, fun Q => ?_⟩
          · rw [si_s]; unfold tK; rw [if_neg hend, if_neg hL, if_pos hD, if_pos h4]
          · rw [si_o (show 6 ≠ 5 by decide), e36]
          · rw [si_o (show 7 ≠ 5 by decide), h3]
          · intro _; rw [si_o (show 8 ≠ 5 by decide), h38]
          · simp only [X114_52, X114_53, X114_54, X114_57, X114_60, X114_61, X114_64, X114_65, X114_68, X114_79, X114_80, X114_83, X114_84, X114_87, X114_88, X114_89, X114_90, X114_93, X114_107, X114_108, X114_111, X114_114, X114_115, X114_116, X114_119, X114_122, X114_153, Nat.zero_le, and_true, true_and, x_nb0, x_nb1, x_nbp, x_isL_int, x_isL_ref, x_isL_junk, x_isR_ref, x_cat_nil, x_cat_int, x_cat_ref, x_cat_long, Option.toList_some, Option.toList_none, List.cons_append, List.nil_append, Nat.reduceAdd, Nat.reduceLeDiff, Nat.reduceLT, t_tag_si, t_tag_sr, t_tag_sI, x_r_si, x_i_sr, t_r_sI, x_ia_si, x_ia_sI, x_ia_sr, x_ra_si, x_ra_sI, x_ra_sr, k_t1 hs, h7, k_t1 hs1, e7, e1, lt, if_true, k_r1_0 hs1, k_a2 hs1, tx, tc, hb, e115, e119, n10, if_false, X120_0, X120_1, X120_2]
            rw [e3]
            simp only [X120_68, X120_69, X120_72, X120_73, X120_76, X120_77, X120_78, X120_87, X120_90, Nat.zero_le, and_true, true_and, x_nb0, x_nb1, x_nbp, x_isL_int, x_isL_ref, x_isL_junk, x_isR_ref, x_cat_nil, x_cat_int, x_cat_ref, x_cat_long, Option.toList_some, Option.toList_none, List.cons_append, List.nil_append, Nat.reduceAdd, Nat.reduceLeDiff, Nat.reduceLT, t_tag_si, t_tag_sr, t_tag_sI, x_r_si, x_i_sr, t_r_sI, x_ia_si, x_ia_sI, x_ia_sr, x_ra_si, x_ra_sI, x_ra_sr, k_t1 hs3, h3, e36, nI_sub (show s ≤ tE b n s by omega), nI_leT h4 (show 4 < 2 ^ 31 by decide), if_true, X114_119, X114_122, X114_153]
        · refine ⟨x_si w3 1 5 (nI 302), ((c1.trans c2).trans c3').trans (Ch_si rfl), ⟨hn, ?_, ?_, ?_, ?_⟩, fun Q => ?_⟩
          · rw [si_s]; unfold tK; rw [if_neg hend, if_neg hL, if_pos hD, if_neg h4]
          · rw [si_o (show 6 ≠ 5 by decide), e36]
          · rw [si_o (show 7 ≠ 5 by decide), h3]
          · intro _; rw [si_o (show 8 ≠ 5 by decide), h38]
          · simp only [X114_52, X114_53, X114_54, X114_57, X114_60, X114_61, X114_64, X114_65, X114_68, X114_79, X114_80, X114_83, X114_84, X114_87, X114_88, X114_89, X114_90, X114_93, X114_107, X114_108, X114_111, X114_114, X114_115, X114_116, X114_119, X114_122, X114_153, Nat.zero_le, and_true, true_and, x_nb0, x_nb1, x_nbp, x_isL_int, x_isL_ref, x_isL_junk, x_isR_ref, x_cat_nil, x_cat_int, x_cat_ref, x_cat_long, Option.toList_some, Option.toList_none, List.cons_append, List.nil_append, Nat.reduceAdd, Nat.reduceLeDiff, Nat.reduceLT, t_tag_si, t_tag_sr, t_tag_sI, x_r_si, x_i_sr, t_r_sI, x_ia_si, x_ia_sI, x_ia_sr, x_ra_si, x_ra_sI, x_ra_sr, k_t1 hs, h7, k_t1 hs1, e7, e1, lt, if_true, k_r1_0 hs1, k_a2 hs1, tx, tc, hb, e115, e119, n10, if_false, X120_0, X120_1, X120_2]
            rw [e3]
            simp only [X120_68, X120_69, X120_72, X120_73, X120_76, X120_77, X120_78, X120_81, X120_84, X120_90, Nat.zero_le, and_true, true_and, x_nb0, x_nb1, x_nbp, x_isL_int, x_isL_ref, x_isL_junk, x_isR_ref, x_cat_nil, x_cat_int, x_cat_ref, x_cat_long, Option.toList_some, Option.toList_none, List.cons_append, List.nil_append, Nat.reduceAdd, Nat.reduceLeDiff, Nat.reduceLT, t_tag_si, t_tag_sr, t_tag_sI, x_r_si, x_i_sr, t_r_sI, x_ia_si, x_ia_sI, x_ia_sr, x_ra_si, x_ra_sI, x_ra_sr, k_t1 hs3, h3, e36, nI_sub (show s ≤ tE b n s by omega), nI_leF (show 4 < tE b n s - s by omega) (show tE b n s - s < 2 ^ 31 by omega), if_false, X114_119, X114_122, X114_153]
      · rw [bI_f hD] at e119
        have eE : tE b n s = s + 1 := by unfold tE; rw [if_neg hend, if_neg hL, if_neg hD]
        have c2 : Ch pA (x_si w 1 6 (nI s)) (x_si (x_si w 1 6 (nI s)) 1 7 (nI (s + 1))) := Ch_si rfl
        have hs2 := c2.shT hs1
        have e121 := fun (Q' : Option Value → x_W → Prop) => S121 (L := L) (xs := xs) (d := d + 1) (w := x_si (x_si w 1 6 (nI s)) 1 7 (nI (s + 1))) (Q := Q') hb2
        by_cases hG : isSg (b s) = true
        · rw [bI_t hG] at e121
          refine ⟨x_si (x_si (x_si w 1 6 (nI s)) 1 7 (nI (s + 1))) 1 5 (nI (b s)), (c1.trans c2).trans (Ch_si rfl), ⟨hn, ?_, ?_, ?_, ?_⟩, fun Q => ?_⟩
          · rw [si_s]; unfold tK; rw [if_neg hend, if_neg hL, if_neg hD, if_pos hG]
          · rw [si_o (show 6 ≠ 5 by decide), si_o (show 6 ≠ 7 by decide), si_s]
          · rw [si_o (show 7 ≠ 5 by decide), si_s, eE]
          · intro h; unfold tK at h; rw [if_neg hend, if_neg hL, if_neg hD, if_pos hG] at h; omega
          · simp only [X114_52, X114_53, X114_54, X114_57, X114_60, X114_61, X114_64, X114_65, X114_68, X114_79, X114_80, X114_83, X114_84, X114_87, X114_88, X114_89, X114_90, X114_93, X114_107, X114_108, X114_111, X114_125, X114_126i, X114_126, X114_127, X114_130, X114_131, X114_132, X114_135, X114_136, X114_137, X114_140, X114_143, X114_144, X114_150, X114_153, Nat.zero_le, and_true, true_and, x_nb0, x_nb1, x_nbp, x_isL_int, x_isL_ref, x_isL_junk, x_isR_ref, x_cat_nil, x_cat_int, x_cat_ref, x_cat_long, Option.toList_some, Option.toList_none, List.cons_append, List.nil_append, Nat.reduceAdd, Nat.reduceLeDiff, Nat.reduceLT, t_tag_si, t_tag_sr, t_tag_sI, x_r_si, x_i_sr, t_r_sI, x_ia_si, x_ia_sI, x_ia_sr, x_ra_si, x_ra_sI, x_ra_sr, k_t1 hs, h7, k_t1 hs1, e7, e1, lt, if_true, k_r1_0 hs1, k_a2 hs1, tx, tc, hb, e115, e119, n10, if_false, nI_add, k_t1 hs2, e121]
        · rw [bI_f hG] at e121
          refine ⟨x_si (x_si (x_si w 1 6 (nI s)) 1 7 (nI (s + 1))) 1 5 (nI 302), (c1.trans c2).trans (Ch_si rfl), ⟨hn, ?_, ?_, ?_, ?_⟩, fun Q => ?_⟩
          · rw [si_s]; unfold tK; rw [if_neg hend, if_neg hL, if_neg hD, if_neg hG]
          · rw [si_o (show 6 ≠ 5 by decide), si_o (show 6 ≠ 7 by decide), si_s]
          · rw [si_o (show 7 ≠ 5 by decide), si_s, eE]
          · intro h; unfold tK at h; rw [if_neg hend, if_neg hL, if_neg hD, if_neg hG] at h; exact absurd h (by decide)
          · simp only [X114_52, X114_53, X114_54, X114_57, X114_60, X114_61, X114_64, X114_65, X114_68, X114_79, X114_80, X114_83, X114_84, X114_87, X114_88, X114_89, X114_90, X114_93, X114_107, X114_108, X114_111, X114_125, X114_126i, X114_126, X114_127, X114_130, X114_131, X114_132, X114_135, X114_136, X114_137, X114_140, X114_147, X114_150, X114_153, Nat.zero_le, and_true, true_and, x_nb0, x_nb1, x_nbp, x_isL_int, x_isL_ref, x_isL_junk, x_isR_ref, x_cat_nil, x_cat_int, x_cat_ref, x_cat_long, Option.toList_some, Option.toList_none, List.cons_append, List.nil_append, Nat.reduceAdd, Nat.reduceLeDiff, Nat.reduceLT, t_tag_si, t_tag_sr, t_tag_sI, x_r_si, x_i_sr, t_r_sI, x_ia_si, x_ia_sI, x_ia_sr, x_ra_si, x_ra_sI, x_ra_sr, k_t1 hs, h7, k_t1 hs1, e7, e1, lt, if_true, k_r1_0 hs1, k_a2 hs1, tx, tc, hb, e115, e119, n10, if_false, nI_add, k_t1 hs2, e121]
theorem S114 (hs : ShT w) (hT : TPx w b n) {p : Nat} (h7 : x_i w 1 7 = nI p) (hp : p ≤ n) : ∃ w2, Ch pA w w2 ∧ AtT w2 b n (tS b n p) ∧ ∀ Q, X_R L xs (d + 6) 114 0 [.ref 1, x_junk] [] w Q = Q none w2 := by
  obtain ⟨w2, c2, h2, e2⟩ := S114k (L := L) (xs := xs) (d := d + 6) hs hT (n - p) p (by omega) w Ch.refl h7
  obtain ⟨w3, c3, h3, e3⟩ := S114r (L := L) (xs := xs) (d := d) (c2.shT hs) (hT.ch c2 rfl (fun _ => rfl)) h2 (tS_ge hp).2
  exact ⟨w3, c2.trans c3, h3, fun Q => (e2 Q).trans (e3 Q)⟩
end S9990
