/-! ===== the reference's next ===== -/
/-- the reference's number for a token -/
def mT (t : Nat) : Int32 := if t = 300 then nI 1 else if t = 301 then nI 0 else if t = 302 then -1 else if t < 256 then nI t else if t < 262 then nI 2 else if t < 265 then nI 3 else nI (t - 261)
/-- .. and its value -/
def mVal (b : Nat → Nat) (n s t : Nat) : Nat := if t = 300 then vN b s (tE b n s - s) else if 256 ≤ t ∧ t < 262 then t - 256 else if 262 ≤ t ∧ t < 265 then t - 262 else 0
def AtM (w : x_W) (b : Nat → Nat) (n s : Nat) : Prop := s ≤ n ∧ x_i w 41 25 = mT (tK b n s) ∧ x_i w 41 24 = nI s ∧ x_i w 41 23 = nI (tE b n s) ∧ (256 ≤ tK b n s → tK b n s < 265 ∨ tK b n s = 300 → x_i w 41 26 = nI (mVal b n s (tK b n s)))
theorem mT_word : ∀ r, r < 12 → (if r < 3 then nI 3 else if r < 9 then nI 2 else nI (4 + r - 9)) = mT (256 + mqi r) := by decide +kernel
theorem mT_sg : ∀ c, c < 256 → mT c = nI c := by
  intro c hc
  unfold mT
  rw [if_neg (by omega), if_neg (by omega), if_neg (by omega), if_pos hc]
section S99994
variable {L : Nat} {xs : Nat → Int32} {b : Nat → Nat} {n : Nat} {d : Nat} {w : x_W}
theorem S141r (hs : Sh w) (hT : TPm w b n) {s : Nat} (h7 : x_i w 41 23 = nI s) (hn : s < n) (hL : isLt (b s) = true) : ∃ w2, Ch pM w w2 ∧ AtM w2 b n s ∧ ∀ Q, X_R L xs (d + 2) 141 52 [.ref 41, x_junk, x_junk] [] w Q = Q none w2 := by
  have h160 := hT.1
  have ca : Ch pM w (x_si w 41 24 (nI s)) := Ch_si rfl
  have cb : Ch pM w (x_si (x_si w 41 24 (nI s)) 41 25 (nI 0)) := ca.trans (Ch_si rfl)
  have cc : Ch pM w (x_si (x_si (x_si w 41 24 (nI s)) 41 25 (nI 0)) 41 26 (nI 0)) := cb.trans (Ch_si rfl)
  have hsa := ca.sh hs
  have hsb := cb.sh hs
  have hsc := cc.sh hs
  have hTc := hT.ch cc rfl (fun _ => rfl) (fun _ => rfl)
  have ea7 : x_i (x_si w 41 24 (nI s)) 41 23 = nI s := by rw [si_o (show 23 ≠ 24 by decide)]; exact h7
  have ec7 : x_i (x_si (x_si (x_si w 41 24 (nI s)) 41 25 (nI 0)) 41 26 (nI 0)) 41 23 = nI s := by rw [si_o (show 23 ≠ 26 by decide), si_o (show 23 ≠ 25 by decide)]; exact ea7
  have ec24 : x_i (x_si (x_si (x_si w 41 24 (nI s)) 41 25 (nI 0)) 41 26 (nI 0)) 41 24 = nI s := by rw [si_o (show 24 ≠ 26 by decide), si_o (show 24 ≠ 25 by decide), si_s]
  generalize hw : x_si (x_si (x_si w 41 24 (nI s)) 41 25 (nI 0)) 41 26 (nI 0) = wc at *
  have e8 := hTc.2.1
  obtain ⟨hb, hb2⟩ := hTc.2.2.1 s hn
  have tx := x_ix_nI (show s < 160 by omega) (show 160 < 2 ^ 31 by decide)
  have tc := nI_cl (show s < 2 ^ 31 by omega)
  have esn : (nI s = nI n) = False := nI_eqF (by omega) (by omega) (by omega)
  have eL := fun (Q' : Option Value → x_W → Prop) => inL (L := L) (xs := xs) (d := d + 1) (w := wc) (Q := Q') hb2
  rw [bI_t hL] at eL
  have hg := tE_ge (b := b) hn
  have eE : tE b n s = spn isLt b (n - s) s := by unfold tE; rw [if_neg (by omega), if_pos hL]
  obtain ⟨w3, c3, h3, e3⟩ := S141w (L := L) (xs := xs) (d := d + 1) hsc hTc (.int (nI (b s))) x_junk (n - s) s (by omega) wc Ch.refl ec7
  rw [← eE] at h3
  have hs3 := c3.sh hsc
  have hT3 := hTc.ch c3 rfl (fun _ => rfl) (fun _ => rfl)
  have e324 : x_i w3 41 24 = nI s := (c3.2.2 41 24 rfl).trans ec24
  have hall : ∀ j, s ≤ j → j < tE b n s → b j ≠ 32 := fun j h1 h2 => by
    have h4 := spn_all isLt b (n - s) s j h1 (by rw [← eE]; exact h2)
    unfold isLt at h4
    rw [Bool.and_eq_true, decide_eq_true_eq] at h4
    omega
  have e142 := fun (Q' : Option Value → x_W → Prop) => S142l (L := L) (xs := xs) (d := d + 1) (Q := Q') hs3 hT3 hall (show s ≤ tE b n s by omega) hg.2 12 0 rfl x_junk x_junk
  have c3' : Ch pM wc w3 := gp_up c3 rfl rfl
  have eK : tK b n s = if wdF b s (tE b n s) 12 0 < 12 then 256 + wdF b s (tE b n s) 12 0 else 302 := by unfold tK; rw [if_neg (by omega), if_pos hL]
  have fin : ∀ (v v2 : Int32), v = mT (tK b n s) → (tK b n s < 265 → 256 ≤ tK b n s → v2 = nI (mVal b n s (tK b n s))) → (tK b n s ≠ 300) → AtM (x_si (x_si w3 41 25 v) 41 26 v2) b n s := by
    intro v v2 hv hv2 h300
    refine ⟨by omega, ?_, ?_, ?_, fun h1 h2 => ?_⟩
    · rw [si_o (show 25 ≠ 26 by decide), si_s]; exact hv
    · rw [si_o (show 24 ≠ 26 by decide), si_o (show 24 ≠ 25 by decide)]; exact e324
    · rw [si_o (show 23 ≠ 26 by decide), si_o (show 23 ≠ 25 by decide)]; exact h3
    · rw [si_s]
      rcases h2 with z | z
      · exact hv2 z h1
      · exact absurd z h300
  rcases wdG_eq b s (tE b n s) with ⟨g1, f1⟩ | ⟨g1, f1⟩
  · rw [g1] at e142
    rw [f1, if_neg (by decide)] at eK
    refine ⟨x_si (x_si w3 41 25 (-1)) 41 26 (nI 12 - nI 3), ((cc.trans c3').trans (Ch_si rfl)).trans (Ch_si rfl), fin _ _ (by rw [eK]; rfl) (fun z => by omega) (by omega), fun Q => ?_⟩
    have hs4 : Sh (x_si w3 41 25 (-1)) := (Ch_si (P := pM) rfl : Ch pM w3 _).sh hs3
    simp only [X141_52, X141_53, X141_54, X141_57, X141_60, X141_61, X141_62, X141_65, X141_66, X141_67, X141_70, X141_71, X141_74, X141_75, X141_78, X141_82, X141_83, X141_86, X141_87, X141_90, X141_91, X141_92, X141_93, X141_95, X141_97, X141_100, X141_146, X141_147, X141_148, X141_151, X141_152, X141_155, X141_158, X141_159, X141_160, X141_161, X141_162, X141_169, X141_170, X141_172, X141_179, X141_180, X141_182, X141_185, X141_186, X141_195, X141_198, X141_199, X141_200, X141_201, X141_208, X141_209, X141_210, X141_211, X141_214, X141_403, Nat.zero_le, and_true, true_and, x_nb0, x_nb1, x_nbp, x_isL_int, x_isL_ref, x_isL_junk, x_isR_ref, x_cat_nil, x_cat_int, x_cat_ref, x_cat_long, Option.toList_some, Option.toList_none, List.cons_append, List.nil_append, Nat.reduceAdd, Nat.reduceLeDiff, Nat.reduceLT, t_tag_si, t_tag_sr, t_tag_sI, x_r_si, x_i_sr, t_r_sI, x_ia_si, x_ia_sI, x_ia_sr, x_ra_si, x_ra_sI, x_ra_sr, g_t41 hs, h7, g_t41 hsa, g_t41 hsb, ea7, hw, g_t41 hsc, ec7, e8, esn, if_false, g_r41_7 hsc, g_a47 hsc, tx, tc, hb, eL, n10, e3, g_t41 hs3, e324, h3, X142_0, X142_1, e142, nI_leT (show 3 ≤ 12 by decide) (by decide), nI_leT (show 9 ≤ 12 by decide) (by decide), if_true, g_t41 hs4]
  · generalize hr : wdG b s (tE b n s) 12 0 = r at *
    have hq := mqi_lt r g1
    rw [f1, if_pos hq] at eK
    have hmt := mT_word r g1
    by_cases r3 : r < 3
    · rw [if_pos r3] at hmt
      refine ⟨x_si (x_si w3 41 25 (nI 3)) 41 26 (nI r), ((cc.trans c3').trans (Ch_si rfl)).trans (Ch_si rfl), fin _ _ (by rw [eK]; exact hmt) (fun z z2 => by
        have hm : mqi r = r + 6 := if_pos r3
        rw [eK, hm]
        unfold mVal
        rw [if_neg (by omega), if_neg (by omega), if_pos (by omega)]
        rw [show 256 + (r + 6) - 262 = r by omega]) (by omega), fun Q => ?_⟩
      have hs4 : Sh (x_si w3 41 25 (nI 3)) := (Ch_si (P := pM) rfl : Ch pM w3 _).sh hs3
      simp only [X141_52, X141_53, X141_54, X141_57, X141_60, X141_61, X141_62, X141_65, X141_66, X141_67, X141_70, X141_71, X141_74, X141_75, X141_78, X141_82, X141_83, X141_86, X141_87, X141_90, X141_91, X141_92, X141_93, X141_95, X141_97, X141_100, X141_146, X141_147, X141_148, X141_151, X141_152, X141_155, X141_158, X141_159, X141_160, X141_161, X141_162, X141_165, X141_166, X141_195, X141_198, X141_199, X141_200, X141_201, X141_204, X141_205, X141_211, X141_214, X141_403, Nat.zero_le, and_true, true_and, x_nb0, x_nb1, x_nbp, x_isL_int, x_isL_ref, x_isL_junk, x_isR_ref, x_cat_nil, x_cat_int, x_cat_ref, x_cat_long, Option.toList_some, Option.toList_none, List.cons_append, List.nil_append, Nat.reduceAdd, Nat.reduceLeDiff, Nat.reduceLT, t_tag_si, t_tag_sr, t_tag_sI, x_r_si, x_i_sr, t_r_sI, x_ia_si, x_ia_sI, x_ia_sr, x_ra_si, x_ra_sI, x_ra_sr, g_t41 hs, h7, g_t41 hsa, g_t41 hsb, ea7, hw, g_t41 hsc, ec7, e8, esn, if_false, g_r41_7 hsc, g_a47 hsc, tx, tc, hb, eL, n10, e3, g_t41 hs3, e324, h3, X142_0, X142_1, e142, nI_leF r3 (show 3 < 2 ^ 31 by decide), g_t41 hs4]
    · have l3 := nI_leT (Nat.not_lt.mp r3) (show r < 2 ^ 31 by omega)
      rw [if_neg r3] at hmt
      by_cases r9 : r < 9
      · rw [if_pos r9] at hmt
        refine ⟨x_si (x_si w3 41 25 (nI 2)) 41 26 (nI (r - 3)), ((cc.trans c3').trans (Ch_si rfl)).trans (Ch_si rfl), fin _ _ (by rw [eK]; exact hmt) (fun z z2 => by
          have hm : mqi r = r - 3 := (if_neg r3).trans (if_pos r9)
          rw [eK, hm]
          unfold mVal
          rw [if_neg (by omega), if_pos (by omega)]
          rw [show 256 + (r - 3) - 256 = r - 3 by omega]) (by omega), fun Q => ?_⟩
        have hs4 : Sh (x_si w3 41 25 (nI 2)) := (Ch_si (P := pM) rfl : Ch pM w3 _).sh hs3
        simp only [X141_52, X141_53, X141_54, X141_57, X141_60, X141_61, X141_62, X141_65, X141_66, X141_67, X141_70, X141_71, X141_74, X141_75, X141_78, X141_82, X141_83, X141_86, X141_87, X141_90, X141_91, X141_92, X141_93, X141_95, X141_97, X141_100, X141_146, X141_147, X141_148, X141_151, X141_152, X141_155, X141_158, X141_159, X141_160, X141_161, X141_162, X141_169, X141_170, X141_172, X141_175, X141_176, X141_195, X141_198, X141_199, X141_200, X141_201, X141_208, X141_209, X141_210, X141_211, X141_214, X141_403, Nat.zero_le, and_true, true_and, x_nb0, x_nb1, x_nbp, x_isL_int, x_isL_ref, x_isL_junk, x_isR_ref, x_cat_nil, x_cat_int, x_cat_ref, x_cat_long, Option.toList_some, Option.toList_none, List.cons_append, List.nil_append, Nat.reduceAdd, Nat.reduceLeDiff, Nat.reduceLT, t_tag_si, t_tag_sr, t_tag_sI, x_r_si, x_i_sr, t_r_sI, x_ia_si, x_ia_sI, x_ia_sr, x_ra_si, x_ra_sI, x_ra_sr, g_t41 hs, h7, g_t41 hsa, g_t41 hsb, ea7, hw, g_t41 hsc, ec7, e8, esn, if_false, g_r41_7 hsc, g_a47 hsc, tx, tc, hb, eL, n10, e3, g_t41 hs3, e324, h3, X142_0, X142_1, e142, l3, nI_leF r9 (show 9 < 2 ^ 31 by decide), if_true, nI_sub (Nat.not_lt.mp r3), g_t41 hs4]
      · rw [if_neg r9] at hmt
        have e12 : (nI r = nI 12) = False := nI_eqF (by omega) (by omega) (by decide)
        have hm : mqi r = r := (if_neg r3).trans (if_neg r9)
        refine ⟨x_si (x_si w3 41 25 (nI (4 + r - 9))) 41 26 (nI (r - 3)), ((cc.trans c3').trans (Ch_si rfl)).trans (Ch_si rfl), fin _ _ (by rw [eK]; exact hmt) (fun z z2 => by omega) (by omega), fun Q => ?_⟩
        have hs4 : Sh (x_si w3 41 25 (nI (4 + r - 9))) := (Ch_si (P := pM) rfl : Ch pM w3 _).sh hs3
        simp only [X141_52, X141_53, X141_54, X141_57, X141_60, X141_61, X141_62, X141_65, X141_66, X141_67, X141_70, X141_71, X141_74, X141_75, X141_78, X141_82, X141_83, X141_86, X141_87, X141_90, X141_91, X141_92, X141_93, X141_95, X141_97, X141_100, X141_146, X141_147, X141_148, X141_151, X141_152, X141_155, X141_158, X141_159, X141_160, X141_161, X141_162, X141_169, X141_170, X141_172, X141_179, X141_180, X141_182, X141_189, X141_190, X141_191, X141_192, X141_194, X141_195, X141_198, X141_199, X141_200, X141_201, X141_208, X141_209, X141_210, X141_211, X141_214, X141_403, Nat.zero_le, and_true, true_and, x_nb0, x_nb1, x_nbp, x_isL_int, x_isL_ref, x_isL_junk, x_isR_ref, x_cat_nil, x_cat_int, x_cat_ref, x_cat_long, Option.toList_some, Option.toList_none, List.cons_append, List.nil_append, Nat.reduceAdd, Nat.reduceLeDiff, Nat.reduceLT, t_tag_si, t_tag_sr, t_tag_sI, x_r_si, x_i_sr, t_r_sI, x_ia_si, x_ia_sI, x_ia_sr, x_ra_si, x_ra_sI, x_ra_sr, g_t41 hs, h7, g_t41 hsa, g_t41 hsb, ea7, hw, g_t41 hsc, ec7, e8, esn, if_false, g_r41_7 hsc, g_a47 hsc, tx, tc, hb, eL, n10, e3, g_t41 hs3, e324, h3, X142_0, X142_1, e142, l3, nI_leT (Nat.not_lt.mp r9) (show r < 2 ^ 31 by omega), e12, if_true, nI_add, nI_sub (show 9 ≤ 4 + r by omega), nI_sub (Nat.not_lt.mp r3), g_t41 hs4]
end S99994
