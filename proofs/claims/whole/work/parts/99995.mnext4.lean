/-! ===== the reference's next: numbers, signs, the end ===== -/
theorem sg_or : ∀ c, c < 256 → isSg c = true → c = 40 ∨ c = 41 ∨ c = 59 ∨ c = 43 ∨ c = 45 ∨ c = 42 ∨ c = 60 ∨ c = 61 := by decide +kernel
theorem sg_not : ∀ c, c < 256 → ¬ isSg c = true → c ≠ 40 ∧ c ≠ 41 ∧ c ≠ 59 ∧ c ≠ 43 ∧ c ≠ 45 ∧ c ≠ 42 ∧ c ≠ 60 ∧ c ≠ 61 := by decide +kernel
section S99995
variable {L : Nat} {xs : Nat → Int32} {b : Nat → Nat} {n : Nat} {d : Nat} {w : x_W} {Q : Option Value → x_W → Prop}
theorem S141s {c : Nat} (hc : c ≤ 255) : X_R L xs d 141 326 [.ref 41, .int (nI c), x_junk] [] w Q = X_R L xs d 141 380 [.ref 41, .int (nI c), .int (bI (isSg c = true))] [] w Q := by
  by_cases h : isSg c = true
  · rw [bI_t h]
    rcases sg_or c (by omega) h with z | z | z | z | z | z | z | z
    · simp only [X141_326, X141_327, X141_329, X141_374, X141_375, X141_379, Nat.zero_le, and_true, true_and, x_nb0, x_nb1, x_nbp, x_isL_int, x_isL_ref, x_isL_junk, x_isR_ref, x_cat_nil, x_cat_int, x_cat_ref, x_cat_long, Option.toList_some, Option.toList_none, List.cons_append, List.nil_append, Nat.reduceAdd, Nat.reduceLeDiff, Nat.reduceLT, t_tag_si, t_tag_sr, t_tag_sI, x_r_si, x_i_sr, t_r_sI, x_ia_si, x_ia_sI, x_ia_sr, x_ra_si, x_ra_sI, x_ra_sr, eq_true (congrArg nI (show c = 40 by omega)), if_true, if_false, ne_eq, not_true_eq_false]
    · simp only [X141_326, X141_327, X141_329, X141_332, X141_333, X141_335, X141_374, X141_375, X141_379, Nat.zero_le, and_true, true_and, x_nb0, x_nb1, x_nbp, x_isL_int, x_isL_ref, x_isL_junk, x_isR_ref, x_cat_nil, x_cat_int, x_cat_ref, x_cat_long, Option.toList_some, Option.toList_none, List.cons_append, List.nil_append, Nat.reduceAdd, Nat.reduceLeDiff, Nat.reduceLT, t_tag_si, t_tag_sr, t_tag_sI, x_r_si, x_i_sr, t_r_sI, x_ia_si, x_ia_sI, x_ia_sr, x_ra_si, x_ra_sI, x_ra_sr, nI_eqF (show c ≠ 40 by omega) (by omega) (by decide), eq_true (congrArg nI (show c = 41 by omega)), if_true, if_false, ne_eq, not_true_eq_false]
    · simp only [X141_326, X141_327, X141_329, X141_332, X141_333, X141_335, X141_338, X141_339, X141_341, X141_374, X141_375, X141_379, Nat.zero_le, and_true, true_and, x_nb0, x_nb1, x_nbp, x_isL_int, x_isL_ref, x_isL_junk, x_isR_ref, x_cat_nil, x_cat_int, x_cat_ref, x_cat_long, Option.toList_some, Option.toList_none, List.cons_append, List.nil_append, Nat.reduceAdd, Nat.reduceLeDiff, Nat.reduceLT, t_tag_si, t_tag_sr, t_tag_sI, x_r_si, x_i_sr, t_r_sI, x_ia_si, x_ia_sI, x_ia_sr, x_ra_si, x_ra_sI, x_ra_sr, nI_eqF (show c ≠ 40 by omega) (by omega) (by decide), nI_eqF (show c ≠ 41 by omega) (by omega) (by decide), eq_true (congrArg nI (show c = 59 by omega)), if_true, if_false, ne_eq, not_true_eq_false]
    · simp only [X141_326, X141_327, X141_329, X141_332, X141_333, X141_335, X141_338, X141_339, X141_341, X141_344, X141_345, X141_347, X141_374, X141_375, X141_379, Nat.zero_le, and_true, true_and, x_nb0, x_nb1, x_nbp, x_isL_int, x_isL_ref, x_isL_junk, x_isR_ref, x_cat_nil, x_cat_int, x_cat_ref, x_cat_long, Option.toList_some, Option.toList_none, List.cons_append, List.nil_append, Nat.reduceAdd, Nat.reduceLeDiff, Nat.reduceLT, t_tag_si, t_tag_sr, t_tag_sI, x_r_si, x_i_sr, t_r_sI, x_ia_si, x_ia_sI, x_ia_sr, x_ra_si, x_ra_sI, x_ra_sr, nI_eqF (show c ≠ 40 by omega) (by omega) (by decide), nI_eqF (show c ≠ 41 by omega) (by omega) (by decide), nI_eqF (show c ≠ 59 by omega) (by omega) (by decide), eq_true (congrArg nI (show c = 43 by omega)), if_true, if_false, ne_eq, not_true_eq_false]
    · simp only [X141_326, X141_327, X141_329, X141_332, X141_333, X141_335, X141_338, X141_339, X141_341, X141_344, X141_345, X141_347, X141_350, X141_351, X141_353, X141_374, X141_375, X141_379, Nat.zero_le, and_true, true_and, x_nb0, x_nb1, x_nbp, x_isL_int, x_isL_ref, x_isL_junk, x_isR_ref, x_cat_nil, x_cat_int, x_cat_ref, x_cat_long, Option.toList_some, Option.toList_none, List.cons_append, List.nil_append, Nat.reduceAdd, Nat.reduceLeDiff, Nat.reduceLT, t_tag_si, t_tag_sr, t_tag_sI, x_r_si, x_i_sr, t_r_sI, x_ia_si, x_ia_sI, x_ia_sr, x_ra_si, x_ra_sI, x_ra_sr, nI_eqF (show c ≠ 40 by omega) (by omega) (by decide), nI_eqF (show c ≠ 41 by omega) (by omega) (by decide), nI_eqF (show c ≠ 59 by omega) (by omega) (by decide), nI_eqF (show c ≠ 43 by omega) (by omega) (by decide), eq_true (congrArg nI (show c = 45 by omega)), if_true, if_false, ne_eq, not_true_eq_false]
    · simp only [X141_326, X141_327, X141_329, X141_332, X141_333, X141_335, X141_338, X141_339, X141_341, X141_344, X141_345, X141_347, X141_350, X141_351, X141_353, X141_356, X141_357, X141_359, X141_374, X141_375, X141_379, Nat.zero_le, and_true, true_and, x_nb0, x_nb1, x_nbp, x_isL_int, x_isL_ref, x_isL_junk, x_isR_ref, x_cat_nil, x_cat_int, x_cat_ref, x_cat_long, Option.toList_some, Option.toList_none, List.cons_append, List.nil_append, Nat.reduceAdd, Nat.reduceLeDiff, Nat.reduceLT, t_tag_si, t_tag_sr, t_tag_sI, x_r_si, x_i_sr, t_r_sI, x_ia_si, x_ia_sI, x_ia_sr, x_ra_si, x_ra_sI, x_ra_sr, nI_eqF (show c ≠ 40 by omega) (by omega) (by decide), nI_eqF (show c ≠ 41 by omega) (by omega) (by decide), nI_eqF (show c ≠ 59 by omega) (by omega) (by decide), nI_eqF (show c ≠ 43 by omega) (by omega) (by decide), nI_eqF (show c ≠ 45 by omega) (by omega) (by decide), eq_true (congrArg nI (show c = 42 by omega)), if_true, if_false, ne_eq, not_true_eq_false]
    · simp only [X141_326, X141_327, X141_329, X141_332, X141_333, X141_335, X141_338, X141_339, X141_341, X141_344, X141_345, X141_347, X141_350, X141_351, X141_353, X141_356, X141_357, X141_359, X141_362, X141_363, X141_365, X141_374, X141_375, X141_379, Nat.zero_le, and_true, true_and, x_nb0, x_nb1, x_nbp, x_isL_int, x_isL_ref, x_isL_junk, x_isR_ref, x_cat_nil, x_cat_int, x_cat_ref, x_cat_long, Option.toList_some, Option.toList_none, List.cons_append, List.nil_append, Nat.reduceAdd, Nat.reduceLeDiff, Nat.reduceLT, t_tag_si, t_tag_sr, t_tag_sI, x_r_si, x_i_sr, t_r_sI, x_ia_si, x_ia_sI, x_ia_sr, x_ra_si, x_ra_sI, x_ra_sr, nI_eqF (show c ≠ 40 by omega) (by omega) (by decide), nI_eqF (show c ≠ 41 by omega) (by omega) (by decide), nI_eqF (show c ≠ 59 by omega) (by omega) (by decide), nI_eqF (show c ≠ 43 by omega) (by omega) (by decide), nI_eqF (show c ≠ 45 by omega) (by omega) (by decide), nI_eqF (show c ≠ 42 by omega) (by omega) (by decide), eq_true (congrArg nI (show c = 60 by omega)), if_true, if_false, ne_eq, not_true_eq_false]
    · simp only [X141_326, X141_327, X141_329, X141_332, X141_333, X141_335, X141_338, X141_339, X141_341, X141_344, X141_345, X141_347, X141_350, X141_351, X141_353, X141_356, X141_357, X141_359, X141_362, X141_363, X141_365, X141_368, X141_369, X141_371, X141_374, X141_375, X141_379, Nat.zero_le, and_true, true_and, x_nb0, x_nb1, x_nbp, x_isL_int, x_isL_ref, x_isL_junk, x_isR_ref, x_cat_nil, x_cat_int, x_cat_ref, x_cat_long, Option.toList_some, Option.toList_none, List.cons_append, List.nil_append, Nat.reduceAdd, Nat.reduceLeDiff, Nat.reduceLT, t_tag_si, t_tag_sr, t_tag_sI, x_r_si, x_i_sr, t_r_sI, x_ia_si, x_ia_sI, x_ia_sr, x_ra_si, x_ra_sI, x_ra_sr, nI_eqF (show c ≠ 40 by omega) (by omega) (by decide), nI_eqF (show c ≠ 41 by omega) (by omega) (by decide), nI_eqF (show c ≠ 59 by omega) (by omega) (by decide), nI_eqF (show c ≠ 43 by omega) (by omega) (by decide), nI_eqF (show c ≠ 45 by omega) (by omega) (by decide), nI_eqF (show c ≠ 42 by omega) (by omega) (by decide), nI_eqF (show c ≠ 60 by omega) (by omega) (by decide), eq_true (congrArg nI (show c = 61 by omega)), if_true, if_false, ne_eq, not_true_eq_false]
  · rw [bI_f h]
    have z := sg_not c (by omega) h
    simp only [X141_326, X141_327, X141_329, X141_332, X141_333, X141_335, X141_338, X141_339, X141_341, X141_344, X141_345, X141_347, X141_350, X141_351, X141_353, X141_356, X141_357, X141_359, X141_362, X141_363, X141_365, X141_368, X141_369, X141_371, X141_378, X141_379, Nat.zero_le, and_true, true_and, x_nb0, x_nb1, x_nbp, x_isL_int, x_isL_ref, x_isL_junk, x_isR_ref, x_cat_nil, x_cat_int, x_cat_ref, x_cat_long, Option.toList_some, Option.toList_none, List.cons_append, List.nil_append, Nat.reduceAdd, Nat.reduceLeDiff, Nat.reduceLT, t_tag_si, t_tag_sr, t_tag_sI, x_r_si, x_i_sr, t_r_sI, x_ia_si, x_ia_sI, x_ia_sr, x_ra_si, x_ra_sI, x_ra_sr, nI_eqF (show c ≠ 40 by omega) (by omega) (by decide), nI_eqF (show c ≠ 41 by omega) (by omega) (by decide), nI_eqF (show c ≠ 59 by omega) (by omega) (by decide), nI_eqF (show c ≠ 43 by omega) (by omega) (by decide), nI_eqF (show c ≠ 45 by omega) (by omega) (by decide), nI_eqF (show c ≠ 42 by omega) (by omega) (by decide), nI_eqF (show c ≠ 60 by omega) (by omega) (by decide), nI_eqF (show c ≠ 61 by omega) (by omega) (by decide), if_true, if_false, ne_eq, not_false_eq_true]
theorem S141t (hs : Sh w) (hT : TPm w b n) {s : Nat} (h7 : x_i w 41 23 = nI s) (hn : s ≤ n) : ∃ w2, Ch pM w w2 ∧ AtM w2 b n s ∧ ∀ Q, X_R L xs (d + 2) 141 52 [.ref 41, x_junk, x_junk] [] w Q = Q none w2 := by
  have h160 := hT.1
  by_cases hL : s < n ∧ isLt (b s) = true
  · exact S141r hs hT h7 hL.1 hL.2
  have ca : Ch pM w (x_si w 41 24 (nI s)) := Ch_si rfl
  have cb : Ch pM w (x_si (x_si w 41 24 (nI s)) 41 25 (nI 0)) := ca.trans (Ch_si rfl)
  have cc : Ch pM w (x_si (x_si (x_si w 41 24 (nI s)) 41 25 (nI 0)) 41 26 (nI 0)) := cb.trans (Ch_si rfl)
  have hsa := ca.sh hs
  have hsb := cb.sh hs
  have hsc := cc.sh hs
  have hTc := hT.ch cc rfl (fun _ => rfl) (fun _ => rfl)
  have ea7 : x_i (x_si w 41 24 (nI s)) 41 23 = nI s := by rw [si_o (show 23 ≠ 24 by decide)]; exact h7
  have ec7 : x_i (x_si (x_si (x_si w 41 24 (nI s)) 41 25 (nI 0)) 41 26 (nI 0)) 41 23 = nI s := by rw [si_o (show 23 ≠ 26 by decide), si_o (show 23 ≠ 25 by decide)]; exact ea7
  have ec24 : x_i (x_si (x_si (x_si w 41 24 (nI s)) 41 25 (nI 0)) 41 26 (nI 0)) 41 24 = nI s := by rw [si_o (show 24 ≠ 26 by decide), si_o (show 24 ≠ 25 by decide), si_s]
  have ec25 : x_i (x_si (x_si (x_si w 41 24 (nI s)) 41 25 (nI 0)) 41 26 (nI 0)) 41 25 = nI 0 := by rw [si_o (show 25 ≠ 26 by decide), si_s]
  have ec26 : x_i (x_si (x_si (x_si w 41 24 (nI s)) 41 25 (nI 0)) 41 26 (nI 0)) 41 26 = nI 0 := si_s
  generalize hw : x_si (x_si (x_si w 41 24 (nI s)) 41 25 (nI 0)) 41 26 (nI 0) = wc at *
  have e8 := hTc.2.1
  by_cases hend : s = n
  · refine ⟨wc, cc, ⟨hn, ?_, ec24, ?_, fun h1 h2 => ?_⟩, fun Q => ?_⟩
    · rw [ec25]; unfold tK; rw [if_pos (by omega)]; rfl
    · rw [ec7]; unfold tE; rw [if_pos (by omega)]
    · exfalso; revert h2; unfold tK; rw [if_pos (by omega)]; decide
    · simp only [X141_52, X141_53, X141_54, X141_57, X141_60, X141_61, X141_62, X141_65, X141_66, X141_67, X141_70, X141_71, X141_74, X141_75, X141_78, X141_81, Nat.zero_le, and_true, true_and, x_nb0, x_nb1, x_nbp, x_isL_int, x_isL_ref, x_isL_junk, x_isR_ref, x_cat_nil, x_cat_int, x_cat_ref, x_cat_long, Option.toList_some, Option.toList_none, List.cons_append, List.nil_append, Nat.reduceAdd, Nat.reduceLeDiff, Nat.reduceLT, t_tag_si, t_tag_sr, t_tag_sI, x_r_si, x_i_sr, t_r_sI, x_ia_si, x_ia_sI, x_ia_sr, x_ra_si, x_ra_sI, x_ra_sr, g_t41 hs, h7, g_t41 hsa, g_t41 hsb, ea7, hw, g_t41 hsc, ec7, e8, eq_true (congrArg nI hend), ne_eq, not_true_eq_false, if_false, if_true]
  have hlt : s < n := by omega
  have hnL : ¬ isLt (b s) = true := fun z => hL ⟨hlt, z⟩
  obtain ⟨hb, hb2⟩ := hTc.2.2.1 s hlt
  have tx := x_ix_nI (show s < 160 by omega) (show 160 < 2 ^ 31 by decide)
  have tc := nI_cl (show s < 2 ^ 31 by omega)
  have esn : (nI s = nI n) = False := nI_eqF (by omega) (by omega) (by omega)
  have eL := fun (Q' : Option Value → x_W → Prop) => inL (L := L) (xs := xs) (d := d + 1) (w := wc) (Q := Q') hb2
  have eD := fun (Q' : Option Value → x_W → Prop) => inD (L := L) (xs := xs) (d := d + 1) (w := wc) (Q := Q') hb2
  rw [bI_f hnL] at eL
  have hg := tE_ge (b := b) hlt
  by_cases hD : isDg (b s) = true
  · rw [bI_t hD] at eD
    have eE : tE b n s = spn isDg b (n - s) s := by unfold tE; rw [if_neg (by omega), if_neg hnL, if_pos hD]
    have eK : tK b n s = if tE b n s - s ≤ 4 then 300 else 302 := by unfold tK; rw [if_neg (by omega), if_neg hnL, if_pos hD]
    obtain ⟨w3, c3, h3, h38, e3⟩ := S141d (L := L) (xs := xs) (d := d + 1) (s := s) hsc hTc (.int (nI (b s))) rfl (n - s) 0 (by omega) wc Ch.refl ec7 (by rw [ec26]; rfl)
    rw [Nat.add_zero, ← eE] at h3 h38
    simp only [Nat.add_zero, ← eE] at e3
    have hs3 := c3.sh hsc
    have e324 : x_i w3 41 24 = nI s := (c3.2.2 41 24 rfl).trans ec24
    have c3' : Ch pM wc w3 := gp_up c3 rfl rfl
    have fin : ∀ v : Int32, v = mT (tK b n s) → (tK b n s = 300 → tE b n s - s ≤ 4) → ¬ (tK b n s < 265) → AtM (x_si w3 41 25 v) b n s := by
      intro v hv hv2 hv3
      refine ⟨by omega, ?_, ?_, ?_, fun h1 h2 => ?_⟩
      · rw [si_s]; exact hv
      · rw [si_o (show 24 ≠ 25 by decide)]; exact e324
      · rw [si_o (show 23 ≠ 25 by decide)]; exact h3
      · rcases h2 with z | z
        · exact absurd z hv3
        · rw [si_o (show 26 ≠ 25 by decide), h38]
          unfold mVal mV
          rw [if_pos z, if_pos (hv2 z)]
    by_cases h4 : tE b n s - s ≤ 4
    · rw [if_pos h4] at eK
      refine ⟨x_si w3 41 25 (nI 1), (cc.trans c3').trans (Ch_si rfl), fin _ (by rw [eK]; rfl) (fun _ => h4) (by omega), fun Q => ?_⟩
      simp only [X141_52, X141_53, X141_54, X141_57, X141_60, X141_61, X141_62, X141_65, X141_66, X141_67, X141_70, X141_71, X141_74, X141_75, X141_78, X141_82, X141_83, X141_86, X141_87, X141_90, X141_91, X141_92, X141_93, X141_95, X141_97, X141_100, X141_217, X141_218, X141_220, X141_222, X141_225, X141_228, X141_229, Nat.zero_le, and_true, true_and, x_nb0, x_nb1, x_nbp, x_isL_int, x_isL_ref, x_isL_junk, x_isR_ref, x_cat_nil, x_cat_int, x_cat_ref, x_cat_long, Option.toList_some, Option.toList_none, List.cons_append, List.nil_append, Nat.reduceAdd, Nat.reduceLeDiff, Nat.reduceLT, t_tag_si, t_tag_sr, t_tag_sI, x_r_si, x_i_sr, t_r_sI, x_ia_si, x_ia_sI, x_ia_sr, x_ra_si, x_ra_sI, x_ra_sr, g_t41 hs, h7, g_t41 hsa, g_t41 hsb, ea7, hw, g_t41 hsc, ec7, e8, esn, if_false, g_r41_7 hsc, g_a47 hsc, tx, tc, hb, eL, eD, n10, e3, if_true]
      simp only [X141_309, X141_310, X141_311, X141_312, X141_319, X141_320, X141_323, X141_403, Nat.zero_le, and_true, true_and, x_nb0, x_nb1, x_nbp, x_isL_int, x_isL_ref, x_isL_junk, x_isR_ref, x_cat_nil, x_cat_int, x_cat_ref, x_cat_long, Option.toList_some, Option.toList_none, List.cons_append, List.nil_append, Nat.reduceAdd, Nat.reduceLeDiff, Nat.reduceLT, t_tag_si, t_tag_sr, t_tag_sI, x_r_si, x_i_sr, t_r_sI, x_ia_si, x_ia_sI, x_ia_sr, x_ra_si, x_ra_sI, x_ra_sr, g_t41 hs3, nI_leT h4 (show 4 < 2 ^ 31 by decide), if_true]
    · rw [if_neg h4] at eK
      refine ⟨x_si w3 41 25 (-1), (cc.trans c3').trans (Ch_si rfl), fin _ (by rw [eK]; rfl) (fun z => by omega) (by omega), fun Q => ?_⟩
      simp only [X141_52, X141_53, X141_54, X141_57, X141_60, X141_61, X141_62, X141_65, X141_66, X141_67, X141_70, X141_71, X141_74, X141_75, X141_78, X141_82, X141_83, X141_86, X141_87, X141_90, X141_91, X141_92, X141_93, X141_95, X141_97, X141_100, X141_217, X141_218, X141_220, X141_222, X141_225, X141_228, X141_229, Nat.zero_le, and_true, true_and, x_nb0, x_nb1, x_nbp, x_isL_int, x_isL_ref, x_isL_junk, x_isR_ref, x_cat_nil, x_cat_int, x_cat_ref, x_cat_long, Option.toList_some, Option.toList_none, List.cons_append, List.nil_append, Nat.reduceAdd, Nat.reduceLeDiff, Nat.reduceLT, t_tag_si, t_tag_sr, t_tag_sI, x_r_si, x_i_sr, t_r_sI, x_ia_si, x_ia_sI, x_ia_sr, x_ra_si, x_ra_sI, x_ra_sr, g_t41 hs, h7, g_t41 hsa, g_t41 hsb, ea7, hw, g_t41 hsc, ec7, e8, esn, if_false, g_r41_7 hsc, g_a47 hsc, tx, tc, hb, eL, eD, n10, e3, if_true]
      simp only [X141_309, X141_310, X141_311, X141_312, X141_315, X141_316, X141_320, X141_323, X141_403, Nat.zero_le, and_true, true_and, x_nb0, x_nb1, x_nbp, x_isL_int, x_isL_ref, x_isL_junk, x_isR_ref, x_cat_nil, x_cat_int, x_cat_ref, x_cat_long, Option.toList_some, Option.toList_none, List.cons_append, List.nil_append, Nat.reduceAdd, Nat.reduceLeDiff, Nat.reduceLT, t_tag_si, t_tag_sr, t_tag_sI, x_r_si, x_i_sr, t_r_sI, x_ia_si, x_ia_sI, x_ia_sr, x_ra_si, x_ra_sI, x_ra_sr, g_t41 hs3, nI_leF (Nat.not_le.mp h4) (show tE b n s - s < 2 ^ 31 by omega), if_false]
  · rw [bI_f hD] at eD
    have eE : tE b n s = s + 1 := by unfold tE; rw [if_neg (by omega), if_neg hnL, if_neg hD]
    have eK : tK b n s = if isSg (b s) = true then b s else 302 := by unfold tK; rw [if_neg (by omega), if_neg hnL, if_neg hD]
    have fin : ∀ v : Int32, v = mT (tK b n s) → (¬ 256 ≤ tK b n s ∨ tK b n s = 302) → AtM (x_si (x_si wc 41 25 v) 41 23 (nI (s + 1))) b n s := by
      intro v hv hv2
      refine ⟨by omega, ?_, ?_, ?_, fun h1 h2 => ?_⟩
      · rw [si_o (show 25 ≠ 23 by decide), si_s]; exact hv
      · rw [si_o (show 24 ≠ 23 by decide), si_o (show 24 ≠ 25 by decide)]; exact ec24
      · rw [si_s, eE]
      · omega
    by_cases hG : isSg (b s) = true
    · rw [if_pos hG] at eK
      have e41 := fun (Q' : Option Value → x_W → Prop) => S141s (L := L) (xs := xs) (d := d + 2) (w := wc) (Q := Q') hb2
      rw [bI_t hG] at e41
      have c4 : Ch pM wc (x_si wc 41 25 (nI (b s))) := Ch_si rfl
      have e47 : x_i (x_si wc 41 25 (nI (b s))) 41 23 = nI s := by rw [si_o (show 23 ≠ 25 by decide)]; exact ec7
      refine ⟨_, (cc.trans c4).trans (Ch_si rfl), fin (nI (b s)) (by rw [eK, mT_sg _ (by omega)]) (Or.inl (by omega)), fun Q => ?_⟩
      simp only [X141_52, X141_53, X141_54, X141_57, X141_60, X141_61, X141_62, X141_65, X141_66, X141_67, X141_70, X141_71, X141_74, X141_75, X141_78, X141_82, X141_83, X141_86, X141_87, X141_90, X141_91, X141_92, X141_93, X141_95, X141_97, X141_100, X141_217, X141_218, X141_220, X141_222, X141_225, Nat.zero_le, and_true, true_and, x_nb0, x_nb1, x_nbp, x_isL_int, x_isL_ref, x_isL_junk, x_isR_ref, x_cat_nil, x_cat_int, x_cat_ref, x_cat_long, Option.toList_some, Option.toList_none, List.cons_append, List.nil_append, Nat.reduceAdd, Nat.reduceLeDiff, Nat.reduceLT, t_tag_si, t_tag_sr, t_tag_sI, x_r_si, x_i_sr, t_r_sI, x_ia_si, x_ia_sI, x_ia_sr, x_ra_si, x_ra_sI, x_ra_sr, g_t41 hs, h7, g_t41 hsa, g_t41 hsb, ea7, hw, g_t41 hsc, ec7, e8, esn, if_false, g_r41_7 hsc, g_a47 hsc, tx, tc, hb, eL, eD, n10, e41, if_true]
      simp only [X141_380, X141_381, X141_382, X141_385, X141_386, X141_390, X141_393, X141_394i, X141_394, X141_395, X141_398, X141_399, X141_400, X141_403, Nat.zero_le, and_true, true_and, x_nb0, x_nb1, x_nbp, x_isL_int, x_isL_ref, x_isL_junk, x_isR_ref, x_cat_nil, x_cat_int, x_cat_ref, x_cat_long, Option.toList_some, Option.toList_none, List.cons_append, List.nil_append, Nat.reduceAdd, Nat.reduceLeDiff, Nat.reduceLT, t_tag_si, t_tag_sr, t_tag_sI, x_r_si, x_i_sr, t_r_sI, x_ia_si, x_ia_sI, x_ia_sr, x_ra_si, x_ra_sI, x_ra_sr, g_t41 hsc, n10, if_false, g_t41 (c4.sh hsc), e47, nI_add]
    · rw [if_neg hG] at eK
      have e41 := fun (Q' : Option Value → x_W → Prop) => S141s (L := L) (xs := xs) (d := d + 2) (w := wc) (Q := Q') hb2
      rw [bI_f hG] at e41
      have c4 : Ch pM wc (x_si wc 41 25 (-1)) := Ch_si rfl
      have e47 : x_i (x_si wc 41 25 (-1)) 41 23 = nI s := by rw [si_o (show 23 ≠ 25 by decide)]; exact ec7
      refine ⟨_, (cc.trans c4).trans (Ch_si rfl), fin (-1) (by rw [eK]; rfl) (Or.inr eK), fun Q => ?_⟩
      simp only [X141_52, X141_53, X141_54, X141_57, X141_60, X141_61, X141_62, X141_65, X141_66, X141_67, X141_70, X141_71, X141_74, X141_75, X141_78, X141_82, X141_83, X141_86, X141_87, X141_90, X141_91, X141_92, X141_93, X141_95, X141_97, X141_100, X141_217, X141_218, X141_220, X141_222, X141_225, Nat.zero_le, and_true, true_and, x_nb0, x_nb1, x_nbp, x_isL_int, x_isL_ref, x_isL_junk, x_isR_ref, x_cat_nil, x_cat_int, x_cat_ref, x_cat_long, Option.toList_some, Option.toList_none, List.cons_append, List.nil_append, Nat.reduceAdd, Nat.reduceLeDiff, Nat.reduceLT, t_tag_si, t_tag_sr, t_tag_sI, x_r_si, x_i_sr, t_r_sI, x_ia_si, x_ia_sI, x_ia_sr, x_ra_si, x_ra_sI, x_ra_sr, g_t41 hs, h7, g_t41 hsa, g_t41 hsb, ea7, hw, g_t41 hsc, ec7, e8, esn, if_false, g_r41_7 hsc, g_a47 hsc, tx, tc, hb, eL, eD, n10, e41, if_true]
      simp only [X141_380, X141_381, X141_382, X141_389, X141_390, X141_393, X141_394i, X141_394, X141_395, X141_398, X141_399, X141_400, X141_403, Nat.zero_le, and_true, true_and, x_nb0, x_nb1, x_nbp, x_isL_int, x_isL_ref, x_isL_junk, x_isR_ref, x_cat_nil, x_cat_int, x_cat_ref, x_cat_long, Option.toList_some, Option.toList_none, List.cons_append, List.nil_append, Nat.reduceAdd, Nat.reduceLeDiff, Nat.reduceLT, t_tag_si, t_tag_sr, t_tag_sI, x_r_si, x_i_sr, t_r_sI, x_ia_si, x_ia_sI, x_ia_sr, x_ra_si, x_ra_sI, x_ra_sr, g_t41 hsc, n10, if_true, g_t41 (c4.sh hsc), e47, nI_add]
theorem S141 (hs : Sh w) (hT : TPm w b n) {p : Nat} (h7 : x_i w 41 23 = nI p) (hp : p ≤ n) : ∃ w2, Ch pM w w2 ∧ AtM w2 b n (tS b n p) ∧ ∀ Q, X_R L xs (d + 2) 141 0 [.ref 41, x_junk, x_junk] [] w Q = Q none w2 := by
  obtain ⟨w2, c2, h2, e2⟩ := S141k (L := L) (xs := xs) (d := d + 2) hs hT x_junk x_junk (n - p) p (by omega) w Ch.refl h7
  have hg := tS_ge (b := b) hp
  obtain ⟨w3, c3, h3, e3⟩ := S141t (L := L) (xs := xs) (d := d) (c2.sh hs) (hT.ch c2 rfl (fun _ => rfl) (fun _ => rfl)) h2 hg.2
  exact ⟨w3, c2.trans c3, h3, fun Q => (e2 Q).trans (e3 Q)⟩
end S99995
