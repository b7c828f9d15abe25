/-! ===== the class's reader: not, and all of it ===== -/
theorem endT_3 {t : Nat} (he : endT 5 t) : endT 3 t := by
  rcases sgC t with z | rfl | rfl | rfl | rfl | rfl | rfl | rfl
  · exact Or.inl z
  all_goals first
    | (exact Or.inr (Or.inl (by decide)))
    | (exact Or.inr (Or.inr (by decide)))
    | (exact absurd he (by unfold endT; decide))
section S9996
variable {L : Nat} {xs : Nat → Int32} {b : Nat → Nat} {n s : Nat}
theorem Lv126_of (hSum : ∀ s2, s ≤ s2 → Lv L xs b n 129 [x_junk, x_junk] 2 5 5 WT s2) (hNot : ∀ s2, s < s2 → Lv L xs b n 126 [x_junk] 3 3 4 W2 s2) : Lv L xs b n 126 [x_junk] 3 3 4 W2 s := by
  intro d o out w hd hs hT h
  obtain ⟨d', rfl⟩ : ∃ d', d = d' + 8 := ⟨d - 8, by omega⟩
  have a5 := h.1.2.1
  have hle := h.2.2.2.2.2.1
  have ho := h.2.2.2.2.2.2
  have h160 := hT.1
  have hK := tK_lt (s := s) hT
  have hsn := h.s_le
  by_cases k267 : tK b n s = 267
  · have hlt := tK_end hsn (by rw [k267]; decide)
    have hg := tN_gt (b := b) hlt
    rw [k267] at a5
    obtain ⟨w1, c1, h1, e1⟩ := S127 (L := L) (xs := xs) (d := d') hs hT h hlt
    have hs1 := c1.shT hs
    have hT1 := hT.ch c1 rfl (fun _ => rfl)
    by_cases ho5 : o < 5
    · rw [if_pos ho5] at h1
      obtain ⟨w2, c2, e2, hr⟩ := hNot (tN b n s) hg.1 (d' + 7) (o + 1) out w1 (by omega) hs1 hT1 h1
      have hs2 := c2.shT hs1
      have hst : ∀ H om wt, cnt H = o → W2 b n s wt → mst b n (H, om, s, wt) = .inl (13 :: H, om, tN b n s, 2) := by
        intro H om wt hc hw
        rw [show wt = 2 from hw, mst_not k267, if_neg (by omega)]
      rcases hr with ⟨f, hf, hm⟩ | ⟨s1, ext, hp, hss, hex, hwf, he, hm⟩
      · have c3 : Ch pP w2 (x_si w2 1 9 (x_i w2 1 9 - nI 1)) := Ch_si rfl
        obtain ⟨w4, c4, h4, e4⟩ := S128F (L := L) (xs := xs) (d := d' + 7) (v := (-6) - nI 267) (c3.shT hs2) hf.opn
        have hs3 := c3.shT hs2
        refine ⟨w4, ((c1.trans c2).trans c3).trans c4, fun Q => ?_, Or.inl ⟨f, h4, fun H om wt hc hh hw => ?_⟩⟩
        · simp only [X126_0, X126_1, X126_4, X126_7, X126_10, X126_11, X126_14, X126_15, X126_18, X126_19i, X126_19, X126_20, X126_23, X126_24, X126_25, X126_28, X126_29, X126_32, X126_35, X126_38, Nat.zero_le, and_true, true_and, x_nb0, x_nb1, x_nbp, x_isL_int, x_isL_ref, x_isL_junk, x_isR_ref, x_cat_nil, x_cat_int, x_cat_ref, x_cat_long, Option.toList_some, Option.toList_none, List.cons_append, List.nil_append, Nat.reduceAdd, Nat.reduceLeDiff, Nat.reduceLT, t_tag_si, t_tag_sr, t_tag_sI, x_r_si, x_i_sr, t_r_sI, x_ia_si, x_ia_sI, x_ia_sr, x_ra_si, x_ra_sI, x_ra_sr, k_t1 hs, a5, if_true, e1, k_t1 hs1, e2, k_t1 hs2, S78, k_t1 hs3, e4]
        · exact Rch_s (hst H om wt hc hw) (hm (13 :: H) om 2 (by show 1 + cnt H = o + 1; omega) (by show 3 < 4; decide) rfl)
      · have e19 : x_i w2 1 9 = nI (o + 1) := hp.2.1
        have hp3 := hp.shut
        have c3 : Ch pP w2 (x_si w2 1 9 (nI o)) := Ch_si rfl
        have hs3 := c3.shT hs2
        have hlen : (out ++ ext).length = out.length + ext.length := List.length_append
        have hs1n := hp.s_le
        have e128 := fun (Q' : Option Value → x_W → Prop) => S128 (L := L) (xs := xs) (d := d' + 7) (Q := Q') hs3 hp3.2.2.2.1 (by omega) (v := (-6) - nI 267)
        have hp4 := hp3.emit (t := 20013) (by omega)
        have esx : sxT 20013 = (-6) - nI 267 := rfl
        rw [esx] at hp4
        refine ⟨_, ((c1.trans c2).trans c3).trans Ch_emit, fun Q => ?_, Or.inr ⟨s1, ext ++ [20013], by rw [← List.append_assoc]; exact hp4, by omega, by rw [List.length_append]; show ext.length + 1 ≤ _; omega, wfL_un (c := 13) (Or.inl rfl) hwf, he, fun H om wt hc hh hw => ?_⟩⟩
        · simp only [X126_0, X126_1, X126_4, X126_7, X126_10, X126_11, X126_14, X126_15, X126_18, X126_19i, X126_19, X126_20, X126_23, X126_24, X126_25, X126_28, X126_29, X126_32, X126_35, X126_38, Nat.zero_le, and_true, true_and, x_nb0, x_nb1, x_nbp, x_isL_int, x_isL_ref, x_isL_junk, x_isR_ref, x_cat_nil, x_cat_int, x_cat_ref, x_cat_long, Option.toList_some, Option.toList_none, List.cons_append, List.nil_append, Nat.reduceAdd, Nat.reduceLeDiff, Nat.reduceLT, t_tag_si, t_tag_sr, t_tag_sI, x_r_si, x_i_sr, t_r_sI, x_ia_si, x_ia_sI, x_ia_sr, x_ra_si, x_ra_sI, x_ra_sr, k_t1 hs, a5, if_true, e1, k_t1 hs1, e2, k_t1 hs2, e19, nI_sub (show 1 ≤ o + 1 by omega), Nat.add_sub_cancel, S78, k_t1 hs3, e128]
        · obtain ⟨pend, om', q1, q2, q3, q4⟩ := hm (13 :: H) om 2 (by show 1 + cnt H = o + 1; omega) (by show 3 < 4; decide) rfl
          have ea : pend ++ (13 :: H) = (pend ++ [13]) ++ H := by rw [List.append_assoc]; rfl
          refine ⟨pend ++ [13], om', fun x hx => ?_, ?_, ?_, fun z z2 => ?_⟩
          · rcases List.mem_append.mp hx with q | q
            · exact q1 x q
            · rw [List.mem_singleton.mp q]; decide
          · unfold cds at *
            rw [List.map_append, ← List.append_assoc, q2, List.append_assoc]
            rfl
          · rw [← ea]; exact (Lds_s (hst H om wt hc hw)).trans q3
          · rw [← ea]; exact q4 (by decide) z2
    · rw [if_neg ho5] at h1
      obtain ⟨w2, c2, h2, e2⟩ := F126 (L := L) (xs := xs) (d := d' + 3) w1 s hs1 h1
      have hs2 := c2.shT hs1
      have c3 : Ch pP w2 (x_si w2 1 9 (x_i w2 1 9 - nI 1)) := Ch_si rfl
      obtain ⟨w4, c4, h4, e4⟩ := S128F (L := L) (xs := xs) (d := d' + 7) (v := (-6) - nI 267) (c3.shT hs2) h2.opn
      have hs3 := c3.shT hs2
      refine ⟨w4, ((c1.trans c2).trans c3).trans c4, fun Q => ?_, Or.inl ⟨s, h4, fun H om wt hc hh hw => ?_⟩⟩
      · simp only [X126_0, X126_1, X126_4, X126_7, X126_10, X126_11, X126_14, X126_15, X126_18, X126_19i, X126_19, X126_20, X126_23, X126_24, X126_25, X126_28, X126_29, X126_32, X126_35, X126_38, Nat.zero_le, and_true, true_and, x_nb0, x_nb1, x_nbp, x_isL_int, x_isL_ref, x_isL_junk, x_isR_ref, x_cat_nil, x_cat_int, x_cat_ref, x_cat_long, Option.toList_some, Option.toList_none, List.cons_append, List.nil_append, Nat.reduceAdd, Nat.reduceLeDiff, Nat.reduceLT, t_tag_si, t_tag_sr, t_tag_sI, x_r_si, x_i_sr, t_r_sI, x_ia_si, x_ia_sI, x_ia_sr, x_ra_si, x_ra_sI, x_ra_sr, k_t1 hs, a5, if_true, e1, k_t1 hs1, e2, k_t1 hs2, S78, k_t1 hs3, e4]
      · exact Rch_e (by rw [show wt = 2 from hw, mst_not k267, if_pos (by omega)])
  · have ek : (nI (tK b n s) = nI 267) = (tK b n s = 267) := nI_eqD (by omega) (by decide)
    obtain ⟨w1, c1, e1, hr⟩ := hSum s (Nat.le_refl s) (d' + 7) o out w (by omega) hs hT h
    have hs1 := c1.shT hs
    have hT1 := hT.ch c1 rfl (fun _ => rfl)
    rcases hr with ⟨f, hf, hm⟩ | ⟨s1, ext, hp, hss, hex, hwf, he, hm⟩
    · refine ⟨w1, c1, fun Q => ?_, Or.inl ⟨f, hf, fun H om wt hc hh hw => hm H om wt hc (by omega) (Or.inr ⟨hw, k267⟩)⟩⟩
      simp only [X126_0, X126_1, X126_4, X126_7, X126_39, X126_40, X126_43, X126_44, X126_47, X126_48, X126_49, X126_51, X126_54, X126_55, X126_57, X126_76, Nat.zero_le, and_true, true_and, x_nb0, x_nb1, x_nbp, x_isL_int, x_isL_ref, x_isL_junk, x_isR_ref, x_cat_nil, x_cat_int, x_cat_ref, x_cat_long, Option.toList_some, Option.toList_none, List.cons_append, List.nil_append, Nat.reduceAdd, Nat.reduceLeDiff, Nat.reduceLT, t_tag_si, t_tag_sr, t_tag_sI, x_r_si, x_i_sr, t_r_sI, x_ia_si, x_ia_sI, x_ia_sr, x_ra_si, x_ra_sI, x_ra_sr, k_t1 hs, a5, ek, eq_false k267, if_false, e1, k_t1 hs1, hf.1, nI_eqF (show 302 ≠ 60 by decide) (by decide) (by decide), nI_eqF (show 302 ≠ 61 by decide) (by decide) (by decide)]
    · have a51 := hp.1.2.1
      have hsn1 := hp.s_le
      have hK1 := tK_lt (s := s1) hT1
      by_cases k60 : tK b n s1 = 60
      · rw [k60] at a51
        have hlt := tK_end hsn1 (by rw [k60]; decide)
        have hg := tN_gt (b := b) hlt
        obtain ⟨w2, c2, h2, e2⟩ := POK.adv (L := L) (xs := xs) (d := d' + 1) hs1 hT1 hp hlt
        have c2' : Ch pP w1 w2 := gp_up c2 rfl rfl
        have hs2 := c2'.shT hs1
        have hT2 := hT1.ch c2' rfl (fun _ => rfl)
        have hop : ∀ H om wt, cnt H = o → hdR H < 4 → W2 b n s wt → Lds b n (H, om, s, wt) (14 :: H, om ++ ext, tN b n s1, 1) := by
          intro H om wt hc hh hw
          obtain ⟨pend, om', q1, q2, q3, q4⟩ := hm H om wt hc (by omega) (Or.inr ⟨hw, k267⟩)
          have hu := unw_app (r := 5) (show hdR H < 5 by omega) pend om' q1
          rw [q2] at hu
          refine q3.trans (Lds_s (mst_op k60 (by decide) (fun z => ?_) rfl hu rfl))
          have z2 := z.2
          rw [hu] at z2
          exact absurd z2 (Nat.ne_of_lt hh)
        obtain ⟨w3, c3, e3, hr⟩ := hSum (tN b n s1) (by omega) (d' + 7) o (out ++ ext) w2 (by omega) hs2 hT2 h2
        have hs3 := c3.shT hs2
        rcases hr with ⟨f, hf, hm2⟩ | ⟨s3, ext2, hp3, hss2, hex2, hwf2, he2, hm2⟩
        · obtain ⟨w4, c4, h4, e4⟩ := S128F (L := L) (xs := xs) (d := d' + 7) (v := (-6) - nI 60) hs3 hf
          refine ⟨w4, ((c1.trans c2').trans c3).trans c4, fun Q => ?_, Or.inl ⟨f, h4, fun H om wt hc hh hw => hop H om wt hc hh hw _ (hm2 (14 :: H) (om ++ ext) 1 (by show 0 + cnt H = o; omega) (by show 4 < 5; decide) (Or.inl rfl))⟩⟩
          simp only [X126_0, X126_1, X126_4, X126_7, X126_39, X126_40, X126_43, X126_44, X126_47, X126_48, X126_49, X126_51, X126_60, X126_61, X126_64, X126_65, X126_68, X126_69, X126_70, X126_73, X126_76, Nat.zero_le, and_true, true_and, x_nb0, x_nb1, x_nbp, x_isL_int, x_isL_ref, x_isL_junk, x_isR_ref, x_cat_nil, x_cat_int, x_cat_ref, x_cat_long, Option.toList_some, Option.toList_none, List.cons_append, List.nil_append, Nat.reduceAdd, Nat.reduceLeDiff, Nat.reduceLT, t_tag_si, t_tag_sr, t_tag_sI, x_r_si, x_i_sr, t_r_sI, x_ia_si, x_ia_sI, x_ia_sr, x_ra_si, x_ra_sI, x_ra_sr, k_t1 hs, a5, ek, eq_false k267, if_false, e1, k_t1 hs1, a51, if_true, e2, k_t1 hs2, e3, k_t1 hs3, S78, e4]
        · have hlen : (out ++ ext ++ ext2).length = out.length + ext.length + ext2.length := by rw [List.length_append, List.length_append]
          have hlen3 : (ext ++ ext2 ++ [20000 + 14]).length = ext.length + ext2.length + 1 := by rw [List.length_append, List.length_append]; rfl
          have hsn3 := hp3.s_le
          have e128 := fun (Q' : Option Value → x_W → Prop) => S128 (L := L) (xs := xs) (d := d' + 7) (Q := Q') hs3 hp3.2.2.2.1 (by omega) (v := (-6) - nI 60)
          have hp4 := hp3.emit (t := 20000 + 14) (by omega)
          have esx : sxT (20000 + 14) = (-6) - nI 60 := rfl
          rw [esx] at hp4
          have eap : out ++ ext ++ ext2 ++ [20000 + 14] = out ++ (ext ++ ext2 ++ [20000 + 14]) := by rw [List.append_assoc, List.append_assoc, List.append_assoc]
          rw [eap] at hp4
          refine ⟨_, ((c1.trans c2').trans c3).trans Ch_emit, fun Q => ?_, Or.inr ⟨s3, ext ++ ext2 ++ [20000 + 14], hp4, by omega, by omega, wfL_bin (by unfold isop; omega) hwf hwf2, endT_3 he2, fun H om wt hc hh hw => ?_⟩⟩
          · simp only [X126_0, X126_1, X126_4, X126_7, X126_39, X126_40, X126_43, X126_44, X126_47, X126_48, X126_49, X126_51, X126_60, X126_61, X126_64, X126_65, X126_68, X126_69, X126_70, X126_73, X126_76, Nat.zero_le, and_true, true_and, x_nb0, x_nb1, x_nbp, x_isL_int, x_isL_ref, x_isL_junk, x_isR_ref, x_cat_nil, x_cat_int, x_cat_ref, x_cat_long, Option.toList_some, Option.toList_none, List.cons_append, List.nil_append, Nat.reduceAdd, Nat.reduceLeDiff, Nat.reduceLT, t_tag_si, t_tag_sr, t_tag_sI, x_r_si, x_i_sr, t_r_sI, x_ia_si, x_ia_sI, x_ia_sr, x_ra_si, x_ra_sI, x_ra_sr, k_t1 hs, a5, ek, eq_false k267, if_false, e1, k_t1 hs1, a51, if_true, e2, k_t1 hs2, e3, k_t1 hs3, S78, e128]
          · obtain ⟨pend, om', q1, q2, q3, q4⟩ := hm2 (14 :: H) (om ++ ext) 1 (by show 0 + cnt H = o; omega) (by show 4 < 5; decide) (Or.inl rfl)
            have ea : pend ++ (14 :: H) = (pend ++ [14]) ++ H := by rw [List.append_assoc]; rfl
            refine ⟨pend ++ [14], om', fun x hx => ?_, ?_, ?_, fun _ z2 => ?_⟩
            · rcases List.mem_append.mp hx with q | q
              · exact Nat.le_trans (by decide) (q1 x q)
              · rw [List.mem_singleton.mp q]; decide
            · unfold cds at *
              rw [List.map_append, ← List.append_assoc, q2, List.append_assoc, List.append_assoc, List.append_assoc]
              rfl
            · rw [← ea]; exact (hop H om wt hc hh hw).trans q3
            · rw [← ea]
              have hu := unw_app (r := 5) (H := 14 :: H) (show rk 14 < 5 by decide) pend om' q1
              exact Rch_e (mst_stuck rfl z2 (by rw [hu]; rfl))
      · have ek60 : (nI (tK b n s1) = nI 60) = (tK b n s1 = 60) := nI_eqD (by omega) (by decide)
        by_cases k61 : tK b n s1 = 61
        · rw [k61] at a51
          have hlt := tK_end hsn1 (by rw [k61]; decide)
          have hg := tN_gt (b := b) hlt
          obtain ⟨w2, c2, h2, e2⟩ := POK.adv (L := L) (xs := xs) (d := d' + 1) hs1 hT1 hp hlt
          have c2' : Ch pP w1 w2 := gp_up c2 rfl rfl
          have hs2 := c2'.shT hs1
          have hT2 := hT1.ch c2' rfl (fun _ => rfl)
          have hop : ∀ H om wt, cnt H = o → hdR H < 4 → W2 b n s wt → Lds b n (H, om, s, wt) (15 :: H, om ++ ext, tN b n s1, 1) := by
            intro H om wt hc hh hw
            obtain ⟨pend, om', q1, q2, q3, q4⟩ := hm H om wt hc (by omega) (Or.inr ⟨hw, k267⟩)
            have hu := unw_app (r := 5) (show hdR H < 5 by omega) pend om' q1
            rw [q2] at hu
            refine q3.trans (Lds_s (mst_op k61 (by decide) (fun z => ?_) rfl hu rfl))
            have z2 := z.2
            rw [hu] at z2
            exact absurd z2 (Nat.ne_of_lt hh)
          obtain ⟨w3, c3, e3, hr⟩ := hSum (tN b n s1) (by omega) (d' + 7) o (out ++ ext) w2 (by omega) hs2 hT2 h2
          have hs3 := c3.shT hs2
          rcases hr with ⟨f, hf, hm2⟩ | ⟨s3, ext2, hp3, hss2, hex2, hwf2, he2, hm2⟩
          · obtain ⟨w4, c4, h4, e4⟩ := S128F (L := L) (xs := xs) (d := d' + 7) (v := (-6) - nI 61) hs3 hf
            refine ⟨w4, ((c1.trans c2').trans c3).trans c4, fun Q => ?_, Or.inl ⟨f, h4, fun H om wt hc hh hw => hop H om wt hc hh hw _ (hm2 (15 :: H) (om ++ ext) 1 (by show 0 + cnt H = o; omega) (by show 4 < 5; decide) (Or.inl rfl))⟩⟩
            simp only [X126_0, X126_1, X126_4, X126_7, X126_39, X126_40, X126_43, X126_44, X126_47, X126_48, X126_49, X126_51, X126_54, X126_55, X126_57, X126_60, X126_61, X126_64, X126_65, X126_68, X126_69, X126_70, X126_73, X126_76, Nat.zero_le, and_true, true_and, x_nb0, x_nb1, x_nbp, x_isL_int, x_isL_ref, x_isL_junk, x_isR_ref, x_cat_nil, x_cat_int, x_cat_ref, x_cat_long, Option.toList_some, Option.toList_none, List.cons_append, List.nil_append, Nat.reduceAdd, Nat.reduceLeDiff, Nat.reduceLT, t_tag_si, t_tag_sr, t_tag_sI, x_r_si, x_i_sr, t_r_sI, x_ia_si, x_ia_sI, x_ia_sr, x_ra_si, x_ra_sI, x_ra_sr, k_t1 hs, a5, ek, eq_false k267, if_false, e1, k_t1 hs1, a51, nI_eqF (show 61 ≠ 60 by decide) (by decide) (by decide), if_true, e2, k_t1 hs2, e3, k_t1 hs3, S78, e4]
          · have hlen : (out ++ ext ++ ext2).length = out.length + ext.length + ext2.length := by rw [List.length_append, List.length_append]
            have hlen3 : (ext ++ ext2 ++ [20000 + 15]).length = ext.length + ext2.length + 1 := by rw [List.length_append, List.length_append]; rfl
            have hsn3 := hp3.s_le
            have e128 := fun (Q' : Option Value → x_W → Prop) => S128 (L := L) (xs := xs) (d := d' + 7) (Q := Q') hs3 hp3.2.2.2.1 (by omega) (v := (-6) - nI 61)
            have hp4 := hp3.emit (t := 20000 + 15) (by omega)
            have esx : sxT (20000 + 15) = (-6) - nI 61 := rfl
            rw [esx] at hp4
            have eap : out ++ ext ++ ext2 ++ [20000 + 15] = out ++ (ext ++ ext2 ++ [20000 + 15]) := by rw [List.append_assoc, List.append_assoc, List.append_assoc]
            rw [eap] at hp4
            refine ⟨_, ((c1.trans c2').trans c3).trans Ch_emit, fun Q => ?_, Or.inr ⟨s3, ext ++ ext2 ++ [20000 + 15], hp4, by omega, by omega, wfL_bin (by unfold isop; omega) hwf hwf2, endT_3 he2, fun H om wt hc hh hw => ?_⟩⟩
            · simp only [X126_0, X126_1, X126_4, X126_7, X126_39, X126_40, X126_43, X126_44, X126_47, X126_48, X126_49, X126_51, X126_54, X126_55, X126_57, X126_60, X126_61, X126_64, X126_65, X126_68, X126_69, X126_70, X126_73, X126_76, Nat.zero_le, and_true, true_and, x_nb0, x_nb1, x_nbp, x_isL_int, x_isL_ref, x_isL_junk, x_isR_ref, x_cat_nil, x_cat_int, x_cat_ref, x_cat_long, Option.toList_some, Option.toList_none, List.cons_append, List.nil_append, Nat.reduceAdd, Nat.reduceLeDiff, Nat.reduceLT, t_tag_si, t_tag_sr, t_tag_sI, x_r_si, x_i_sr, t_r_sI, x_ia_si, x_ia_sI, x_ia_sr, x_ra_si, x_ra_sI, x_ra_sr, k_t1 hs, a5, ek, eq_false k267, if_false, e1, k_t1 hs1, a51, nI_eqF (show 61 ≠ 60 by decide) (by decide) (by decide), if_true, e2, k_t1 hs2, e3, k_t1 hs3, S78, e128]
            · obtain ⟨pend, om', q1, q2, q3, q4⟩ := hm2 (15 :: H) (om ++ ext) 1 (by show 0 + cnt H = o; omega) (by show 4 < 5; decide) (Or.inl rfl)
              have ea : pend ++ (15 :: H) = (pend ++ [15]) ++ H := by rw [List.append_assoc]; rfl
              refine ⟨pend ++ [15], om', fun x hx => ?_, ?_, ?_, fun _ z2 => ?_⟩
              · rcases List.mem_append.mp hx with q | q
                · exact Nat.le_trans (by decide) (q1 x q)
                · rw [List.mem_singleton.mp q]; decide
              · unfold cds at *
                rw [List.map_append, ← List.append_assoc, q2, List.append_assoc, List.append_assoc, List.append_assoc]
                rfl
              · rw [← ea]; exact (hop H om wt hc hh hw).trans q3
              · rw [← ea]
                have hu := unw_app (r := 5) (H := 15 :: H) (show rk 15 < 5 by decide) pend om' q1
                exact Rch_e (mst_stuck rfl z2 (by rw [hu]; rfl))
        · have ek61 : (nI (tK b n s1) = nI 61) = (tK b n s1 = 61) := nI_eqD (by omega) (by decide)
          have hno : rk (sgO (tK b n s1)) ≠ 4 := by
            intro z
            rcases sgC (tK b n s1) with q | q | q | q | q | q | q | q
            all_goals first
              | (exact k60 q)
              | (exact k61 q)
              | (rw [q] at z; exact absurd z (by decide))
          refine ⟨w1, c1, fun Q => ?_, Or.inr ⟨s1, ext, hp, hss, hex, hwf, endT_3 he, fun H om wt hc hh hw => ?_⟩⟩
          · simp only [X126_0, X126_1, X126_4, X126_7, X126_39, X126_40, X126_43, X126_44, X126_47, X126_48, X126_49, X126_51, X126_54, X126_55, X126_57, X126_76, Nat.zero_le, and_true, true_and, x_nb0, x_nb1, x_nbp, x_isL_int, x_isL_ref, x_isL_junk, x_isR_ref, x_cat_nil, x_cat_int, x_cat_ref, x_cat_long, Option.toList_some, Option.toList_none, List.cons_append, List.nil_append, Nat.reduceAdd, Nat.reduceLeDiff, Nat.reduceLT, t_tag_si, t_tag_sr, t_tag_sI, x_r_si, x_i_sr, t_r_sI, x_ia_si, x_ia_sI, x_ia_sr, x_ra_si, x_ra_sI, x_ra_sr, k_t1 hs, a5, ek, eq_false k267, if_false, e1, k_t1 hs1, a51, ek60, eq_false k60, ek61, eq_false k61]
          · obtain ⟨pend, om', q1, q2, q3, q4⟩ := hm H om wt hc (by omega) (Or.inr ⟨hw, k267⟩)
            exact ⟨pend, om', fun c hc => Nat.le_trans (by decide) (q1 c hc), q2, q3, fun _ z => absurd z hno⟩
/-- all levels, at every place -/
theorem levels (L : Nat) (xs : Nat → Int32) (b : Nat → Nat) (n : Nat) : ∀ m s, n - s < m → Lv L xs b n 124 [x_junk] 5 1 1 W2 s ∧ One L xs b n s ∧ Lv L xs b n 126 [x_junk] 3 3 4 W2 s ∧ Lv L xs b n 129 [x_junk, x_junk] 2 5 5 WT s ∧ Lv L xs b n 125 [x_junk] 4 2 2 W2 s ∧ Lv L xs b n 130 [x_junk] 1 6 6 WT s := by
  intro m
  induction m with
  | zero => intro s h; exact absurd h (Nat.not_lt_zero _)
  | succ m ih =>
    intro s hm
    have hn : ∀ s2, n < s2 → ∀ mid jk K lv hb wtp, Lv L xs b n mid jk K lv hb wtp s2 := fun s2 h2 mid jk K lv hb wtp d o out w _ _ _ hp => absurd hp.s_le (Nat.not_le.mpr h2)
    have hn1 : ∀ s2, n < s2 → One L xs b n s2 := fun s2 h2 d o out w _ _ _ hp => absurd hp.s_le (Nat.not_le.mpr h2)
    by_cases hs : n < s
    · exact ⟨hn s hs _ _ _ _ _ _, hn1 s hs, hn s hs _ _ _ _ _ _, hn s hs _ _ _ _ _ _, hn s hs _ _ _ _ _ _, hn s hs _ _ _ _ _ _⟩
    · have hi : ∀ s2, s < s2 → Lv L xs b n 124 [x_junk] 5 1 1 W2 s2 ∧ One L xs b n s2 ∧ Lv L xs b n 126 [x_junk] 3 3 4 W2 s2 ∧ Lv L xs b n 129 [x_junk, x_junk] 2 5 5 WT s2 ∧ Lv L xs b n 125 [x_junk] 4 2 2 W2 s2 ∧ Lv L xs b n 130 [x_junk] 1 6 6 WT s2 := by
        intro s2 h2
        by_cases hs2 : n < s2
        · exact ⟨hn s2 hs2 _ _ _ _ _ _, hn1 s2 hs2, hn s2 hs2 _ _ _ _ _ _, hn s2 hs2 _ _ _ _ _ _, hn s2 hs2 _ _ _ _ _ _, hn s2 hs2 _ _ _ _ _ _⟩
        · exact ih s2 (by omega)
      have le1 : ∀ {p : Nat → Prop}, p s → (∀ s2, s < s2 → p s2) → ∀ s2, s ≤ s2 → p s2 := fun {p} h0 h1 s2 h2 => by
        by_cases he : s2 = s
        · rw [he]; exact h0
        · exact h1 s2 (by omega)
      have i1 : One L xs b n s := One_of (fun s2 h2 => (hi s2 h2).1) (fun s2 h2 => (hi s2 h2).2.1)
      have i2 : Lv L xs b n 130 [x_junk] 1 6 6 WT s := Lv130_of (le1 (p := fun s2 => Lv L xs b n 131 [] 0 7 7 WT s2) i1.lv (fun s2 h2 => (hi s2 h2).2.1.lv))
      have i3 : Lv L xs b n 129 [x_junk, x_junk] 2 5 5 WT s := Lv129_of (le1 (p := fun s2 => Lv L xs b n 130 [x_junk] 1 6 6 WT s2) i2 (fun s2 h2 => (hi s2 h2).2.2.2.2.2))
      have i4 : Lv L xs b n 126 [x_junk] 3 3 4 W2 s := Lv126_of (le1 (p := fun s2 => Lv L xs b n 129 [x_junk, x_junk] 2 5 5 WT s2) i3 (fun s2 h2 => (hi s2 h2).2.2.2.1)) (fun s2 h2 => (hi s2 h2).2.2.1)
      have i5 : Lv L xs b n 125 [x_junk] 4 2 2 W2 s := Lv125_of (le1 (p := fun s2 => Lv L xs b n 126 [x_junk] 3 3 4 W2 s2) i4 (fun s2 h2 => (hi s2 h2).2.2.1))
      have i6 : Lv L xs b n 124 [x_junk] 5 1 1 W2 s := Lv124_of (le1 (p := fun s2 => Lv L xs b n 125 [x_junk] 4 2 2 W2 s2) i5 (fun s2 h2 => (hi s2 h2).2.2.2.2.1))
      exact ⟨i6, i1, i4, i3, i5, i2⟩
theorem S124 (L : Nat) (xs : Nat → Int32) (b : Nat → Nat) (n s : Nat) : Lv L xs b n 124 [x_junk] 5 1 1 W2 s := (levels L xs b n (n - s + 1) s (Nat.lt_succ_self _)).1
end S9996
