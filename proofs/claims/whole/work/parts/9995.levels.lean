/-! ===== the class's reader: its loops (written by program, wip/whole/gentext.py) ===== -/
theorem sgC (t : Nat) : sgO t = 0 ∨ t = 265 ∨ t = 266 ∨ t = 60 ∨ t = 61 ∨ t = 43 ∨ t = 45 ∨ t = 42 := by
  unfold sgO
  repeat' split
  all_goals omega
theorem endT_6 {t : Nat} (h : t ≠ 42) : endT 6 t := by
  rcases sgC t with z | rfl | rfl | rfl | rfl | rfl | rfl | rfl
  · exact Or.inl z
  all_goals first
    | (exact absurd rfl h)
    | (exact Or.inr (Or.inl (by decide)))
theorem endT_5 {t : Nat} (he : endT 6 t) (h : t ≠ 43 ∧ t ≠ 45) : endT 5 t := by
  rcases sgC t with z | rfl | rfl | rfl | rfl | rfl | rfl | rfl
  · exact Or.inl z
  all_goals first
    | (exact absurd rfl h.1)
    | (exact absurd rfl h.2)
    | (exact Or.inr (Or.inl (by decide)))
    | (exact absurd he (by unfold endT; decide))
theorem endT_2 {t : Nat} (he : endT 3 t) (h : t ≠ 266) : endT 2 t := by
  rcases sgC t with z | rfl | rfl | rfl | rfl | rfl | rfl | rfl
  · exact Or.inl z
  all_goals first
    | (exact absurd rfl h)
    | (exact Or.inr (Or.inl (by decide)))
    | (exact Or.inr (Or.inr (by decide)))
    | (exact absurd he (by unfold endT; decide))
theorem endT_1 {t : Nat} (he : endT 2 t) (h : t ≠ 265) : endT 1 t := by
  rcases sgC t with z | rfl | rfl | rfl | rfl | rfl | rfl | rfl
  · exact Or.inl z
  all_goals first
    | (exact absurd rfl h)
    | (exact Or.inr (Or.inl (by decide)))
    | (exact Or.inr (Or.inr (by decide)))
    | (exact absurd he (by unfold endT; decide))
theorem MOk.up {b : Nat → Nat} {n lv hb lv' hb' o s s1 : Nat} {wtp : (Nat → Nat) → Nat → Nat → Nat → Prop} {ext : List Nat} (h : MOk b n lv hb o wtp s s1 ext) (h1 : lv' ≤ lv) (h2 : hb' ≤ hb) (h3 : lv' ≤ 4 → lv ≤ 4) : MOk b n lv' hb' o wtp s s1 ext := by
  intro H om wt hc hh hw
  obtain ⟨pend, om', q1, q2, q3, q4⟩ := h H om wt hc (Nat.lt_of_lt_of_le hh h2) hw
  exact ⟨pend, om', fun c hc => Nat.le_trans h1 (q1 c hc), q2, q3, fun z => q4 (h3 z)⟩
theorem endT_7 (t : Nat) : endT 7 t := by
  rcases sgC t with z | rfl | rfl | rfl | rfl | rfl | rfl | rfl
  · exact Or.inl z
  all_goals exact Or.inr (Or.inl (by decide))
section S9995
variable {L : Nat} {xs : Nat → Int32} {b : Nat → Nat} {n s o : Nat} {out : List Nat}
theorem One.lv (h : One L xs b n s) : Lv L xs b n 131 [] 0 7 7 WT s := by
  intro d o out w hd hs hT hp
  obtain ⟨w2, c2, e2, hr⟩ := h d o out w hd hs hT hp
  refine ⟨w2, c2, e2, ?_⟩
  rcases hr with ⟨f, hf, hm⟩ | ⟨s1, ext, hp, hss, hex, hwf, hm⟩
  · exact Or.inl ⟨f, hf, fun H om wt hc _ hw => hm H om wt hc hw⟩
  · refine Or.inr ⟨s1, ext, hp, hss, hex, hwf, endT_7 _, fun H om wt hc hh hw => ?_⟩
    have hq := hm H om wt hc hw
    rw [unw_id hh] at hq
    exact ⟨[], om ++ ext, fun c hc => absurd hc List.not_mem_nil, by unfold cds; rw [List.map_nil, List.append_nil], hq, fun z => absurd z (by decide)⟩
theorem L130 {d' : Nat} (hd : 10 + 6 * (5 - o) + 1 ≤ d' + 8) (hLo : ∀ s2, s < s2 → Lv L xs b n 131 [] 0 7 7 WT s2) (hle : out.length ≤ s) : ∀ m s1 i ext w1, n - s1 ≤ m → i + 1 ≤ s1 → ShT w1 → TPx w1 b n → POK w1 b n s1 o (out ++ ext) → s < s1 → ext.length ≤ s1 - s → (∀ h, wfL ext h (h + 1)) → endT 7 (tK b n s1) → MOk b n 6 6 o WT s s1 ext → ∃ w2, Ch pP w1 w2 ∧ (∀ Q, X_R L xs (d' + 8) 130 6 [.ref 1, .int (nI i)] [] w1 Q = Q none w2) ∧ LvR w2 b n 6 6 o WT s out := by
  intro m
  induction m with
  | zero =>
    intro s1 i ext w1 hm hi hs hT h hss hex hwf he hM
    have h160 := hT.1
    have hsn := h.s_le
    have hend : tK b n s1 = 301 := by unfold tK; rw [if_pos (by omega)]
    refine ⟨w1, Ch.refl, fun Q => ?_, Or.inr ⟨s1, ext, h, hss, hex, hwf, Or.inl (by rw [hend]; rfl), hM⟩⟩
    have a5 := h.1.2.1
    rw [hend] at a5
    rw [X130_6]
    simp only [X130_7, X130_10, X130_13, X130_14, X130_17, X130_19, X130_45, Nat.zero_le, and_true, true_and, x_nb0, x_nb1, x_nbp, x_isL_int, x_isL_ref, x_isL_junk, x_isR_ref, x_cat_nil, x_cat_int, x_cat_ref, x_cat_long, Option.toList_some, Option.toList_none, List.cons_append, List.nil_append, Nat.reduceAdd, Nat.reduceLeDiff, Nat.reduceLT, t_tag_si, t_tag_sr, t_tag_sI, x_r_si, x_i_sr, t_r_sI, x_ia_si, x_ia_sI, x_ia_sr, x_ra_si, x_ra_sI, x_ra_sr, nI_leF (show i < 160 by omega) (show 160 < 2 ^ 31 by decide), k_t1 hs, a5, nI_eqF (show 301 ≠ 42 by decide) (by decide) (by decide), if_false]
  | succ m ih =>
    intro s1 i ext w1 hm hi hs hT h hss hex hwf he hM
    have h160 := hT.1
    have hsn := h.s_le
    have a5 := h.1.2.1
    have hK := tK_lt (s := s1) hT
    have li : (nI 160 ≤ nI i) = False := nI_leF (show i < 160 by omega) (show 160 < 2 ^ 31 by decide)
    by_cases k42 : tK b n s1 = 42
    · rw [k42] at a5
      have hlt := tK_end hsn (by rw [k42]; decide)
      have hg := tN_gt (b := b) hlt
      have li1 : (nI 160 ≤ nI (i + 1)) = False := nI_leF (show i + 1 < 160 by omega) (show 160 < 2 ^ 31 by decide)
      obtain ⟨w2, c2, h2, e2⟩ := POK.adv (L := L) (xs := xs) (d := d' + 1) hs hT h hlt
      have c2' : Ch pP w1 w2 := gp_up c2 rfl rfl
      have hs2 := c2'.shT hs
      have hT2 := hT.ch c2' rfl (fun _ => rfl)
      have hop : ∀ H om wt, cnt H = o → hdR H < 6 → WT b n s wt → Lds b n (H, om, s, wt) (18 :: H, om ++ ext, tN b n s1, 1) := by
        intro H om wt hc hh hw
        obtain ⟨pend, om', q1, q2, q3, q4⟩ := hM H om wt hc hh hw
        have hu := unw_app (r := 6) hh pend om' q1
        rw [q2] at hu
        exact q3.trans (Lds_s (mst_op k42 (by decide) (fun z => absurd z.1 (by decide)) rfl hu rfl))
      obtain ⟨w3, c3, e3, hr⟩ := hLo (tN b n s1) (by omega) (d' + 7) o (out ++ ext) w2 (by omega) hs2 hT2 h2
      have hs3 := c3.shT hs2
      have hT3 := hT2.ch c3 rfl (fun _ => rfl)
      rcases hr with ⟨f, hf, hm2⟩ | ⟨s3, ext2, hp, hss2, hex2, hwf2, he2, hm2⟩
      · obtain ⟨w4, c4, h4, e4⟩ := S128F (L := L) (xs := xs) (d := d' + 7) (v := (-6) - nI 42) hs3 hf
        have hs4 := c4.shT hs3
        refine ⟨w4, (c2'.trans c3).trans c4, fun Q => ?_, Or.inl ⟨f, h4, fun H om wt hc hh hw => hop H om wt hc hh hw _ (hm2 (18 :: H) (om ++ ext) 1 (by show 0 + cnt H = o; omega) (by show 6 < 7; decide) (Or.inl rfl))⟩⟩
        rw [X130_6]
        simp only [X130_7, X130_10, X130_13, X130_14, X130_17, X130_19, X130_22, X130_23, X130_26, X130_27, X130_30, X130_31, X130_33, X130_36, X130_39, X130_42, Nat.zero_le, and_true, true_and, x_nb0, x_nb1, x_nbp, x_isL_int, x_isL_ref, x_isL_junk, x_isR_ref, x_cat_nil, x_cat_int, x_cat_ref, x_cat_long, Option.toList_some, Option.toList_none, List.cons_append, List.nil_append, Nat.reduceAdd, Nat.reduceLeDiff, Nat.reduceLT, t_tag_si, t_tag_sr, t_tag_sI, x_r_si, x_i_sr, t_r_sI, x_ia_si, x_ia_sI, x_ia_sr, x_ra_si, x_ra_sI, x_ra_sr, li, k_t1 hs, a5, if_true, if_false, e2, k_t1 hs2, e3, k_t1 hs3, S78, e4, nI_add]
        rw [X130_6]
        simp only [X130_7, X130_10, X130_13, X130_14, X130_17, X130_19, X130_45, Nat.zero_le, and_true, true_and, x_nb0, x_nb1, x_nbp, x_isL_int, x_isL_ref, x_isL_junk, x_isR_ref, x_cat_nil, x_cat_int, x_cat_ref, x_cat_long, Option.toList_some, Option.toList_none, List.cons_append, List.nil_append, Nat.reduceAdd, Nat.reduceLeDiff, Nat.reduceLT, t_tag_si, t_tag_sr, t_tag_sI, x_r_si, x_i_sr, t_r_sI, x_ia_si, x_ia_sI, x_ia_sr, x_ra_si, x_ra_sI, x_ra_sr, li1, k_t1 hs4, h4.1, nI_eqF (show 302 ≠ 42 by decide) (by decide) (by decide), if_false]
      · have hlen : (out ++ ext ++ ext2).length = out.length + ext.length + ext2.length := by rw [List.length_append, List.length_append]
        have hlen3 : (ext ++ ext2 ++ [20000 + 18]).length = ext.length + ext2.length + 1 := by rw [List.length_append, List.length_append]; rfl
        have hsn3 := hp.s_le
        have e128 := fun (Q' : Option Value → x_W → Prop) => S128 (L := L) (xs := xs) (d := d' + 7) (Q := Q') hs3 hp.2.2.2.1 (by omega) (v := (-6) - nI 42)
        have hp4 := hp.emit (t := 20000 + 18) (by omega)
        have esx : sxT (20000 + 18) = (-6) - nI 42 := rfl
        rw [esx] at hp4
        have eap : out ++ ext ++ ext2 ++ [20000 + 18] = out ++ (ext ++ ext2 ++ [20000 + 18]) := by rw [List.append_assoc, List.append_assoc, List.append_assoc]
        rw [eap] at hp4
        have c4 : Ch pP w3 (x_si (x_si w3 3 (out ++ ext ++ ext2).length ((-6) - nI 42)) 1 3 (nI ((out ++ ext ++ ext2).length + 1))) := Ch_emit
        obtain ⟨w5, c5, e5, hr5⟩ := ih s3 (i + 1) (ext ++ ext2 ++ [20000 + 18]) _ (by omega) (by omega) (c4.shT hs3) (hT3.ch c4 rfl (fun _ => rfl)) hp4 (by omega) (by omega) (wfL_bin (by unfold isop; omega) hwf hwf2) he2 (by
          intro H om wt hc hh hw
          obtain ⟨pend, om', q1, q2, q3, q4⟩ := hm2 (18 :: H) (om ++ ext) 1 (by show 0 + cnt H = o; omega) (by show 6 < 7; decide) (Or.inl rfl)
          have ea : pend ++ (18 :: H) = (pend ++ [18]) ++ H := by rw [List.append_assoc]; rfl
          refine ⟨pend ++ [18], om', fun x hx => ?_, ?_, ?_, fun z z2 => ?_⟩
          · rcases List.mem_append.mp hx with q | q
            · exact Nat.le_trans (by decide) (q1 x q)
            · rw [List.mem_singleton.mp q]; decide
          · unfold cds at *
            rw [List.map_append, ← List.append_assoc, q2, List.append_assoc, List.append_assoc, List.append_assoc]
            rfl
          · rw [← ea]; exact (hop H om wt hc hh hw).trans q3
          · rw [← ea]; exact q4 (by omega) z2)
        refine ⟨w5, ((c2'.trans c3).trans c4).trans c5, fun Q => ?_, hr5⟩
        have hs4 := c4.shT hs3
        rw [← e5 Q, X130_6]
        simp only [X130_7, X130_10, X130_13, X130_14, X130_17, X130_19, X130_22, X130_23, X130_26, X130_27, X130_30, X130_31, X130_33, X130_36, X130_39, X130_42, Nat.zero_le, and_true, true_and, x_nb0, x_nb1, x_nbp, x_isL_int, x_isL_ref, x_isL_junk, x_isR_ref, x_cat_nil, x_cat_int, x_cat_ref, x_cat_long, Option.toList_some, Option.toList_none, List.cons_append, List.nil_append, Nat.reduceAdd, Nat.reduceLeDiff, Nat.reduceLT, t_tag_si, t_tag_sr, t_tag_sI, x_r_si, x_i_sr, t_r_sI, x_ia_si, x_ia_sI, x_ia_sr, x_ra_si, x_ra_sI, x_ra_sr, li, k_t1 hs, a5, if_true, if_false, e2, k_t1 hs2, e3, k_t1 hs3, S78, e128, nI_add]
    · have ek42 : (nI (tK b n s1) = nI 42) = (tK b n s1 = 42) := nI_eqD (by omega) (by decide)
      have kn : tK b n s1 ≠ 42 := k42
      refine ⟨w1, Ch.refl, fun Q => ?_, Or.inr ⟨s1, ext, h, hss, hex, hwf, endT_6 kn, hM⟩⟩
      rw [X130_6]
      simp only [X130_7, X130_10, X130_13, X130_14, X130_17, X130_19, X130_45, Nat.zero_le, and_true, true_and, x_nb0, x_nb1, x_nbp, x_isL_int, x_isL_ref, x_isL_junk, x_isR_ref, x_cat_nil, x_cat_int, x_cat_ref, x_cat_long, Option.toList_some, Option.toList_none, List.cons_append, List.nil_append, Nat.reduceAdd, Nat.reduceLeDiff, Nat.reduceLT, t_tag_si, t_tag_sr, t_tag_sI, x_r_si, x_i_sr, t_r_sI, x_ia_si, x_ia_sI, x_ia_sr, x_ra_si, x_ra_sI, x_ra_sr, li, k_t1 hs, a5, ek42, eq_false k42, if_false]
theorem Lv130_of (hLo : ∀ s2, s ≤ s2 → Lv L xs b n 131 [] 0 7 7 WT s2) : Lv L xs b n 130 [x_junk] 1 6 6 WT s := by
  intro d o out w hd hs hT h
  obtain ⟨d', rfl⟩ : ∃ d', d = d' + 8 := ⟨d - 8, by omega⟩
  have hle := h.2.2.2.2.2.1
  obtain ⟨w1, c1, e1, hr⟩ := hLo s (Nat.le_refl s) (d' + 7) o out w (by omega) hs hT h
  have hs1 := c1.shT hs
  have hT1 := hT.ch c1 rfl (fun _ => rfl)
  rcases hr with ⟨f, hf, hm⟩ | ⟨s1, ext, hp, hss, hex, hwf, he, hm⟩
  · refine ⟨w1, c1, fun Q => ?_, Or.inl ⟨f, hf, fun H om wt hc hh hw => hm H om wt hc (Nat.lt_of_lt_of_le hh (by decide)) hw⟩⟩
    simp only [X130_0, X130_1, X130_4, X130_5, X130_6, X130_7, X130_10, X130_13, X130_14, X130_17, X130_19, X130_45, Nat.zero_le, and_true, true_and, x_nb0, x_nb1, x_nbp, x_isL_int, x_isL_ref, x_isL_junk, x_isR_ref, x_cat_nil, x_cat_int, x_cat_ref, x_cat_long, Option.toList_some, Option.toList_none, List.cons_append, List.nil_append, Nat.reduceAdd, Nat.reduceLeDiff, Nat.reduceLT, t_tag_si, t_tag_sr, t_tag_sI, x_r_si, x_i_sr, t_r_sI, x_ia_si, x_ia_sI, x_ia_sr, x_ra_si, x_ra_sI, x_ra_sr, k_t1 hs, e1, nI_leF (show 0 < 160 by decide) (by decide), k_t1 hs1, hf.1, nI_eqF (show 302 ≠ 42 by decide) (by decide) (by decide), if_false]
  · obtain ⟨w2, c2, e2, hr2⟩ := L130 hd (fun s2 hs2 => hLo s2 (Nat.le_of_lt hs2)) hle (n - s1) s1 0 ext w1 (Nat.le_refl _) (by omega) hs1 hT1 hp hss hex hwf he (hm.up (by decide) (by decide) (by decide))
    refine ⟨w2, c1.trans c2, fun Q => ?_, hr2⟩
    rw [← e2 Q]
    simp only [X130_0, X130_1, X130_4, X130_5, Nat.zero_le, and_true, true_and, x_nb0, x_nb1, x_nbp, x_isL_int, x_isL_ref, x_isL_junk, x_isR_ref, x_cat_nil, x_cat_int, x_cat_ref, x_cat_long, Option.toList_some, Option.toList_none, List.cons_append, List.nil_append, Nat.reduceAdd, Nat.reduceLeDiff, Nat.reduceLT, t_tag_si, t_tag_sr, t_tag_sI, x_r_si, x_i_sr, t_r_sI, x_ia_si, x_ia_sI, x_ia_sr, x_ra_si, x_ra_sI, x_ra_sr, k_t1 hs, e1]
theorem L129 {d' : Nat} (hd : 10 + 6 * (5 - o) + 2 ≤ d' + 8) (hLo : ∀ s2, s < s2 → Lv L xs b n 130 [x_junk] 1 6 6 WT s2) (hle : out.length ≤ s) : ∀ m s1 i ext (v3 : Value) (hv3 : x_isL v3 = false) w1, n - s1 ≤ m → i + 1 ≤ s1 → ShT w1 → TPx w1 b n → POK w1 b n s1 o (out ++ ext) → s < s1 → ext.length ≤ s1 - s → (∀ h, wfL ext h (h + 1)) → endT 6 (tK b n s1) → MOk b n 5 5 o WT s s1 ext → ∃ w2, Ch pP w1 w2 ∧ (∀ Q, X_R L xs (d' + 8) 129 6 [.ref 1, .int (nI i), v3] [] w1 Q = Q none w2) ∧ LvR w2 b n 5 5 o WT s out := by
  intro m
  induction m with
  | zero =>
    intro s1 i ext v3 hv3 w1 hm hi hs hT h hss hex hwf he hM
    have h160 := hT.1
    have hsn := h.s_le
    have hend : tK b n s1 = 301 := by unfold tK; rw [if_pos (by omega)]
    refine ⟨w1, Ch.refl, fun Q => ?_, Or.inr ⟨s1, ext, h, hss, hex, hwf, Or.inl (by rw [hend]; rfl), hM⟩⟩
    have a5 := h.1.2.1
    rw [hend] at a5
    rw [X129_6]
    simp only [X129_7, X129_10, X129_13, X129_14, X129_17, X129_19, X129_22, X129_23, X129_26, X129_28, X129_58, Nat.zero_le, and_true, true_and, x_nb0, x_nb1, x_nbp, x_isL_int, x_isL_ref, x_isL_junk, x_isR_ref, x_cat_nil, x_cat_int, x_cat_ref, x_cat_long, Option.toList_some, Option.toList_none, List.cons_append, List.nil_append, Nat.reduceAdd, Nat.reduceLeDiff, Nat.reduceLT, t_tag_si, t_tag_sr, t_tag_sI, x_r_si, x_i_sr, t_r_sI, x_ia_si, x_ia_sI, x_ia_sr, x_ra_si, x_ra_sI, x_ra_sr, nI_leF (show i < 160 by omega) (show 160 < 2 ^ 31 by decide), k_t1 hs, a5, nI_eqF (show 301 ≠ 43 by decide) (by decide) (by decide), nI_eqF (show 301 ≠ 45 by decide) (by decide) (by decide), if_false]
  | succ m ih =>
    intro s1 i ext v3 hv3 w1 hm hi hs hT h hss hex hwf he hM
    have h160 := hT.1
    have hsn := h.s_le
    have a5 := h.1.2.1
    have hK := tK_lt (s := s1) hT
    have li : (nI 160 ≤ nI i) = False := nI_leF (show i < 160 by omega) (show 160 < 2 ^ 31 by decide)
    by_cases k43 : tK b n s1 = 43
    · rw [k43] at a5
      have hlt := tK_end hsn (by rw [k43]; decide)
      have hg := tN_gt (b := b) hlt
      have li1 : (nI 160 ≤ nI (i + 1)) = False := nI_leF (show i + 1 < 160 by omega) (show 160 < 2 ^ 31 by decide)
      obtain ⟨w2, c2, h2, e2⟩ := POK.adv (L := L) (xs := xs) (d := d' + 1) hs hT h hlt
      have c2' : Ch pP w1 w2 := gp_up c2 rfl rfl
      have hs2 := c2'.shT hs
      have hT2 := hT.ch c2' rfl (fun _ => rfl)
      have hop : ∀ H om wt, cnt H = o → hdR H < 5 → WT b n s wt → Lds b n (H, om, s, wt) (16 :: H, om ++ ext, tN b n s1, 1) := by
        intro H om wt hc hh hw
        obtain ⟨pend, om', q1, q2, q3, q4⟩ := hM H om wt hc hh hw
        have hu := unw_app (r := 5) hh pend om' q1
        rw [q2] at hu
        exact q3.trans (Lds_s (mst_op k43 (by decide) (fun z => absurd z.1 (by decide)) rfl hu rfl))
      obtain ⟨w3, c3, e3, hr⟩ := hLo (tN b n s1) (by omega) (d' + 7) o (out ++ ext) w2 (by omega) hs2 hT2 h2
      have hs3 := c3.shT hs2
      have hT3 := hT2.ch c3 rfl (fun _ => rfl)
      rcases hr with ⟨f, hf, hm2⟩ | ⟨s3, ext2, hp, hss2, hex2, hwf2, he2, hm2⟩
      · obtain ⟨w4, c4, h4, e4⟩ := S128F (L := L) (xs := xs) (d := d' + 7) (v := (-6) - nI 43) hs3 hf
        have hs4 := c4.shT hs3
        refine ⟨w4, (c2'.trans c3).trans c4, fun Q => ?_, Or.inl ⟨f, h4, fun H om wt hc hh hw => hop H om wt hc hh hw _ (hm2 (16 :: H) (om ++ ext) 1 (by show 0 + cnt H = o; omega) (by show 5 < 6; decide) (Or.inl rfl))⟩⟩
        rw [X129_6]
        simp only [X129_7, X129_10, X129_13, X129_14, X129_17, X129_19, X129_31, X129_32, X129_35, X129_36, X129_37, X129_40, X129_41, X129_44, X129_45, X129_46, X129_49, X129_52, X129_55, Nat.zero_le, and_true, true_and, x_nb0, x_nb1, x_nbp, x_isL_int, x_isL_ref, x_isL_junk, x_isR_ref, x_cat_nil, x_cat_int, x_cat_ref, x_cat_long, Option.toList_some, Option.toList_none, List.cons_append, List.nil_append, Nat.reduceAdd, Nat.reduceLeDiff, Nat.reduceLT, t_tag_si, t_tag_sr, t_tag_sI, x_r_si, x_i_sr, t_r_sI, x_ia_si, x_ia_sI, x_ia_sr, x_ra_si, x_ra_sI, x_ra_sr, hv3, li, k_t1 hs, a5, nI_eqF (show 43 ≠ 45 by decide) (by decide) (by decide), if_true, if_false, e2, k_t1 hs2, e3, k_t1 hs3, S78, e4, nI_add]
        rw [X129_6]
        simp only [X129_7, X129_10, X129_13, X129_14, X129_17, X129_19, X129_22, X129_23, X129_26, X129_28, X129_58, Nat.zero_le, and_true, true_and, x_nb0, x_nb1, x_nbp, x_isL_int, x_isL_ref, x_isL_junk, x_isR_ref, x_cat_nil, x_cat_int, x_cat_ref, x_cat_long, Option.toList_some, Option.toList_none, List.cons_append, List.nil_append, Nat.reduceAdd, Nat.reduceLeDiff, Nat.reduceLT, t_tag_si, t_tag_sr, t_tag_sI, x_r_si, x_i_sr, t_r_sI, x_ia_si, x_ia_sI, x_ia_sr, x_ra_si, x_ra_sI, x_ra_sr, li1, k_t1 hs4, h4.1, nI_eqF (show 302 ≠ 43 by decide) (by decide) (by decide), nI_eqF (show 302 ≠ 45 by decide) (by decide) (by decide), if_false]
      · have hlen : (out ++ ext ++ ext2).length = out.length + ext.length + ext2.length := by rw [List.length_append, List.length_append]
        have hlen3 : (ext ++ ext2 ++ [20000 + 16]).length = ext.length + ext2.length + 1 := by rw [List.length_append, List.length_append]; rfl
        have hsn3 := hp.s_le
        have e128 := fun (Q' : Option Value → x_W → Prop) => S128 (L := L) (xs := xs) (d := d' + 7) (Q := Q') hs3 hp.2.2.2.1 (by omega) (v := (-6) - nI 43)
        have hp4 := hp.emit (t := 20000 + 16) (by omega)
        have esx : sxT (20000 + 16) = (-6) - nI 43 := rfl
        rw [esx] at hp4
        have eap : out ++ ext ++ ext2 ++ [20000 + 16] = out ++ (ext ++ ext2 ++ [20000 + 16]) := by rw [List.append_assoc, List.append_assoc, List.append_assoc]
        rw [eap] at hp4
        have c4 : Ch pP w3 (x_si (x_si w3 3 (out ++ ext ++ ext2).length ((-6) - nI 43)) 1 3 (nI ((out ++ ext ++ ext2).length + 1))) := Ch_emit
        obtain ⟨w5, c5, e5, hr5⟩ := ih s3 (i + 1) (ext ++ ext2 ++ [20000 + 16]) (.int (nI 43)) rfl _ (by omega) (by omega) (c4.shT hs3) (hT3.ch c4 rfl (fun _ => rfl)) hp4 (by omega) (by omega) (wfL_bin (by unfold isop; omega) hwf hwf2) he2 (by
          intro H om wt hc hh hw
          obtain ⟨pend, om', q1, q2, q3, q4⟩ := hm2 (16 :: H) (om ++ ext) 1 (by show 0 + cnt H = o; omega) (by show 5 < 6; decide) (Or.inl rfl)
          have ea : pend ++ (16 :: H) = (pend ++ [16]) ++ H := by rw [List.append_assoc]; rfl
          refine ⟨pend ++ [16], om', fun x hx => ?_, ?_, ?_, fun z z2 => ?_⟩
          · rcases List.mem_append.mp hx with q | q
            · exact Nat.le_trans (by decide) (q1 x q)
            · rw [List.mem_singleton.mp q]; decide
          · unfold cds at *
            rw [List.map_append, ← List.append_assoc, q2, List.append_assoc, List.append_assoc, List.append_assoc]
            rfl
          · rw [← ea]; exact (hop H om wt hc hh hw).trans q3
          · rw [← ea]; exact q4 (by omega) z2)
        refine ⟨w5, ((c2'.trans c3).trans c4).trans c5, fun Q => ?_, hr5⟩
        have hs4 := c4.shT hs3
        rw [← e5 Q, X129_6]
        simp only [X129_7, X129_10, X129_13, X129_14, X129_17, X129_19, X129_31, X129_32, X129_35, X129_36, X129_37, X129_40, X129_41, X129_44, X129_45, X129_46, X129_49, X129_52, X129_55, Nat.zero_le, and_true, true_and, x_nb0, x_nb1, x_nbp, x_isL_int, x_isL_ref, x_isL_junk, x_isR_ref, x_cat_nil, x_cat_int, x_cat_ref, x_cat_long, Option.toList_some, Option.toList_none, List.cons_append, List.nil_append, Nat.reduceAdd, Nat.reduceLeDiff, Nat.reduceLT, t_tag_si, t_tag_sr, t_tag_sI, x_r_si, x_i_sr, t_r_sI, x_ia_si, x_ia_sI, x_ia_sr, x_ra_si, x_ra_sI, x_ra_sr, hv3, li, k_t1 hs, a5, nI_eqF (show 43 ≠ 45 by decide) (by decide) (by decide), if_true, if_false, e2, k_t1 hs2, e3, k_t1 hs3, S78, e128, nI_add]
    · have ek43 : (nI (tK b n s1) = nI 43) = (tK b n s1 = 43) := nI_eqD (by omega) (by decide)
      by_cases k45 : tK b n s1 = 45
      · rw [k45] at a5
        have hlt := tK_end hsn (by rw [k45]; decide)
        have hg := tN_gt (b := b) hlt
        have li1 : (nI 160 ≤ nI (i + 1)) = False := nI_leF (show i + 1 < 160 by omega) (show 160 < 2 ^ 31 by decide)
        obtain ⟨w2, c2, h2, e2⟩ := POK.adv (L := L) (xs := xs) (d := d' + 1) hs hT h hlt
        have c2' : Ch pP w1 w2 := gp_up c2 rfl rfl
        have hs2 := c2'.shT hs
        have hT2 := hT.ch c2' rfl (fun _ => rfl)
        have hop : ∀ H om wt, cnt H = o → hdR H < 5 → WT b n s wt → Lds b n (H, om, s, wt) (17 :: H, om ++ ext, tN b n s1, 1) := by
          intro H om wt hc hh hw
          obtain ⟨pend, om', q1, q2, q3, q4⟩ := hM H om wt hc hh hw
          have hu := unw_app (r := 5) hh pend om' q1
          rw [q2] at hu
          exact q3.trans (Lds_s (mst_op k45 (by decide) (fun z => absurd z.1 (by decide)) rfl hu rfl))
        obtain ⟨w3, c3, e3, hr⟩ := hLo (tN b n s1) (by omega) (d' + 7) o (out ++ ext) w2 (by omega) hs2 hT2 h2
        have hs3 := c3.shT hs2
        have hT3 := hT2.ch c3 rfl (fun _ => rfl)
        rcases hr with ⟨f, hf, hm2⟩ | ⟨s3, ext2, hp, hss2, hex2, hwf2, he2, hm2⟩
        · obtain ⟨w4, c4, h4, e4⟩ := S128F (L := L) (xs := xs) (d := d' + 7) (v := (-6) - nI 45) hs3 hf
          have hs4 := c4.shT hs3
          refine ⟨w4, (c2'.trans c3).trans c4, fun Q => ?_, Or.inl ⟨f, h4, fun H om wt hc hh hw => hop H om wt hc hh hw _ (hm2 (17 :: H) (om ++ ext) 1 (by show 0 + cnt H = o; omega) (by show 5 < 6; decide) (Or.inl rfl))⟩⟩
          rw [X129_6]
          simp only [X129_7, X129_10, X129_13, X129_14, X129_17, X129_19, X129_22, X129_23, X129_26, X129_28, X129_31, X129_32, X129_35, X129_36, X129_37, X129_40, X129_41, X129_44, X129_45, X129_46, X129_49, X129_52, X129_55, Nat.zero_le, and_true, true_and, x_nb0, x_nb1, x_nbp, x_isL_int, x_isL_ref, x_isL_junk, x_isR_ref, x_cat_nil, x_cat_int, x_cat_ref, x_cat_long, Option.toList_some, Option.toList_none, List.cons_append, List.nil_append, Nat.reduceAdd, Nat.reduceLeDiff, Nat.reduceLT, t_tag_si, t_tag_sr, t_tag_sI, x_r_si, x_i_sr, t_r_sI, x_ia_si, x_ia_sI, x_ia_sr, x_ra_si, x_ra_sI, x_ra_sr, hv3, li, k_t1 hs, a5, nI_eqF (show 45 ≠ 43 by decide) (by decide) (by decide), if_true, if_false, e2, k_t1 hs2, e3, k_t1 hs3, S78, e4, nI_add]
          rw [X129_6]
          simp only [X129_7, X129_10, X129_13, X129_14, X129_17, X129_19, X129_22, X129_23, X129_26, X129_28, X129_58, Nat.zero_le, and_true, true_and, x_nb0, x_nb1, x_nbp, x_isL_int, x_isL_ref, x_isL_junk, x_isR_ref, x_cat_nil, x_cat_int, x_cat_ref, x_cat_long, Option.toList_some, Option.toList_none, List.cons_append, List.nil_append, Nat.reduceAdd, Nat.reduceLeDiff, Nat.reduceLT, t_tag_si, t_tag_sr, t_tag_sI, x_r_si, x_i_sr, t_r_sI, x_ia_si, x_ia_sI, x_ia_sr, x_ra_si, x_ra_sI, x_ra_sr, li1, k_t1 hs4, h4.1, nI_eqF (show 302 ≠ 43 by decide) (by decide) (by decide), nI_eqF (show 302 ≠ 45 by decide) (by decide) (by decide), if_false]
        · have hlen : (out ++ ext ++ ext2).length = out.length + ext.length + ext2.length := by rw [List.length_append, List.length_append]
          have hlen3 : (ext ++ ext2 ++ [20000 + 17]).length = ext.length + ext2.length + 1 := by rw [List.length_append, List.length_append]; rfl
          have hsn3 := hp.s_le
          have e128 := fun (Q' : Option Value → x_W → Prop) => S128 (L := L) (xs := xs) (d := d' + 7) (Q := Q') hs3 hp.2.2.2.1 (by omega) (v := (-6) - nI 45)
          have hp4 := hp.emit (t := 20000 + 17) (by omega)
          have esx : sxT (20000 + 17) = (-6) - nI 45 := rfl
          rw [esx] at hp4
          have eap : out ++ ext ++ ext2 ++ [20000 + 17] = out ++ (ext ++ ext2 ++ [20000 + 17]) := by rw [List.append_assoc, List.append_assoc, List.append_assoc]
          rw [eap] at hp4
          have c4 : Ch pP w3 (x_si (x_si w3 3 (out ++ ext ++ ext2).length ((-6) - nI 45)) 1 3 (nI ((out ++ ext ++ ext2).length + 1))) := Ch_emit
          obtain ⟨w5, c5, e5, hr5⟩ := ih s3 (i + 1) (ext ++ ext2 ++ [20000 + 17]) (.int (nI 45)) rfl _ (by omega) (by omega) (c4.shT hs3) (hT3.ch c4 rfl (fun _ => rfl)) hp4 (by omega) (by omega) (wfL_bin (by unfold isop; omega) hwf hwf2) he2 (by
            intro H om wt hc hh hw
            obtain ⟨pend, om', q1, q2, q3, q4⟩ := hm2 (17 :: H) (om ++ ext) 1 (by show 0 + cnt H = o; omega) (by show 5 < 6; decide) (Or.inl rfl)
            have ea : pend ++ (17 :: H) = (pend ++ [17]) ++ H := by rw [List.append_assoc]; rfl
            refine ⟨pend ++ [17], om', fun x hx => ?_, ?_, ?_, fun z z2 => ?_⟩
            · rcases List.mem_append.mp hx with q | q
              · exact Nat.le_trans (by decide) (q1 x q)
              · rw [List.mem_singleton.mp q]; decide
            · unfold cds at *
              rw [List.map_append, ← List.append_assoc, q2, List.append_assoc, List.append_assoc, List.append_assoc]
              rfl
            · rw [← ea]; exact (hop H om wt hc hh hw).trans q3
            · rw [← ea]; exact q4 (by omega) z2)
          refine ⟨w5, ((c2'.trans c3).trans c4).trans c5, fun Q => ?_, hr5⟩
          have hs4 := c4.shT hs3
          rw [← e5 Q, X129_6]
          simp only [X129_7, X129_10, X129_13, X129_14, X129_17, X129_19, X129_22, X129_23, X129_26, X129_28, X129_31, X129_32, X129_35, X129_36, X129_37, X129_40, X129_41, X129_44, X129_45, X129_46, X129_49, X129_52, X129_55, Nat.zero_le, and_true, true_and, x_nb0, x_nb1, x_nbp, x_isL_int, x_isL_ref, x_isL_junk, x_isR_ref, x_cat_nil, x_cat_int, x_cat_ref, x_cat_long, Option.toList_some, Option.toList_none, List.cons_append, List.nil_append, Nat.reduceAdd, Nat.reduceLeDiff, Nat.reduceLT, t_tag_si, t_tag_sr, t_tag_sI, x_r_si, x_i_sr, t_r_sI, x_ia_si, x_ia_sI, x_ia_sr, x_ra_si, x_ra_sI, x_ra_sr, hv3, li, k_t1 hs, a5, nI_eqF (show 45 ≠ 43 by decide) (by decide) (by decide), if_true, if_false, e2, k_t1 hs2, e3, k_t1 hs3, S78, e128, nI_add]
      · have ek45 : (nI (tK b n s1) = nI 45) = (tK b n s1 = 45) := nI_eqD (by omega) (by decide)
        have kn : tK b n s1 ≠ 43 ∧ tK b n s1 ≠ 45 := ⟨k43, k45⟩
        refine ⟨w1, Ch.refl, fun Q => ?_, Or.inr ⟨s1, ext, h, hss, hex, hwf, endT_5 he kn, hM⟩⟩
        rw [X129_6]
        simp only [X129_7, X129_10, X129_13, X129_14, X129_17, X129_19, X129_22, X129_23, X129_26, X129_28, X129_58, Nat.zero_le, and_true, true_and, x_nb0, x_nb1, x_nbp, x_isL_int, x_isL_ref, x_isL_junk, x_isR_ref, x_cat_nil, x_cat_int, x_cat_ref, x_cat_long, Option.toList_some, Option.toList_none, List.cons_append, List.nil_append, Nat.reduceAdd, Nat.reduceLeDiff, Nat.reduceLT, t_tag_si, t_tag_sr, t_tag_sI, x_r_si, x_i_sr, t_r_sI, x_ia_si, x_ia_sI, x_ia_sr, x_ra_si, x_ra_sI, x_ra_sr, li, k_t1 hs, a5, ek43, eq_false k43, ek45, eq_false k45, if_false]
theorem Lv129_of (hLo : ∀ s2, s ≤ s2 → Lv L xs b n 130 [x_junk] 1 6 6 WT s2) : Lv L xs b n 129 [x_junk, x_junk] 2 5 5 WT s := by
  intro d o out w hd hs hT h
  obtain ⟨d', rfl⟩ : ∃ d', d = d' + 8 := ⟨d - 8, by omega⟩
  have hle := h.2.2.2.2.2.1
  obtain ⟨w1, c1, e1, hr⟩ := hLo s (Nat.le_refl s) (d' + 7) o out w (by omega) hs hT h
  have hs1 := c1.shT hs
  have hT1 := hT.ch c1 rfl (fun _ => rfl)
  rcases hr with ⟨f, hf, hm⟩ | ⟨s1, ext, hp, hss, hex, hwf, he, hm⟩
  · refine ⟨w1, c1, fun Q => ?_, Or.inl ⟨f, hf, fun H om wt hc hh hw => hm H om wt hc (Nat.lt_of_lt_of_le hh (by decide)) hw⟩⟩
    simp only [X129_0, X129_1, X129_4, X129_5, X129_6, X129_7, X129_10, X129_13, X129_14, X129_17, X129_19, X129_22, X129_23, X129_26, X129_28, X129_58, Nat.zero_le, and_true, true_and, x_nb0, x_nb1, x_nbp, x_isL_int, x_isL_ref, x_isL_junk, x_isR_ref, x_cat_nil, x_cat_int, x_cat_ref, x_cat_long, Option.toList_some, Option.toList_none, List.cons_append, List.nil_append, Nat.reduceAdd, Nat.reduceLeDiff, Nat.reduceLT, t_tag_si, t_tag_sr, t_tag_sI, x_r_si, x_i_sr, t_r_sI, x_ia_si, x_ia_sI, x_ia_sr, x_ra_si, x_ra_sI, x_ra_sr, k_t1 hs, e1, nI_leF (show 0 < 160 by decide) (by decide), k_t1 hs1, hf.1, nI_eqF (show 302 ≠ 43 by decide) (by decide) (by decide), nI_eqF (show 302 ≠ 45 by decide) (by decide) (by decide), if_false]
  · obtain ⟨w2, c2, e2, hr2⟩ := L129 hd (fun s2 hs2 => hLo s2 (Nat.le_of_lt hs2)) hle (n - s1) s1 0 ext x_junk rfl w1 (Nat.le_refl _) (by omega) hs1 hT1 hp hss hex hwf he (hm.up (by decide) (by decide) (by decide))
    refine ⟨w2, c1.trans c2, fun Q => ?_, hr2⟩
    rw [← e2 Q]
    simp only [X129_0, X129_1, X129_4, X129_5, Nat.zero_le, and_true, true_and, x_nb0, x_nb1, x_nbp, x_isL_int, x_isL_ref, x_isL_junk, x_isR_ref, x_cat_nil, x_cat_int, x_cat_ref, x_cat_long, Option.toList_some, Option.toList_none, List.cons_append, List.nil_append, Nat.reduceAdd, Nat.reduceLeDiff, Nat.reduceLT, t_tag_si, t_tag_sr, t_tag_sI, x_r_si, x_i_sr, t_r_sI, x_ia_si, x_ia_sI, x_ia_sr, x_ra_si, x_ra_sI, x_ra_sr, k_t1 hs, e1]
theorem L125 {d' : Nat} (hd : 10 + 6 * (5 - o) + 4 ≤ d' + 8) (hLo : ∀ s2, s < s2 → Lv L xs b n 126 [x_junk] 3 3 4 W2 s2) (hle : out.length ≤ s) : ∀ m s1 i ext w1, n - s1 ≤ m → i + 1 ≤ s1 → ShT w1 → TPx w1 b n → POK w1 b n s1 o (out ++ ext) → s < s1 → ext.length ≤ s1 - s → (∀ h, wfL ext h (h + 1)) → endT 3 (tK b n s1) → MOk b n 2 2 o W2 s s1 ext → ∃ w2, Ch pP w1 w2 ∧ (∀ Q, X_R L xs (d' + 8) 125 6 [.ref 1, .int (nI i)] [] w1 Q = Q none w2) ∧ LvR w2 b n 2 2 o W2 s out := by
  intro m
  induction m with
  | zero =>
    intro s1 i ext w1 hm hi hs hT h hss hex hwf he hM
    have h160 := hT.1
    have hsn := h.s_le
    have hend : tK b n s1 = 301 := by unfold tK; rw [if_pos (by omega)]
    refine ⟨w1, Ch.refl, fun Q => ?_, Or.inr ⟨s1, ext, h, hss, hex, hwf, Or.inl (by rw [hend]; rfl), hM⟩⟩
    have a5 := h.1.2.1
    rw [hend] at a5
    rw [X125_6]
    simp only [X125_7, X125_10, X125_13, X125_14, X125_17, X125_20, X125_47, Nat.zero_le, and_true, true_and, x_nb0, x_nb1, x_nbp, x_isL_int, x_isL_ref, x_isL_junk, x_isR_ref, x_cat_nil, x_cat_int, x_cat_ref, x_cat_long, Option.toList_some, Option.toList_none, List.cons_append, List.nil_append, Nat.reduceAdd, Nat.reduceLeDiff, Nat.reduceLT, t_tag_si, t_tag_sr, t_tag_sI, x_r_si, x_i_sr, t_r_sI, x_ia_si, x_ia_sI, x_ia_sr, x_ra_si, x_ra_sI, x_ra_sr, nI_leF (show i < 160 by omega) (show 160 < 2 ^ 31 by decide), k_t1 hs, a5, nI_eqF (show 301 ≠ 266 by decide) (by decide) (by decide), if_false]
  | succ m ih =>
    intro s1 i ext w1 hm hi hs hT h hss hex hwf he hM
    have h160 := hT.1
    have hsn := h.s_le
    have a5 := h.1.2.1
    have hK := tK_lt (s := s1) hT
    have li : (nI 160 ≤ nI i) = False := nI_leF (show i < 160 by omega) (show 160 < 2 ^ 31 by decide)
    by_cases k266 : tK b n s1 = 266
    · rw [k266] at a5
      have hlt := tK_end hsn (by rw [k266]; decide)
      have hg := tN_gt (b := b) hlt
      have li1 : (nI 160 ≤ nI (i + 1)) = False := nI_leF (show i + 1 < 160 by omega) (show 160 < 2 ^ 31 by decide)
      obtain ⟨w2, c2, h2, e2⟩ := POK.adv (L := L) (xs := xs) (d := d' + 1) hs hT h hlt
      have c2' : Ch pP w1 w2 := gp_up c2 rfl rfl
      have hs2 := c2'.shT hs
      have hT2 := hT.ch c2' rfl (fun _ => rfl)
      have hop : ∀ H om wt, cnt H = o → hdR H < 2 → W2 b n s wt → Lds b n (H, om, s, wt) (12 :: H, om ++ ext, tN b n s1, 2) := by
        intro H om wt hc hh hw
        obtain ⟨pend, om', q1, q2, q3, q4⟩ := hM H om wt hc hh hw
        have hu := unw_app (r := 2) hh pend om' q1
        rw [q2] at hu
        exact q3.trans (Lds_s (mst_op k266 (by decide) (fun z => absurd z.1 (by decide)) rfl hu rfl))
      obtain ⟨w3, c3, e3, hr⟩ := hLo (tN b n s1) (by omega) (d' + 7) o (out ++ ext) w2 (by omega) hs2 hT2 h2
      have hs3 := c3.shT hs2
      have hT3 := hT2.ch c3 rfl (fun _ => rfl)
      rcases hr with ⟨f, hf, hm2⟩ | ⟨s3, ext2, hp, hss2, hex2, hwf2, he2, hm2⟩
      · obtain ⟨w4, c4, h4, e4⟩ := S128F (L := L) (xs := xs) (d := d' + 7) (v := (-6) - nI 266) hs3 hf
        have hs4 := c4.shT hs3
        refine ⟨w4, (c2'.trans c3).trans c4, fun Q => ?_, Or.inl ⟨f, h4, fun H om wt hc hh hw => hop H om wt hc hh hw _ (hm2 (12 :: H) (om ++ ext) 2 (by show 0 + cnt H = o; omega) (by show 2 < 4; decide) (rfl))⟩⟩
        rw [X125_6]
        simp only [X125_7, X125_10, X125_13, X125_14, X125_17, X125_20, X125_23, X125_24, X125_27, X125_28, X125_31, X125_32, X125_35, X125_38, X125_41, X125_44, Nat.zero_le, and_true, true_and, x_nb0, x_nb1, x_nbp, x_isL_int, x_isL_ref, x_isL_junk, x_isR_ref, x_cat_nil, x_cat_int, x_cat_ref, x_cat_long, Option.toList_some, Option.toList_none, List.cons_append, List.nil_append, Nat.reduceAdd, Nat.reduceLeDiff, Nat.reduceLT, t_tag_si, t_tag_sr, t_tag_sI, x_r_si, x_i_sr, t_r_sI, x_ia_si, x_ia_sI, x_ia_sr, x_ra_si, x_ra_sI, x_ra_sr, li, k_t1 hs, a5, if_true, if_false, e2, k_t1 hs2, e3, k_t1 hs3, S78, e4, nI_add]
        rw [X125_6]
        simp only [X125_7, X125_10, X125_13, X125_14, X125_17, X125_20, X125_47, Nat.zero_le, and_true, true_and, x_nb0, x_nb1, x_nbp, x_isL_int, x_isL_ref, x_isL_junk, x_isR_ref, x_cat_nil, x_cat_int, x_cat_ref, x_cat_long, Option.toList_some, Option.toList_none, List.cons_append, List.nil_append, Nat.reduceAdd, Nat.reduceLeDiff, Nat.reduceLT, t_tag_si, t_tag_sr, t_tag_sI, x_r_si, x_i_sr, t_r_sI, x_ia_si, x_ia_sI, x_ia_sr, x_ra_si, x_ra_sI, x_ra_sr, li1, k_t1 hs4, h4.1, nI_eqF (show 302 ≠ 266 by decide) (by decide) (by decide), if_false]
      · have hlen : (out ++ ext ++ ext2).length = out.length + ext.length + ext2.length := by rw [List.length_append, List.length_append]
        have hlen3 : (ext ++ ext2 ++ [20000 + 12]).length = ext.length + ext2.length + 1 := by rw [List.length_append, List.length_append]; rfl
        have hsn3 := hp.s_le
        have e128 := fun (Q' : Option Value → x_W → Prop) => S128 (L := L) (xs := xs) (d := d' + 7) (Q := Q') hs3 hp.2.2.2.1 (by omega) (v := (-6) - nI 266)
        have hp4 := hp.emit (t := 20000 + 12) (by omega)
        have esx : sxT (20000 + 12) = (-6) - nI 266 := rfl
        rw [esx] at hp4
        have eap : out ++ ext ++ ext2 ++ [20000 + 12] = out ++ (ext ++ ext2 ++ [20000 + 12]) := by rw [List.append_assoc, List.append_assoc, List.append_assoc]
        rw [eap] at hp4
        have c4 : Ch pP w3 (x_si (x_si w3 3 (out ++ ext ++ ext2).length ((-6) - nI 266)) 1 3 (nI ((out ++ ext ++ ext2).length + 1))) := Ch_emit
        obtain ⟨w5, c5, e5, hr5⟩ := ih s3 (i + 1) (ext ++ ext2 ++ [20000 + 12]) _ (by omega) (by omega) (c4.shT hs3) (hT3.ch c4 rfl (fun _ => rfl)) hp4 (by omega) (by omega) (wfL_bin (by unfold isop; omega) hwf hwf2) he2 (by
          intro H om wt hc hh hw
          obtain ⟨pend, om', q1, q2, q3, q4⟩ := hm2 (12 :: H) (om ++ ext) 2 (by show 0 + cnt H = o; omega) (by show 2 < 4; decide) (rfl)
          have ea : pend ++ (12 :: H) = (pend ++ [12]) ++ H := by rw [List.append_assoc]; rfl
          refine ⟨pend ++ [12], om', fun x hx => ?_, ?_, ?_, fun z z2 => ?_⟩
          · rcases List.mem_append.mp hx with q | q
            · exact Nat.le_trans (by decide) (q1 x q)
            · rw [List.mem_singleton.mp q]; decide
          · unfold cds at *
            rw [List.map_append, ← List.append_assoc, q2, List.append_assoc, List.append_assoc, List.append_assoc]
            rfl
          · rw [← ea]; exact (hop H om wt hc hh hw).trans q3
          · rw [← ea]; exact q4 (by omega) z2)
        refine ⟨w5, ((c2'.trans c3).trans c4).trans c5, fun Q => ?_, hr5⟩
        have hs4 := c4.shT hs3
        rw [← e5 Q, X125_6]
        simp only [X125_7, X125_10, X125_13, X125_14, X125_17, X125_20, X125_23, X125_24, X125_27, X125_28, X125_31, X125_32, X125_35, X125_38, X125_41, X125_44, Nat.zero_le, and_true, true_and, x_nb0, x_nb1, x_nbp, x_isL_int, x_isL_ref, x_isL_junk, x_isR_ref, x_cat_nil, x_cat_int, x_cat_ref, x_cat_long, Option.toList_some, Option.toList_none, List.cons_append, List.nil_append, Nat.reduceAdd, Nat.reduceLeDiff, Nat.reduceLT, t_tag_si, t_tag_sr, t_tag_sI, x_r_si, x_i_sr, t_r_sI, x_ia_si, x_ia_sI, x_ia_sr, x_ra_si, x_ra_sI, x_ra_sr, li, k_t1 hs, a5, if_true, if_false, e2, k_t1 hs2, e3, k_t1 hs3, S78, e128, nI_add]
    · have ek266 : (nI (tK b n s1) = nI 266) = (tK b n s1 = 266) := nI_eqD (by omega) (by decide)
      have kn : tK b n s1 ≠ 266 := k266
      refine ⟨w1, Ch.refl, fun Q => ?_, Or.inr ⟨s1, ext, h, hss, hex, hwf, endT_2 he kn, hM⟩⟩
      rw [X125_6]
      simp only [X125_7, X125_10, X125_13, X125_14, X125_17, X125_20, X125_47, Nat.zero_le, and_true, true_and, x_nb0, x_nb1, x_nbp, x_isL_int, x_isL_ref, x_isL_junk, x_isR_ref, x_cat_nil, x_cat_int, x_cat_ref, x_cat_long, Option.toList_some, Option.toList_none, List.cons_append, List.nil_append, Nat.reduceAdd, Nat.reduceLeDiff, Nat.reduceLT, t_tag_si, t_tag_sr, t_tag_sI, x_r_si, x_i_sr, t_r_sI, x_ia_si, x_ia_sI, x_ia_sr, x_ra_si, x_ra_sI, x_ra_sr, li, k_t1 hs, a5, ek266, eq_false k266, if_false]
theorem Lv125_of (hLo : ∀ s2, s ≤ s2 → Lv L xs b n 126 [x_junk] 3 3 4 W2 s2) : Lv L xs b n 125 [x_junk] 4 2 2 W2 s := by
  intro d o out w hd hs hT h
  obtain ⟨d', rfl⟩ : ∃ d', d = d' + 8 := ⟨d - 8, by omega⟩
  have hle := h.2.2.2.2.2.1
  obtain ⟨w1, c1, e1, hr⟩ := hLo s (Nat.le_refl s) (d' + 7) o out w (by omega) hs hT h
  have hs1 := c1.shT hs
  have hT1 := hT.ch c1 rfl (fun _ => rfl)
  rcases hr with ⟨f, hf, hm⟩ | ⟨s1, ext, hp, hss, hex, hwf, he, hm⟩
  · refine ⟨w1, c1, fun Q => ?_, Or.inl ⟨f, hf, fun H om wt hc hh hw => hm H om wt hc (Nat.lt_of_lt_of_le hh (by decide)) hw⟩⟩
    simp only [X125_0, X125_1, X125_4, X125_5, X125_6, X125_7, X125_10, X125_13, X125_14, X125_17, X125_20, X125_47, Nat.zero_le, and_true, true_and, x_nb0, x_nb1, x_nbp, x_isL_int, x_isL_ref, x_isL_junk, x_isR_ref, x_cat_nil, x_cat_int, x_cat_ref, x_cat_long, Option.toList_some, Option.toList_none, List.cons_append, List.nil_append, Nat.reduceAdd, Nat.reduceLeDiff, Nat.reduceLT, t_tag_si, t_tag_sr, t_tag_sI, x_r_si, x_i_sr, t_r_sI, x_ia_si, x_ia_sI, x_ia_sr, x_ra_si, x_ra_sI, x_ra_sr, k_t1 hs, e1, nI_leF (show 0 < 160 by decide) (by decide), k_t1 hs1, hf.1, nI_eqF (show 302 ≠ 266 by decide) (by decide) (by decide), if_false]
  · obtain ⟨w2, c2, e2, hr2⟩ := L125 hd (fun s2 hs2 => hLo s2 (Nat.le_of_lt hs2)) hle (n - s1) s1 0 ext w1 (Nat.le_refl _) (by omega) hs1 hT1 hp hss hex hwf he (hm.up (by decide) (by decide) (by decide))
    refine ⟨w2, c1.trans c2, fun Q => ?_, hr2⟩
    rw [← e2 Q]
    simp only [X125_0, X125_1, X125_4, X125_5, Nat.zero_le, and_true, true_and, x_nb0, x_nb1, x_nbp, x_isL_int, x_isL_ref, x_isL_junk, x_isR_ref, x_cat_nil, x_cat_int, x_cat_ref, x_cat_long, Option.toList_some, Option.toList_none, List.cons_append, List.nil_append, Nat.reduceAdd, Nat.reduceLeDiff, Nat.reduceLT, t_tag_si, t_tag_sr, t_tag_sI, x_r_si, x_i_sr, t_r_sI, x_ia_si, x_ia_sI, x_ia_sr, x_ra_si, x_ra_sI, x_ra_sr, k_t1 hs, e1]
theorem L124 {d' : Nat} (hd : 10 + 6 * (5 - o) + 5 ≤ d' + 8) (hLo : ∀ s2, s < s2 → Lv L xs b n 125 [x_junk] 4 2 2 W2 s2) (hle : out.length ≤ s) : ∀ m s1 i ext w1, n - s1 ≤ m → i + 1 ≤ s1 → ShT w1 → TPx w1 b n → POK w1 b n s1 o (out ++ ext) → s < s1 → ext.length ≤ s1 - s → (∀ h, wfL ext h (h + 1)) → endT 2 (tK b n s1) → MOk b n 1 1 o W2 s s1 ext → ∃ w2, Ch pP w1 w2 ∧ (∀ Q, X_R L xs (d' + 8) 124 6 [.ref 1, .int (nI i)] [] w1 Q = Q none w2) ∧ LvR w2 b n 1 1 o W2 s out := by
  intro m
  induction m with
  | zero =>
    intro s1 i ext w1 hm hi hs hT h hss hex hwf he hM
    have h160 := hT.1
    have hsn := h.s_le
    have hend : tK b n s1 = 301 := by unfold tK; rw [if_pos (by omega)]
    refine ⟨w1, Ch.refl, fun Q => ?_, Or.inr ⟨s1, ext, h, hss, hex, hwf, Or.inl (by rw [hend]; rfl), hM⟩⟩
    have a5 := h.1.2.1
    rw [hend] at a5
    rw [X124_6]
    simp only [X124_7, X124_10, X124_13, X124_14, X124_17, X124_20, X124_47, Nat.zero_le, and_true, true_and, x_nb0, x_nb1, x_nbp, x_isL_int, x_isL_ref, x_isL_junk, x_isR_ref, x_cat_nil, x_cat_int, x_cat_ref, x_cat_long, Option.toList_some, Option.toList_none, List.cons_append, List.nil_append, Nat.reduceAdd, Nat.reduceLeDiff, Nat.reduceLT, t_tag_si, t_tag_sr, t_tag_sI, x_r_si, x_i_sr, t_r_sI, x_ia_si, x_ia_sI, x_ia_sr, x_ra_si, x_ra_sI, x_ra_sr, nI_leF (show i < 160 by omega) (show 160 < 2 ^ 31 by decide), k_t1 hs, a5, nI_eqF (show 301 ≠ 265 by decide) (by decide) (by decide), if_false]
  | succ m ih =>
    intro s1 i ext w1 hm hi hs hT h hss hex hwf he hM
    have h160 := hT.1
    have hsn := h.s_le
    have a5 := h.1.2.1
    have hK := tK_lt (s := s1) hT
    have li : (nI 160 ≤ nI i) = False := nI_leF (show i < 160 by omega) (show 160 < 2 ^ 31 by decide)
    by_cases k265 : tK b n s1 = 265
    · rw [k265] at a5
      have hlt := tK_end hsn (by rw [k265]; decide)
      have hg := tN_gt (b := b) hlt
      have li1 : (nI 160 ≤ nI (i + 1)) = False := nI_leF (show i + 1 < 160 by omega) (show 160 < 2 ^ 31 by decide)
      obtain ⟨w2, c2, h2, e2⟩ := POK.adv (L := L) (xs := xs) (d := d' + 1) hs hT h hlt
      have c2' : Ch pP w1 w2 := gp_up c2 rfl rfl
      have hs2 := c2'.shT hs
      have hT2 := hT.ch c2' rfl (fun _ => rfl)
      have hop : ∀ H om wt, cnt H = o → hdR H < 1 → W2 b n s wt → Lds b n (H, om, s, wt) (11 :: H, om ++ ext, tN b n s1, 2) := by
        intro H om wt hc hh hw
        obtain ⟨pend, om', q1, q2, q3, q4⟩ := hM H om wt hc hh hw
        have hu := unw_app (r := 1) hh pend om' q1
        rw [q2] at hu
        exact q3.trans (Lds_s (mst_op k265 (by decide) (fun z => absurd z.1 (by decide)) rfl hu rfl))
      obtain ⟨w3, c3, e3, hr⟩ := hLo (tN b n s1) (by omega) (d' + 7) o (out ++ ext) w2 (by omega) hs2 hT2 h2
      have hs3 := c3.shT hs2
      have hT3 := hT2.ch c3 rfl (fun _ => rfl)
      rcases hr with ⟨f, hf, hm2⟩ | ⟨s3, ext2, hp, hss2, hex2, hwf2, he2, hm2⟩
      · obtain ⟨w4, c4, h4, e4⟩ := S128F (L := L) (xs := xs) (d := d' + 7) (v := (-6) - nI 265) hs3 hf
        have hs4 := c4.shT hs3
        refine ⟨w4, (c2'.trans c3).trans c4, fun Q => ?_, Or.inl ⟨f, h4, fun H om wt hc hh hw => hop H om wt hc hh hw _ (hm2 (11 :: H) (om ++ ext) 2 (by show 0 + cnt H = o; omega) (by show 1 < 2; decide) (rfl))⟩⟩
        rw [X124_6]
        simp only [X124_7, X124_10, X124_13, X124_14, X124_17, X124_20, X124_23, X124_24, X124_27, X124_28, X124_31, X124_32, X124_35, X124_38, X124_41, X124_44, Nat.zero_le, and_true, true_and, x_nb0, x_nb1, x_nbp, x_isL_int, x_isL_ref, x_isL_junk, x_isR_ref, x_cat_nil, x_cat_int, x_cat_ref, x_cat_long, Option.toList_some, Option.toList_none, List.cons_append, List.nil_append, Nat.reduceAdd, Nat.reduceLeDiff, Nat.reduceLT, t_tag_si, t_tag_sr, t_tag_sI, x_r_si, x_i_sr, t_r_sI, x_ia_si, x_ia_sI, x_ia_sr, x_ra_si, x_ra_sI, x_ra_sr, li, k_t1 hs, a5, if_true, if_false, e2, k_t1 hs2, e3, k_t1 hs3, S78, e4, nI_add]
        rw [X124_6]
        simp only [X124_7, X124_10, X124_13, X124_14, X124_17, X124_20, X124_47, Nat.zero_le, and_true, true_and, x_nb0, x_nb1, x_nbp, x_isL_int, x_isL_ref, x_isL_junk, x_isR_ref, x_cat_nil, x_cat_int, x_cat_ref, x_cat_long, Option.toList_some, Option.toList_none, List.cons_append, List.nil_append, Nat.reduceAdd, Nat.reduceLeDiff, Nat.reduceLT, t_tag_si, t_tag_sr, t_tag_sI, x_r_si, x_i_sr, t_r_sI, x_ia_si, x_ia_sI, x_ia_sr, x_ra_si, x_ra_sI, x_ra_sr, li1, k_t1 hs4, h4.1, nI_eqF (show 302 ≠ 265 by decide) (by decide) (by decide), if_false]
      · have hlen : (out ++ ext ++ ext2).length = out.length + ext.length + ext2.length := by rw [List.length_append, List.length_append]
        have hlen3 : (ext ++ ext2 ++ [20000 + 11]).length = ext.length + ext2.length + 1 := by rw [List.length_append, List.length_append]; rfl
        have hsn3 := hp.s_le
        have e128 := fun (Q' : Option Value → x_W → Prop) => S128 (L := L) (xs := xs) (d := d' + 7) (Q := Q') hs3 hp.2.2.2.1 (by omega) (v := (-6) - nI 265)
        have hp4 := hp.emit (t := 20000 + 11) (by omega)
        have esx : sxT (20000 + 11) = (-6) - nI 265 := rfl
        rw [esx] at hp4
        have eap : out ++ ext ++ ext2 ++ [20000 + 11] = out ++ (ext ++ ext2 ++ [20000 + 11]) := by rw [List.append_assoc, List.append_assoc, List.append_assoc]
        rw [eap] at hp4
        have c4 : Ch pP w3 (x_si (x_si w3 3 (out ++ ext ++ ext2).length ((-6) - nI 265)) 1 3 (nI ((out ++ ext ++ ext2).length + 1))) := Ch_emit
        obtain ⟨w5, c5, e5, hr5⟩ := ih s3 (i + 1) (ext ++ ext2 ++ [20000 + 11]) _ (by omega) (by omega) (c4.shT hs3) (hT3.ch c4 rfl (fun _ => rfl)) hp4 (by omega) (by omega) (wfL_bin (by unfold isop; omega) hwf hwf2) he2 (by
          intro H om wt hc hh hw
          obtain ⟨pend, om', q1, q2, q3, q4⟩ := hm2 (11 :: H) (om ++ ext) 2 (by show 0 + cnt H = o; omega) (by show 1 < 2; decide) (rfl)
          have ea : pend ++ (11 :: H) = (pend ++ [11]) ++ H := by rw [List.append_assoc]; rfl
          refine ⟨pend ++ [11], om', fun x hx => ?_, ?_, ?_, fun z z2 => ?_⟩
          · rcases List.mem_append.mp hx with q | q
            · exact Nat.le_trans (by decide) (q1 x q)
            · rw [List.mem_singleton.mp q]; decide
          · unfold cds at *
            rw [List.map_append, ← List.append_assoc, q2, List.append_assoc, List.append_assoc, List.append_assoc]
            rfl
          · rw [← ea]; exact (hop H om wt hc hh hw).trans q3
          · rw [← ea]; exact q4 (by omega) z2)
        refine ⟨w5, ((c2'.trans c3).trans c4).trans c5, fun Q => ?_, hr5⟩
        have hs4 := c4.shT hs3
        rw [← e5 Q, X124_6]
        simp only [X124_7, X124_10, X124_13, X124_14, X124_17, X124_20, X124_23, X124_24, X124_27, X124_28, X124_31, X124_32, X124_35, X124_38, X124_41, X124_44, Nat.zero_le, and_true, true_and, x_nb0, x_nb1, x_nbp, x_isL_int, x_isL_ref, x_isL_junk, x_isR_ref, x_cat_nil, x_cat_int, x_cat_ref, x_cat_long, Option.toList_some, Option.toList_none, List.cons_append, List.nil_append, Nat.reduceAdd, Nat.reduceLeDiff, Nat.reduceLT, t_tag_si, t_tag_sr, t_tag_sI, x_r_si, x_i_sr, t_r_sI, x_ia_si, x_ia_sI, x_ia_sr, x_ra_si, x_ra_sI, x_ra_sr, li, k_t1 hs, a5, if_true, if_false, e2, k_t1 hs2, e3, k_t1 hs3, S78, e128, nI_add]
    · have ek265 : (nI (tK b n s1) = nI 265) = (tK b n s1 = 265) := nI_eqD (by omega) (by decide)
      have kn : tK b n s1 ≠ 265 := k265
      refine ⟨w1, Ch.refl, fun Q => ?_, Or.inr ⟨s1, ext, h, hss, hex, hwf, endT_1 he kn, hM⟩⟩
      rw [X124_6]
      simp only [X124_7, X124_10, X124_13, X124_14, X124_17, X124_20, X124_47, Nat.zero_le, and_true, true_and, x_nb0, x_nb1, x_nbp, x_isL_int, x_isL_ref, x_isL_junk, x_isR_ref, x_cat_nil, x_cat_int, x_cat_ref, x_cat_long, Option.toList_some, Option.toList_none, List.cons_append, List.nil_append, Nat.reduceAdd, Nat.reduceLeDiff, Nat.reduceLT, t_tag_si, t_tag_sr, t_tag_sI, x_r_si, x_i_sr, t_r_sI, x_ia_si, x_ia_sI, x_ia_sr, x_ra_si, x_ra_sI, x_ra_sr, li, k_t1 hs, a5, ek265, eq_false k265, if_false]
theorem Lv124_of (hLo : ∀ s2, s ≤ s2 → Lv L xs b n 125 [x_junk] 4 2 2 W2 s2) : Lv L xs b n 124 [x_junk] 5 1 1 W2 s := by
  intro d o out w hd hs hT h
  obtain ⟨d', rfl⟩ : ∃ d', d = d' + 8 := ⟨d - 8, by omega⟩
  have hle := h.2.2.2.2.2.1
  obtain ⟨w1, c1, e1, hr⟩ := hLo s (Nat.le_refl s) (d' + 7) o out w (by omega) hs hT h
  have hs1 := c1.shT hs
  have hT1 := hT.ch c1 rfl (fun _ => rfl)
  rcases hr with ⟨f, hf, hm⟩ | ⟨s1, ext, hp, hss, hex, hwf, he, hm⟩
  · refine ⟨w1, c1, fun Q => ?_, Or.inl ⟨f, hf, fun H om wt hc hh hw => hm H om wt hc (Nat.lt_of_lt_of_le hh (by decide)) hw⟩⟩
    simp only [X124_0, X124_1, X124_4, X124_5, X124_6, X124_7, X124_10, X124_13, X124_14, X124_17, X124_20, X124_47, Nat.zero_le, and_true, true_and, x_nb0, x_nb1, x_nbp, x_isL_int, x_isL_ref, x_isL_junk, x_isR_ref, x_cat_nil, x_cat_int, x_cat_ref, x_cat_long, Option.toList_some, Option.toList_none, List.cons_append, List.nil_append, Nat.reduceAdd, Nat.reduceLeDiff, Nat.reduceLT, t_tag_si, t_tag_sr, t_tag_sI, x_r_si, x_i_sr, t_r_sI, x_ia_si, x_ia_sI, x_ia_sr, x_ra_si, x_ra_sI, x_ra_sr, k_t1 hs, e1, nI_leF (show 0 < 160 by decide) (by decide), k_t1 hs1, hf.1, nI_eqF (show 302 ≠ 265 by decide) (by decide) (by decide), if_false]
  · obtain ⟨w2, c2, e2, hr2⟩ := L124 hd (fun s2 hs2 => hLo s2 (Nat.le_of_lt hs2)) hle (n - s1) s1 0 ext w1 (Nat.le_refl _) (by omega) hs1 hT1 hp hss hex hwf he (hm.up (by decide) (by decide) (by decide))
    refine ⟨w2, c1.trans c2, fun Q => ?_, hr2⟩
    rw [← e2 Q]
    simp only [X124_0, X124_1, X124_4, X124_5, Nat.zero_le, and_true, true_and, x_nb0, x_nb1, x_nbp, x_isL_int, x_isL_ref, x_isL_junk, x_isR_ref, x_cat_nil, x_cat_int, x_cat_ref, x_cat_long, Option.toList_some, Option.toList_none, List.cons_append, List.nil_append, Nat.reduceAdd, Nat.reduceLeDiff, Nat.reduceLT, t_tag_si, t_tag_sr, t_tag_sI, x_r_si, x_i_sr, t_r_sI, x_ia_si, x_ia_sI, x_ia_sr, x_ra_si, x_ra_sI, x_ra_sr, k_t1 hs, e1]
end S9995
