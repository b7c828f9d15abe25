/-! ===== the class's reader behind a fault ===== -/
def Flt (L : Nat) (xs : Nat → Int32) (d mid : Nat) (al : List Value) : Prop := ∀ w f, ShT w → PF w f → ∃ w2, Ch pP w w2 ∧ PF w2 f ∧ ∀ Q, X_R L xs d mid 0 al [] w Q = Q none w2
section S9993
variable {L : Nat} {xs : Nat → Int32} {d : Nat}
theorem F131 : Flt L xs (d + 1) 131 [.ref 1] := by
  intro w f hs h
  obtain ⟨w2, c2, h2, e2⟩ := S123F (L := L) (xs := xs) (d := d) hs h
  refine ⟨w2, c2, h2, fun Q => ?_⟩
  simp only [X131_0, X131_1, X131_4, X131_7, X131_25, X131_26, X131_29, X131_32, X131_35, X131_36, X131_39, X131_42, X131_67, X131_68, X131_71, X131_73, X131_107, X131_108, X131_111, X131_113, X131_143, X131_144, X131_147, Nat.zero_le, and_true, true_and, x_nb0, x_nb1, x_nbp, x_isL_int, x_isL_ref, x_isL_junk, x_isR_ref, x_cat_nil, x_cat_int, x_cat_ref, x_cat_long, Option.toList_some, Option.toList_none, List.cons_append, List.nil_append, Nat.reduceAdd, Nat.reduceLeDiff, Nat.reduceLT, t_tag_si, t_tag_sr, t_tag_sI, x_r_si, x_i_sr, t_r_sI, x_ia_si, x_ia_sI, x_ia_sr, x_ra_si, x_ra_sI, x_ra_sr, k_t1 hs, h.1, nI_eqF (show 302 ≠ 300 by decide) (by decide) (by decide), nI_ltF (show 256 ≤ 302 by decide) (by decide), nI_leT (show 262 ≤ 302 by decide) (by decide), nI_eqF (show 302 ≠ 45 by decide) (by decide) (by decide), nI_eqF (show 302 ≠ 40 by decide) (by decide) (by decide), if_false, if_true, e2]
theorem F130 : Flt L xs (d + 2) 130 [.ref 1, x_junk] := by
  intro w f hs h
  obtain ⟨w2, c2, h2, e2⟩ := F131 (L := L) (xs := xs) (d := d) w f hs h
  have hs2 := c2.shT hs
  refine ⟨w2, c2, h2, fun Q => ?_⟩
  simp only [X130_0, X130_1, X130_4, X130_5, X130_6, X130_7, X130_10, X130_13, X130_14, X130_17, X130_19, X130_45, Nat.zero_le, and_true, true_and, x_nb0, x_nb1, x_nbp, x_isL_int, x_isL_ref, x_isL_junk, x_isR_ref, x_cat_nil, x_cat_int, x_cat_ref, x_cat_long, Option.toList_some, Option.toList_none, List.cons_append, List.nil_append, Nat.reduceAdd, Nat.reduceLeDiff, Nat.reduceLT, t_tag_si, t_tag_sr, t_tag_sI, x_r_si, x_i_sr, t_r_sI, x_ia_si, x_ia_sI, x_ia_sr, x_ra_si, x_ra_sI, x_ra_sr, k_t1 hs, e2, k_t1 hs2, h2.1, nI_leF (show 0 < 160 by decide) (by decide), nI_eqF (show 302 ≠ 42 by decide) (by decide) (by decide), if_false]
theorem F129 : Flt L xs (d + 3) 129 [.ref 1, x_junk, x_junk] := by
  intro w f hs h
  obtain ⟨w2, c2, h2, e2⟩ := F130 (L := L) (xs := xs) (d := d) w f hs h
  have hs2 := c2.shT hs
  refine ⟨w2, c2, h2, fun Q => ?_⟩
  simp only [X129_0, X129_1, X129_4, X129_5, X129_6, X129_7, X129_10, X129_13, X129_14, X129_17, X129_19, X129_22, X129_23, X129_26, X129_28, X129_58, Nat.zero_le, and_true, true_and, x_nb0, x_nb1, x_nbp, x_isL_int, x_isL_ref, x_isL_junk, x_isR_ref, x_cat_nil, x_cat_int, x_cat_ref, x_cat_long, Option.toList_some, Option.toList_none, List.cons_append, List.nil_append, Nat.reduceAdd, Nat.reduceLeDiff, Nat.reduceLT, t_tag_si, t_tag_sr, t_tag_sI, x_r_si, x_i_sr, t_r_sI, x_ia_si, x_ia_sI, x_ia_sr, x_ra_si, x_ra_sI, x_ra_sr, k_t1 hs, e2, k_t1 hs2, h2.1, nI_leF (show 0 < 160 by decide) (by decide), nI_eqF (show 302 ≠ 43 by decide) (by decide) (by decide), nI_eqF (show 302 ≠ 45 by decide) (by decide) (by decide), if_false]
theorem F126 : Flt L xs (d + 4) 126 [.ref 1, x_junk] := by
  intro w f hs h
  obtain ⟨w2, c2, h2, e2⟩ := F129 (L := L) (xs := xs) (d := d) w f hs h
  have hs2 := c2.shT hs
  refine ⟨w2, c2, h2, fun Q => ?_⟩
  simp only [X126_0, X126_1, X126_4, X126_7, X126_39, X126_40, X126_43, X126_44, X126_47, X126_48, X126_49, X126_51, X126_54, X126_55, X126_57, X126_76, Nat.zero_le, and_true, true_and, x_nb0, x_nb1, x_nbp, x_isL_int, x_isL_ref, x_isL_junk, x_isR_ref, x_cat_nil, x_cat_int, x_cat_ref, x_cat_long, Option.toList_some, Option.toList_none, List.cons_append, List.nil_append, Nat.reduceAdd, Nat.reduceLeDiff, Nat.reduceLT, t_tag_si, t_tag_sr, t_tag_sI, x_r_si, x_i_sr, t_r_sI, x_ia_si, x_ia_sI, x_ia_sr, x_ra_si, x_ra_sI, x_ra_sr, k_t1 hs, h.1, nI_eqF (show 302 ≠ 267 by decide) (by decide) (by decide), if_false, e2, k_t1 hs2, h2.1, nI_eqF (show 302 ≠ 60 by decide) (by decide) (by decide), nI_eqF (show 302 ≠ 61 by decide) (by decide) (by decide)]
theorem F125 : Flt L xs (d + 5) 125 [.ref 1, x_junk] := by
  intro w f hs h
  obtain ⟨w2, c2, h2, e2⟩ := F126 (L := L) (xs := xs) (d := d) w f hs h
  have hs2 := c2.shT hs
  refine ⟨w2, c2, h2, fun Q => ?_⟩
  simp only [X125_0, X125_1, X125_4, X125_5, X125_6, X125_7, X125_10, X125_13, X125_14, X125_17, X125_20, X125_47, Nat.zero_le, and_true, true_and, x_nb0, x_nb1, x_nbp, x_isL_int, x_isL_ref, x_isL_junk, x_isR_ref, x_cat_nil, x_cat_int, x_cat_ref, x_cat_long, Option.toList_some, Option.toList_none, List.cons_append, List.nil_append, Nat.reduceAdd, Nat.reduceLeDiff, Nat.reduceLT, t_tag_si, t_tag_sr, t_tag_sI, x_r_si, x_i_sr, t_r_sI, x_ia_si, x_ia_sI, x_ia_sr, x_ra_si, x_ra_sI, x_ra_sr, k_t1 hs, e2, k_t1 hs2, h2.1, nI_leF (show 0 < 160 by decide) (by decide), nI_eqF (show 302 ≠ 266 by decide) (by decide) (by decide), if_false]
theorem F124 : Flt L xs (d + 6) 124 [.ref 1, x_junk] := by
  intro w f hs h
  obtain ⟨w2, c2, h2, e2⟩ := F125 (L := L) (xs := xs) (d := d) w f hs h
  have hs2 := c2.shT hs
  refine ⟨w2, c2, h2, fun Q => ?_⟩
  simp only [X124_0, X124_1, X124_4, X124_5, X124_6, X124_7, X124_10, X124_13, X124_14, X124_17, X124_20, X124_47, Nat.zero_le, and_true, true_and, x_nb0, x_nb1, x_nbp, x_isL_int, x_isL_ref, x_isL_junk, x_isR_ref, x_cat_nil, x_cat_int, x_cat_ref, x_cat_long, Option.toList_some, Option.toList_none, List.cons_append, List.nil_append, Nat.reduceAdd, Nat.reduceLeDiff, Nat.reduceLT, t_tag_si, t_tag_sr, t_tag_sI, x_r_si, x_i_sr, t_r_sI, x_ia_si, x_ia_sI, x_ia_sr, x_ra_si, x_ra_sI, x_ra_sr, k_t1 hs, e2, k_t1 hs2, h2.1, nI_leF (show 0 < 160 by decide) (by decide), nI_eqF (show 302 ≠ 265 by decide) (by decide) (by decide), if_false]
theorem S78 {w : x_W} {Q : Option Value → x_W → Prop} {v : Int32} : X_R L xs d 78 0 [.int v] [] w Q = Q (some (.int ((-6) - v))) w := by
  simp only [X78_0, X78_2, X78_3, X78_4, Nat.zero_le, and_true, true_and, x_nb0, x_nb1, x_nbp, x_isL_int, x_isL_ref, x_isL_junk, x_isR_ref, x_cat_nil, x_cat_int, x_cat_ref, x_cat_long, Option.toList_some, Option.toList_none, List.cons_append, List.nil_append, Nat.reduceAdd, Nat.reduceLeDiff, Nat.reduceLT, t_tag_si, t_tag_sr, t_tag_sI, x_r_si, x_i_sr, t_r_sI, x_ia_si, x_ia_sI, x_ia_sr, x_ra_si, x_ra_sI, x_ra_sr]
theorem S79 {w : x_W} {Q : Option Value → x_W → Prop} {v : Int32} : X_R L xs d 79 0 [.int v] [] w Q = Q (some (.int ((-1) - v))) w := by
  simp only [X79_0, X79_1, X79_2, X79_3, Nat.zero_le, and_true, true_and, x_nb0, x_nb1, x_nbp, x_isL_int, x_isL_ref, x_isL_junk, x_isR_ref, x_cat_nil, x_cat_int, x_cat_ref, x_cat_long, Option.toList_some, Option.toList_none, List.cons_append, List.nil_append, Nat.reduceAdd, Nat.reduceLeDiff, Nat.reduceLT, t_tag_si, t_tag_sr, t_tag_sI, x_r_si, x_i_sr, t_r_sI, x_ia_si, x_ia_sI, x_ia_sr, x_ra_si, x_ra_sI, x_ra_sr]
end S9993
/-! what a level of the reader brings -/
def WT (b : Nat → Nat) (n s wt : Nat) : Prop := wt = 1 ∨ (wt = 2 ∧ tK b n s ≠ 267)
def W2 (_b : Nat → Nat) (_n _s wt : Nat) : Prop := wt = 2
def endT (lv t : Nat) : Prop := sgO t = 0 ∨ rk (sgO t) < lv ∨ (lv ≤ 4 ∧ rk (sgO t) = 4)
def MOk (b : Nat → Nat) (n lv hb o : Nat) (wtp : (Nat → Nat) → Nat → Nat → Nat → Prop) (s s1 : Nat) (ext : List Nat) : Prop := ∀ H om wt, cnt H = o → hdR H < hb → wtp b n s wt → ∃ pend om', (∀ c, c ∈ pend → lv ≤ rk c) ∧ om' ++ cds pend = om ++ ext ∧ Lds b n (H, om, s, wt) (pend ++ H, om', s1, 0) ∧ (lv ≤ 4 → rk (sgO (tK b n s1)) = 4 → Rch b n (pend ++ H, om', s1, 0) (.inr (.inl s1)))
def MNo (b : Nat → Nat) (n hb o : Nat) (wtp : (Nat → Nat) → Nat → Nat → Nat → Prop) (s f : Nat) : Prop := ∀ H om wt, cnt H = o → hdR H < hb → wtp b n s wt → Rch b n (H, om, s, wt) (.inr (.inl f))
def LvR (w : x_W) (b : Nat → Nat) (n lv hb o : Nat) (wtp : (Nat → Nat) → Nat → Nat → Nat → Prop) (s : Nat) (out : List Nat) : Prop := (∃ f, PF w f ∧ MNo b n hb o wtp s f) ∨ ∃ s1 ext, POK w b n s1 o (out ++ ext) ∧ s < s1 ∧ ext.length ≤ s1 - s ∧ (∀ h, wfL ext h (h + 1)) ∧ endT lv (tK b n s1) ∧ MOk b n lv hb o wtp s s1 ext
def Lv (L : Nat) (xs : Nat → Int32) (b : Nat → Nat) (n mid : Nat) (jk : List Value) (K lv hb : Nat) (wtp : (Nat → Nat) → Nat → Nat → Nat → Prop) (s : Nat) : Prop := ∀ (d o : Nat) (out : List Nat) (w : x_W), 10 + 6 * (5 - o) + K ≤ d → ShT w → TPx w b n → POK w b n s o out → ∃ w2, Ch pP w w2 ∧ (∀ Q, X_R L xs d mid 0 (.ref 1 :: jk) [] w Q = Q none w2) ∧ LvR w2 b n lv hb o wtp s out
def OneR (w : x_W) (b : Nat → Nat) (n o s : Nat) (out : List Nat) : Prop := (∃ f, PF w f ∧ ∀ H om wt, cnt H = o → WT b n s wt → Rch b n (H, om, s, wt) (.inr (.inl f))) ∨ ∃ s1 ext, POK w b n s1 o (out ++ ext) ∧ s < s1 ∧ ext.length ≤ s1 - s ∧ (∀ h, wfL ext h (h + 1)) ∧ ∀ H om wt, cnt H = o → WT b n s wt → Lds b n (H, om, s, wt) ((unw 7 H (om ++ ext)).1, (unw 7 H (om ++ ext)).2, s1, 0)
def One (L : Nat) (xs : Nat → Int32) (b : Nat → Nat) (n s : Nat) : Prop := ∀ (d o : Nat) (out : List Nat) (w : x_W), 10 + 6 * (5 - o) ≤ d → ShT w → TPx w b n → POK w b n s o out → ∃ w2, Ch pP w w2 ∧ (∀ Q, X_R L xs d 131 0 [.ref 1] [] w Q = Q none w2) ∧ OneR w2 b n o s out
