/-! ===== cords as masks; count() ===== -/
def obN (k d : Nat) : Int32 := match nb k d with
  | some o => if besN k o = true then nI (2 ^ o) else nI 0
  | none => nI 0
/-- a knot's cords: four bits say which -/
def mkN (k b : Nat) : Int32 := (if b % 2 = 1 then obN k 0 else nI 0) ||| (if b / 2 % 2 = 1 then obN k 1 else nI 0) ||| (if b / 4 % 2 = 1 then obN k 2 else nI 0) ||| (if b / 8 % 2 = 1 then obN k 3 else nI 0)
def CdM (C : Nat → Int32) : Prop := ∀ k, k < 20 → ∃ b, b < 16 ∧ C k = mkN k b
theorem mk_bits : ∀ k, k < 20 → ∀ b, b < 16 → bcF (mkN k b) = bitsF (mkN k b) 20 := by decide +kernel
theorem mk_nb : ∀ k, k < 20 → ∀ b, b < 16 → ∀ o, o < 20 → besN k o = false → decide (bv (mkN k b) (nI o) = nI 1) = false := by decide +kernel
def dbN (k o : Nat) : Nat := if o + 5 = k then 0 else if o + 1 = k then 1 else if k + 1 = o then 2 else 3
def mkP (k b o : Nat) : Bool := !besN k o || (decide ((b ||| 2 ^ dbN k o) < 16) && decide ((b ||| 2 ^ dbN k o) - 2 ^ dbN k o < 16) && decide (pc1 (nI 1) (mkN k b) (nI o) = mkN k (b ||| 2 ^ dbN k o)) && decide (pc1 (nI 0) (mkN k b) (nI o) = mkN k ((b ||| 2 ^ dbN k o) - 2 ^ dbN k o)))
theorem mk_putB : ∀ k, k < 20 → ∀ b, b < 16 → ∀ o, o < 20 → mkP k b o = true := by decide +kernel
theorem mk_put {k b o : Nat} (hk : k < 20) (hb : b < 16) (ho : o < 20) (h : besN k o = true) : (b ||| 2 ^ dbN k o) < 16 ∧ (b ||| 2 ^ dbN k o) - 2 ^ dbN k o < 16 ∧ pc1 (nI 1) (mkN k b) (nI o) = mkN k (b ||| 2 ^ dbN k o) ∧ pc1 (nI 0) (mkN k b) (nI o) = mkN k ((b ||| 2 ^ dbN k o) - 2 ^ dbN k o) := by
  have e := mk_putB k hk b hb o ho
  unfold mkP at e
  rw [h] at e
  simp only [Bool.not_true, Bool.false_or, Bool.and_eq_true, decide_eq_true_eq] at e
  exact ⟨e.1.1.1, e.1.1.2, e.1.2, e.2⟩
theorem CdM_nb {C : Nat → Int32} (h : CdM C) : Nb C := by
  intro k o hk ho hb
  obtain ⟨b, hb16, e⟩ := h k hk
  unfold cbN
  rw [e]
  exact mk_nb k hk b hb16 o ho hb
theorem CdM_pc {C : Nat → Int32} (h : CdM C) {k o : Nat} {v : Int32} (hk : k < 20) (ho : o < 20) (hb : besN k o = true) (hv : v = nI 0 ∨ v = nI 1) : ∃ b, b < 16 ∧ pc1 v (C k) (nI o) = mkN k b := by
  obtain ⟨b, hb16, e⟩ := h k hk
  obtain ⟨h1, h2, h3, h4⟩ := mk_put hk hb16 ho hb
  rcases hv with rfl | rfl
  · exact ⟨_, h2, by rw [e]; exact h4⟩
  · exact ⟨_, h1, by rw [e]; exact h3⟩
theorem bes_sym : ∀ k, k < 20 → ∀ o, o < 20 → besN k o = true → besN o k = true ∧ k ≠ o := by decide +kernel
theorem CdM_put {C : Nat → Int32} (h : CdM C) {i j : Nat} {v : Int32} (hi : i < 20) (hj : j < 20) (hb : besN i j = true) (hv : v = nI 0 ∨ v = nI 1) : CdM (putC C (nI i) (nI j) v) := by
  obtain ⟨hb', hne⟩ := bes_sym i hi j hj hb
  unfold putC
  rw [nI_cl (show i < 2 ^ 31 by omega), nI_cl (show j < 2 ^ 31 by omega)]
  intro k hk
  unfold upd
  by_cases h1 : k = j
  · rw [if_pos h1, if_neg (fun z => hne z.symm)]
    subst h1
    exact CdM_pc h hk hi hb' hv
  · rw [if_neg h1]
    by_cases h2 : k = i
    · rw [if_pos h2]
      subst h2
      exact CdM_pc h hk hj hb hv
    · rw [if_neg h2]; exact h k hk
theorem sumI_cg {f g : Nat → Int32} {n : Nat} (h : ∀ k, k < n → f k = g k) : sumI f n = sumI g n := by
  induction n with
  | zero => rfl
  | succ n ih =>
    unfold sumI
    rw [ih (fun k hk => h k (by omega)), h n (Nat.lt_succ_self _)]
theorem cords_eq {C C' : Nat → Int32} (h : CdM C) (he : ∀ k, k < 20 → C k = C' k) : sumI (fun k => bcF (C k)) 20 = sumI (fun k => bitsF (C' k) 20) 20 := by
  apply sumI_cg
  intro k hk
  show bcF (C k) = bitsF (C' k) 20
  rw [← he k hk]
  obtain ⟨b, hb, e⟩ := h k hk
  rw [e]
  exact mk_bits k hk b hb
section S64
variable {L : Nat} {xs : Nat → Int32} {d : Nat} {w : x_W} {Q : Option Value → x_W → Prop}
theorem S7 (hs : Sh w) {v : Nat} (hv : v < 6) : X_R L xs (d + 2) 7 0 [.ref 0, .int (nI v)] [] w Q = Q (some (.int ([x_i w 22 4, sumI (fun k => bcF (x_i w 24 k)) 20 / nI 2, x_i w 23 1, x_i w 0 2, x_i w 0 3, x_i w 1 1].getD v (nI 0)))) w := by
  match v, hv with
  | 0, _ => simp only [X7_0, X7_1_0, X7_1_1, X7_1_2, X7_1_3, X7_1_4, X7_1_5, X7_1_d, X7_40, X7_41, X7_44, X7_47, X7_48, X7_49, X7_52, X7_55, X7_56, X7_57, X7_60, X7_63, X7_64, X7_65, X7_68, X7_69, X7_70, X7_73, X7_74, X7_75, X7_78, X7_81, X7_82, X7_84, Nat.zero_le, and_true, true_and, x_nb0, x_nb1, x_nbp, x_isL_int, x_isL_ref, x_isL_junk, x_isR_ref, x_cat_nil, x_cat_int, x_cat_ref, x_cat_long, Option.toList_some, Option.toList_none, List.cons_append, List.nil_append, Nat.reduceAdd, Nat.reduceLeDiff, Nat.reduceLT, t_tag_si, t_tag_sr, t_tag_sI, x_r_si, x_i_sr, t_r_sI, x_ia_si, x_ia_sI, x_ia_sr, x_ra_si, x_ra_sI, x_ra_sr, g_t0 hs, g_r0_0 hs, g_r0_1 hs, g_r0_4 hs, g_r0_5 hs, g_r0_6 hs, g_r0_7 hs, g_t22 hs, g_t23 hs, S90 hs, List.getD_cons_zero]
  | 1, _ => simp only [X7_0, X7_1_0, X7_1_1, X7_1_2, X7_1_3, X7_1_4, X7_1_5, X7_1_d, X7_40, X7_41, X7_44, X7_47, X7_48, X7_49, X7_52, X7_55, X7_56, X7_57, X7_60, X7_63, X7_64, X7_65, X7_68, X7_69, X7_70, X7_73, X7_74, X7_75, X7_78, X7_81, X7_82, X7_84, Nat.zero_le, and_true, true_and, x_nb0, x_nb1, x_nbp, x_isL_int, x_isL_ref, x_isL_junk, x_isR_ref, x_cat_nil, x_cat_int, x_cat_ref, x_cat_long, Option.toList_some, Option.toList_none, List.cons_append, List.nil_append, Nat.reduceAdd, Nat.reduceLeDiff, Nat.reduceLT, t_tag_si, t_tag_sr, t_tag_sI, x_r_si, x_i_sr, t_r_sI, x_ia_si, x_ia_sI, x_ia_sr, x_ra_si, x_ra_sI, x_ra_sr, g_t0 hs, g_r0_0 hs, g_r0_1 hs, g_r0_4 hs, g_r0_5 hs, g_r0_6 hs, g_r0_7 hs, g_t22 hs, g_t23 hs, S90 hs]; rfl
  | 2, _ => simp only [X7_0, X7_1_0, X7_1_1, X7_1_2, X7_1_3, X7_1_4, X7_1_5, X7_1_d, X7_40, X7_41, X7_44, X7_47, X7_48, X7_49, X7_52, X7_55, X7_56, X7_57, X7_60, X7_63, X7_64, X7_65, X7_68, X7_69, X7_70, X7_73, X7_74, X7_75, X7_78, X7_81, X7_82, X7_84, Nat.zero_le, and_true, true_and, x_nb0, x_nb1, x_nbp, x_isL_int, x_isL_ref, x_isL_junk, x_isR_ref, x_cat_nil, x_cat_int, x_cat_ref, x_cat_long, Option.toList_some, Option.toList_none, List.cons_append, List.nil_append, Nat.reduceAdd, Nat.reduceLeDiff, Nat.reduceLT, t_tag_si, t_tag_sr, t_tag_sI, x_r_si, x_i_sr, t_r_sI, x_ia_si, x_ia_sI, x_ia_sr, x_ra_si, x_ra_sI, x_ra_sr, g_t0 hs, g_r0_0 hs, g_r0_1 hs, g_r0_4 hs, g_r0_5 hs, g_r0_6 hs, g_r0_7 hs, g_t22 hs, g_t23 hs, S90 hs]; rfl
  | 3, _ => simp only [X7_0, X7_1_0, X7_1_1, X7_1_2, X7_1_3, X7_1_4, X7_1_5, X7_1_d, X7_40, X7_41, X7_44, X7_47, X7_48, X7_49, X7_52, X7_55, X7_56, X7_57, X7_60, X7_63, X7_64, X7_65, X7_68, X7_69, X7_70, X7_73, X7_74, X7_75, X7_78, X7_81, X7_82, X7_84, Nat.zero_le, and_true, true_and, x_nb0, x_nb1, x_nbp, x_isL_int, x_isL_ref, x_isL_junk, x_isR_ref, x_cat_nil, x_cat_int, x_cat_ref, x_cat_long, Option.toList_some, Option.toList_none, List.cons_append, List.nil_append, Nat.reduceAdd, Nat.reduceLeDiff, Nat.reduceLT, t_tag_si, t_tag_sr, t_tag_sI, x_r_si, x_i_sr, t_r_sI, x_ia_si, x_ia_sI, x_ia_sr, x_ra_si, x_ra_sI, x_ra_sr, g_t0 hs, g_r0_0 hs, g_r0_1 hs, g_r0_4 hs, g_r0_5 hs, g_r0_6 hs, g_r0_7 hs, g_t22 hs, g_t23 hs, S90 hs]; rfl
  | 4, _ => simp only [X7_0, X7_1_0, X7_1_1, X7_1_2, X7_1_3, X7_1_4, X7_1_5, X7_1_d, X7_40, X7_41, X7_44, X7_47, X7_48, X7_49, X7_52, X7_55, X7_56, X7_57, X7_60, X7_63, X7_64, X7_65, X7_68, X7_69, X7_70, X7_73, X7_74, X7_75, X7_78, X7_81, X7_82, X7_84, Nat.zero_le, and_true, true_and, x_nb0, x_nb1, x_nbp, x_isL_int, x_isL_ref, x_isL_junk, x_isR_ref, x_cat_nil, x_cat_int, x_cat_ref, x_cat_long, Option.toList_some, Option.toList_none, List.cons_append, List.nil_append, Nat.reduceAdd, Nat.reduceLeDiff, Nat.reduceLT, t_tag_si, t_tag_sr, t_tag_sI, x_r_si, x_i_sr, t_r_sI, x_ia_si, x_ia_sI, x_ia_sr, x_ra_si, x_ra_sI, x_ra_sr, g_t0 hs, g_r0_0 hs, g_r0_1 hs, g_r0_4 hs, g_r0_5 hs, g_r0_6 hs, g_r0_7 hs, g_t22 hs, g_t23 hs, S90 hs]; rfl
  | 5, _ => simp only [X7_0, X7_1_0, X7_1_1, X7_1_2, X7_1_3, X7_1_4, X7_1_5, X7_1_d, X7_40, X7_41, X7_44, X7_47, X7_48, X7_49, X7_52, X7_55, X7_56, X7_57, X7_60, X7_63, X7_64, X7_65, X7_68, X7_69, X7_70, X7_73, X7_74, X7_75, X7_78, X7_81, X7_82, X7_84, Nat.zero_le, and_true, true_and, x_nb0, x_nb1, x_nbp, x_isL_int, x_isL_ref, x_isL_junk, x_isR_ref, x_cat_nil, x_cat_int, x_cat_ref, x_cat_long, Option.toList_some, Option.toList_none, List.cons_append, List.nil_append, Nat.reduceAdd, Nat.reduceLeDiff, Nat.reduceLT, t_tag_si, t_tag_sr, t_tag_sI, x_r_si, x_i_sr, t_r_sI, x_ia_si, x_ia_sI, x_ia_sr, x_ra_si, x_ra_sI, x_ra_sr, g_t0 hs, g_r0_0 hs, g_r0_1 hs, g_r0_4 hs, g_r0_5 hs, g_r0_6 hs, g_r0_7 hs, g_t1 hs, S90 hs]; rfl
  | v + 6, h => exact absurd h (by omega)
theorem S7n {v : Int32} (h : v.toInt < 0 ∨ 5 < v.toInt) : X_R L xs (d + 2) 7 0 [.ref 0, .int v] [] w Q = Q (some (.int (-2))) w := by
  simp only [X7_0, X7_1_0, X7_1_1, X7_1_2, X7_1_3, X7_1_4, X7_1_5, X7_1_d, X7_82, X7_84, Nat.zero_le, and_true, true_and, x_nb0, x_nb1, x_nbp, x_isL_int, x_isL_ref, x_isL_junk, x_isR_ref, x_cat_nil, x_cat_int, x_cat_ref, x_cat_long, Option.toList_some, Option.toList_none, List.cons_append, List.nil_append, Nat.reduceAdd, Nat.reduceLeDiff, Nat.reduceLT, t_tag_si, t_tag_sr, t_tag_sI, x_r_si, x_i_sr, t_r_sI, x_ia_si, x_ia_sI, x_ia_sr, x_ra_si, x_ra_sI, x_ra_sr, h]
theorem S156 (hs : Sh w) {v : Nat} (hv : v < 6) : X_R L xs (d + 2) 156 0 [.ref 41, .int (nI v)] [] w Q = Q (some (.int ([x_i w 41 2, sumI (fun k => bitsF (x_i w 42 k) 20) 20 / nI 2, x_i w 41 1, x_i w 41 11, x_i w 41 12, x_i w 41 8].getD v (nI 0)))) w := by
  match v, hv with
  | 0, _ => simp only [X156_0, X156_1_0, X156_1_1, X156_1_2, X156_1_3, X156_1_4, X156_1_5, X156_1_d, X156_40, X156_41, X156_44, X156_45, X156_46, X156_49, X156_50, X156_51, X156_54, X156_55, X156_56, X156_59, X156_60, X156_61, X156_64, X156_65, X156_66, X156_69, X156_70, X156_72, Nat.zero_le, and_true, true_and, x_nb0, x_nb1, x_nbp, x_isL_int, x_isL_ref, x_isL_junk, x_isR_ref, x_cat_nil, x_cat_int, x_cat_ref, x_cat_long, Option.toList_some, Option.toList_none, List.cons_append, List.nil_append, Nat.reduceAdd, Nat.reduceLeDiff, Nat.reduceLT, t_tag_si, t_tag_sr, t_tag_sI, x_r_si, x_i_sr, t_r_sI, x_ia_si, x_ia_sI, x_ia_sr, x_ra_si, x_ra_sI, x_ra_sr, g_t41 hs, S157 hs]; rfl
  | 1, _ => simp only [X156_0, X156_1_0, X156_1_1, X156_1_2, X156_1_3, X156_1_4, X156_1_5, X156_1_d, X156_40, X156_41, X156_44, X156_45, X156_46, X156_49, X156_50, X156_51, X156_54, X156_55, X156_56, X156_59, X156_60, X156_61, X156_64, X156_65, X156_66, X156_69, X156_70, X156_72, Nat.zero_le, and_true, true_and, x_nb0, x_nb1, x_nbp, x_isL_int, x_isL_ref, x_isL_junk, x_isR_ref, x_cat_nil, x_cat_int, x_cat_ref, x_cat_long, Option.toList_some, Option.toList_none, List.cons_append, List.nil_append, Nat.reduceAdd, Nat.reduceLeDiff, Nat.reduceLT, t_tag_si, t_tag_sr, t_tag_sI, x_r_si, x_i_sr, t_r_sI, x_ia_si, x_ia_sI, x_ia_sr, x_ra_si, x_ra_sI, x_ra_sr, g_t41 hs, S157 hs]; rfl
  | 2, _ => simp only [X156_0, X156_1_0, X156_1_1, X156_1_2, X156_1_3, X156_1_4, X156_1_5, X156_1_d, X156_40, X156_41, X156_44, X156_45, X156_46, X156_49, X156_50, X156_51, X156_54, X156_55, X156_56, X156_59, X156_60, X156_61, X156_64, X156_65, X156_66, X156_69, X156_70, X156_72, Nat.zero_le, and_true, true_and, x_nb0, x_nb1, x_nbp, x_isL_int, x_isL_ref, x_isL_junk, x_isR_ref, x_cat_nil, x_cat_int, x_cat_ref, x_cat_long, Option.toList_some, Option.toList_none, List.cons_append, List.nil_append, Nat.reduceAdd, Nat.reduceLeDiff, Nat.reduceLT, t_tag_si, t_tag_sr, t_tag_sI, x_r_si, x_i_sr, t_r_sI, x_ia_si, x_ia_sI, x_ia_sr, x_ra_si, x_ra_sI, x_ra_sr, g_t41 hs, S157 hs]; rfl
  | 3, _ => simp only [X156_0, X156_1_0, X156_1_1, X156_1_2, X156_1_3, X156_1_4, X156_1_5, X156_1_d, X156_40, X156_41, X156_44, X156_45, X156_46, X156_49, X156_50, X156_51, X156_54, X156_55, X156_56, X156_59, X156_60, X156_61, X156_64, X156_65, X156_66, X156_69, X156_70, X156_72, Nat.zero_le, and_true, true_and, x_nb0, x_nb1, x_nbp, x_isL_int, x_isL_ref, x_isL_junk, x_isR_ref, x_cat_nil, x_cat_int, x_cat_ref, x_cat_long, Option.toList_some, Option.toList_none, List.cons_append, List.nil_append, Nat.reduceAdd, Nat.reduceLeDiff, Nat.reduceLT, t_tag_si, t_tag_sr, t_tag_sI, x_r_si, x_i_sr, t_r_sI, x_ia_si, x_ia_sI, x_ia_sr, x_ra_si, x_ra_sI, x_ra_sr, g_t41 hs, S157 hs]; rfl
  | 4, _ => simp only [X156_0, X156_1_0, X156_1_1, X156_1_2, X156_1_3, X156_1_4, X156_1_5, X156_1_d, X156_40, X156_41, X156_44, X156_45, X156_46, X156_49, X156_50, X156_51, X156_54, X156_55, X156_56, X156_59, X156_60, X156_61, X156_64, X156_65, X156_66, X156_69, X156_70, X156_72, Nat.zero_le, and_true, true_and, x_nb0, x_nb1, x_nbp, x_isL_int, x_isL_ref, x_isL_junk, x_isR_ref, x_cat_nil, x_cat_int, x_cat_ref, x_cat_long, Option.toList_some, Option.toList_none, List.cons_append, List.nil_append, Nat.reduceAdd, Nat.reduceLeDiff, Nat.reduceLT, t_tag_si, t_tag_sr, t_tag_sI, x_r_si, x_i_sr, t_r_sI, x_ia_si, x_ia_sI, x_ia_sr, x_ra_si, x_ra_sI, x_ra_sr, g_t41 hs, S157 hs]; rfl
  | 5, _ => simp only [X156_0, X156_1_0, X156_1_1, X156_1_2, X156_1_3, X156_1_4, X156_1_5, X156_1_d, X156_40, X156_41, X156_44, X156_45, X156_46, X156_49, X156_50, X156_51, X156_54, X156_55, X156_56, X156_59, X156_60, X156_61, X156_64, X156_65, X156_66, X156_69, X156_70, X156_72, Nat.zero_le, and_true, true_and, x_nb0, x_nb1, x_nbp, x_isL_int, x_isL_ref, x_isL_junk, x_isR_ref, x_cat_nil, x_cat_int, x_cat_ref, x_cat_long, Option.toList_some, Option.toList_none, List.cons_append, List.nil_append, Nat.reduceAdd, Nat.reduceLeDiff, Nat.reduceLT, t_tag_si, t_tag_sr, t_tag_sI, x_r_si, x_i_sr, t_r_sI, x_ia_si, x_ia_sI, x_ia_sr, x_ra_si, x_ra_sI, x_ra_sr, g_t41 hs, S157 hs]; rfl
  | v + 6, h => exact absurd h (by omega)
theorem S156n {v : Int32} (h : v.toInt < 0 ∨ 5 < v.toInt) : X_R L xs (d + 2) 156 0 [.ref 41, .int v] [] w Q = Q (some (.int (-2))) w := by
  simp only [X156_0, X156_1_0, X156_1_1, X156_1_2, X156_1_3, X156_1_4, X156_1_5, X156_1_d, X156_70, X156_72, Nat.zero_le, and_true, true_and, x_nb0, x_nb1, x_nbp, x_isL_int, x_isL_ref, x_isL_junk, x_isR_ref, x_cat_nil, x_cat_int, x_cat_ref, x_cat_long, Option.toList_some, Option.toList_none, List.cons_append, List.nil_append, Nat.reduceAdd, Nat.reduceLeDiff, Nat.reduceLT, t_tag_si, t_tag_sr, t_tag_sI, x_r_si, x_i_sr, t_r_sI, x_ia_si, x_ia_sI, x_ia_sr, x_ra_si, x_ra_sI, x_ra_sr, h]
end S64
