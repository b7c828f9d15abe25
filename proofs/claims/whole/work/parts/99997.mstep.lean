/-! ===== the reference's reader: its loop ===== -/
def tokB (t : Nat) : Bool := (decide (t < 256) && isSg t) || (decide (256 ≤ t) && decide (t < 268)) || t == 300 || t == 301 || t == 302
def sgV (v : Int32) : Int32 := if v = nI 4 then nI 11 else if v = nI 5 then nI 12 else if v = nI 60 then nI 14 else if v = nI 61 then nI 15 else if v = nI 43 then nI 16 else if v = nI 45 then nI 17 else if v = nI 42 then nI 18 else -1
theorem sgV_tok : ∀ t, t < 303 → tokB t = true → sgV (mT t) = if sgO t = 0 then -1 else nI (sgO t) := by decide +kernel
theorem tok_1 : ∀ t, t < 303 → tokB t = true → (mT t = nI 1 ↔ t = 300) := by decide +kernel
theorem tok_2 : ∀ t, t < 303 → tokB t = true → (mT t = nI 2 ↔ (256 ≤ t ∧ t < 262)) := by decide +kernel
theorem tok_6 : ∀ t, t < 303 → tokB t = true → (mT t = nI 6 ↔ t = 267) := by decide +kernel
theorem tok_45 : ∀ t, t < 303 → tokB t = true → (mT t = nI 45 ↔ t = 45) := by decide +kernel
theorem tok_40 : ∀ t, t < 303 → tokB t = true → (mT t = nI 40 ↔ t = 40) := by decide +kernel
theorem tok_59 : ∀ t, t < 303 → tokB t = true → (mT t = nI 59 ↔ t = 59) := by decide +kernel
theorem tok_41 : ∀ t, t < 303 → tokB t = true → (mT t = nI 41 ↔ t = 41) := by decide +kernel
theorem tok_3 : ∀ t, t < 303 → tokB t = true → (mT t = nI 3 ↔ (262 ≤ t ∧ t < 265)) := by decide +kernel
theorem tok_0 : ∀ t, t < 303 → tokB t = true → (mT t = nI 0 ↔ t = 301) := by decide +kernel
theorem sgO_op : ∀ t, t < 303 → sgO t ≠ 0 → isop (sgO t) := by
  intro t ht
  unfold isop
  revert t
  decide +kernel
theorem tK_tok {w : x_W} {b : Nat → Nat} {n s : Nat} (hT : TPm w b n) : tokB (tK b n s) = true ∧ tK b n s < 303 := by
  unfold tK
  by_cases h1 : n ≤ s
  · rw [if_pos h1]; decide
  rw [if_neg h1]
  have hb := (hT.2.2.1 s (by omega)).2
  by_cases h2 : isLt (b s) = true
  · rw [if_pos h2]
    by_cases h3 : wdF b s (tE b n s) 12 0 < 12
    · rw [if_pos h3]
      exact ⟨(by decide : ∀ k, k < 12 → tokB (256 + k) = true) _ h3, by omega⟩
    · rw [if_neg h3]; decide
  · rw [if_neg h2]
    by_cases h3 : isDg (b s) = true
    · rw [if_pos h3]
      by_cases h4 : tE b n s - s ≤ 4
      · rw [if_pos h4]; decide
      · rw [if_neg h4]; decide
    · rw [if_neg h3]
      by_cases h4 : isSg (b s) = true
      · rw [if_pos h4]
        refine ⟨?_, by omega⟩
        unfold tokB
        rw [h4, decide_eq_true (show b s < 256 by omega)]
        rfl
      · rw [if_neg h4]; decide
theorem unw_hd : ∀ (r : Nat) (H out : List Nat) (c : Nat) (H2 : List Nat), (unw r H out).1 = c :: H2 → rk c < r := by
  intro r H
  induction H with
  | nil => intro out c H2 h; exact absurd (show ([] : List Nat) = c :: H2 from h) (by intro z; cases z)
  | cons x H ih =>
    intro out c H2 h
    unfold unw at h
    by_cases hx : r ≤ rk x
    · rw [if_pos hx] at h
      exact ih _ c H2 h
    · rw [if_neg hx] at h
      have h2 : x :: H = c :: H2 := h
      injection h2 with h3 h4
      rw [← h3]
      omega
theorem mrun_l {b : Nat → Nat} {n k : Nat} {A B : MSt} {r : Sum Nat (List Nat × Nat)} (hm : mst b n A = .inl B) (h : mrun b n (k + 1) A = .inr r) : mrun b n k B = .inr r := by
  unfold mrun at h
  rw [hm] at h
  exact h
theorem mrun_r {b : Nat → Nat} {n k : Nat} {A : MSt} {r r' : Sum Nat (List Nat × Nat)} (hm : mst b n A = .inr r') (h : mrun b n (k + 1) A = .inr r) : r' = r := by
  unfold mrun at h
  rw [hm] at h
  exact Sum.inr.inj h
def rsM (w2 : x_W) (b : Nat → Nat) (n nt : Nat) : Sum Nat (List Nat × Nat) → Prop
  | .inl f => x_i w2 41 24 = nI f ∧ x_i w2 41 11 = nI nt
  | .inr (o2, s') => AtM w2 b n s' ∧ MH w2 nt [] o2 ∧ s' < n ∧ o2.length ≤ tE b n s'
def rsA : Sum Nat (List Nat × Nat) → Int32
  | .inl _ => nI 0
  | .inr _ => nI 1
section S99997
variable {L : Nat} {xs : Nat → Int32} {b : Nat → Nat} {n : Nat} {d : Nat} {w : x_W} {Q : Option Value → x_W → Prop} {nt : Nat} {H out : List Nat}
theorem S149 (hs : Sh w) {v : Int32} (h : x_i w 41 25 = v) : X_R L xs d 149 0 [.ref 41] [] w Q = Q (some (.int (sgV v))) w := by
  unfold sgV
  by_cases h4 : v = nI 4
  · rw [if_pos h4]
    simp only [X149_0, X149_1, X149_4, X149_5, X149_8, X149_10, X149_13, X149_14, X149_17, X149_18, X149_21, X149_23, X149_26, X149_27, X149_30, X149_32, X149_35, X149_37, X149_40, X149_41, X149_44, X149_46, X149_49, X149_51, X149_54, X149_55, X149_58, X149_60, X149_63, X149_65, X149_68, X149_69, X149_72, X149_74, X149_77, X149_79, X149_82, X149_83, X149_86, X149_88, X149_91, X149_93, X149_96, X149_97, Nat.zero_le, and_true, true_and, x_nb0, x_nb1, x_nbp, x_isL_int, x_isL_ref, x_isL_junk, x_isR_ref, x_cat_nil, x_cat_int, x_cat_ref, x_cat_long, Option.toList_some, Option.toList_none, List.cons_append, List.nil_append, Nat.reduceAdd, Nat.reduceLeDiff, Nat.reduceLT, t_tag_si, t_tag_sr, t_tag_sI, x_r_si, x_i_sr, t_r_sI, x_ia_si, x_ia_sI, x_ia_sr, x_ra_si, x_ra_sI, x_ra_sr, g_t41 hs, h, eq_true h4, ne_eq, not_true_eq_false, not_false_eq_true, if_true, if_false]
  rw [if_neg h4]
  by_cases h5 : v = nI 5
  · rw [if_pos h5]
    simp only [X149_0, X149_1, X149_4, X149_5, X149_8, X149_10, X149_13, X149_14, X149_17, X149_18, X149_21, X149_23, X149_26, X149_27, X149_30, X149_32, X149_35, X149_37, X149_40, X149_41, X149_44, X149_46, X149_49, X149_51, X149_54, X149_55, X149_58, X149_60, X149_63, X149_65, X149_68, X149_69, X149_72, X149_74, X149_77, X149_79, X149_82, X149_83, X149_86, X149_88, X149_91, X149_93, X149_96, X149_97, Nat.zero_le, and_true, true_and, x_nb0, x_nb1, x_nbp, x_isL_int, x_isL_ref, x_isL_junk, x_isR_ref, x_cat_nil, x_cat_int, x_cat_ref, x_cat_long, Option.toList_some, Option.toList_none, List.cons_append, List.nil_append, Nat.reduceAdd, Nat.reduceLeDiff, Nat.reduceLT, t_tag_si, t_tag_sr, t_tag_sI, x_r_si, x_i_sr, t_r_sI, x_ia_si, x_ia_sI, x_ia_sr, x_ra_si, x_ra_sI, x_ra_sr, g_t41 hs, h, eq_false h4, eq_true h5, ne_eq, not_true_eq_false, not_false_eq_true, if_true, if_false]
  rw [if_neg h5]
  by_cases h60 : v = nI 60
  · rw [if_pos h60]
    simp only [X149_0, X149_1, X149_4, X149_5, X149_8, X149_10, X149_13, X149_14, X149_17, X149_18, X149_21, X149_23, X149_26, X149_27, X149_30, X149_32, X149_35, X149_37, X149_40, X149_41, X149_44, X149_46, X149_49, X149_51, X149_54, X149_55, X149_58, X149_60, X149_63, X149_65, X149_68, X149_69, X149_72, X149_74, X149_77, X149_79, X149_82, X149_83, X149_86, X149_88, X149_91, X149_93, X149_96, X149_97, Nat.zero_le, and_true, true_and, x_nb0, x_nb1, x_nbp, x_isL_int, x_isL_ref, x_isL_junk, x_isR_ref, x_cat_nil, x_cat_int, x_cat_ref, x_cat_long, Option.toList_some, Option.toList_none, List.cons_append, List.nil_append, Nat.reduceAdd, Nat.reduceLeDiff, Nat.reduceLT, t_tag_si, t_tag_sr, t_tag_sI, x_r_si, x_i_sr, t_r_sI, x_ia_si, x_ia_sI, x_ia_sr, x_ra_si, x_ra_sI, x_ra_sr, g_t41 hs, h, eq_false h4, eq_false h5, eq_true h60, ne_eq, not_true_eq_false, not_false_eq_true, if_true, if_false]
  rw [if_neg h60]
  by_cases h61 : v = nI 61
  · rw [if_pos h61]
    simp only [X149_0, X149_1, X149_4, X149_5, X149_8, X149_10, X149_13, X149_14, X149_17, X149_18, X149_21, X149_23, X149_26, X149_27, X149_30, X149_32, X149_35, X149_37, X149_40, X149_41, X149_44, X149_46, X149_49, X149_51, X149_54, X149_55, X149_58, X149_60, X149_63, X149_65, X149_68, X149_69, X149_72, X149_74, X149_77, X149_79, X149_82, X149_83, X149_86, X149_88, X149_91, X149_93, X149_96, X149_97, Nat.zero_le, and_true, true_and, x_nb0, x_nb1, x_nbp, x_isL_int, x_isL_ref, x_isL_junk, x_isR_ref, x_cat_nil, x_cat_int, x_cat_ref, x_cat_long, Option.toList_some, Option.toList_none, List.cons_append, List.nil_append, Nat.reduceAdd, Nat.reduceLeDiff, Nat.reduceLT, t_tag_si, t_tag_sr, t_tag_sI, x_r_si, x_i_sr, t_r_sI, x_ia_si, x_ia_sI, x_ia_sr, x_ra_si, x_ra_sI, x_ra_sr, g_t41 hs, h, eq_false h4, eq_false h5, eq_false h60, eq_true h61, ne_eq, not_true_eq_false, not_false_eq_true, if_true, if_false]
  rw [if_neg h61]
  by_cases h43 : v = nI 43
  · rw [if_pos h43]
    simp only [X149_0, X149_1, X149_4, X149_5, X149_8, X149_10, X149_13, X149_14, X149_17, X149_18, X149_21, X149_23, X149_26, X149_27, X149_30, X149_32, X149_35, X149_37, X149_40, X149_41, X149_44, X149_46, X149_49, X149_51, X149_54, X149_55, X149_58, X149_60, X149_63, X149_65, X149_68, X149_69, X149_72, X149_74, X149_77, X149_79, X149_82, X149_83, X149_86, X149_88, X149_91, X149_93, X149_96, X149_97, Nat.zero_le, and_true, true_and, x_nb0, x_nb1, x_nbp, x_isL_int, x_isL_ref, x_isL_junk, x_isR_ref, x_cat_nil, x_cat_int, x_cat_ref, x_cat_long, Option.toList_some, Option.toList_none, List.cons_append, List.nil_append, Nat.reduceAdd, Nat.reduceLeDiff, Nat.reduceLT, t_tag_si, t_tag_sr, t_tag_sI, x_r_si, x_i_sr, t_r_sI, x_ia_si, x_ia_sI, x_ia_sr, x_ra_si, x_ra_sI, x_ra_sr, g_t41 hs, h, eq_false h4, eq_false h5, eq_false h60, eq_false h61, eq_true h43, ne_eq, not_true_eq_false, not_false_eq_true, if_true, if_false]
  rw [if_neg h43]
  by_cases h45 : v = nI 45
  · rw [if_pos h45]
    simp only [X149_0, X149_1, X149_4, X149_5, X149_8, X149_10, X149_13, X149_14, X149_17, X149_18, X149_21, X149_23, X149_26, X149_27, X149_30, X149_32, X149_35, X149_37, X149_40, X149_41, X149_44, X149_46, X149_49, X149_51, X149_54, X149_55, X149_58, X149_60, X149_63, X149_65, X149_68, X149_69, X149_72, X149_74, X149_77, X149_79, X149_82, X149_83, X149_86, X149_88, X149_91, X149_93, X149_96, X149_97, Nat.zero_le, and_true, true_and, x_nb0, x_nb1, x_nbp, x_isL_int, x_isL_ref, x_isL_junk, x_isR_ref, x_cat_nil, x_cat_int, x_cat_ref, x_cat_long, Option.toList_some, Option.toList_none, List.cons_append, List.nil_append, Nat.reduceAdd, Nat.reduceLeDiff, Nat.reduceLT, t_tag_si, t_tag_sr, t_tag_sI, x_r_si, x_i_sr, t_r_sI, x_ia_si, x_ia_sI, x_ia_sr, x_ra_si, x_ra_sI, x_ra_sr, g_t41 hs, h, eq_false h4, eq_false h5, eq_false h60, eq_false h61, eq_false h43, eq_true h45, ne_eq, not_true_eq_false, not_false_eq_true, if_true, if_false]
  rw [if_neg h45]
  by_cases h42 : v = nI 42
  · rw [if_pos h42]
    simp only [X149_0, X149_1, X149_4, X149_5, X149_8, X149_10, X149_13, X149_14, X149_17, X149_18, X149_21, X149_23, X149_26, X149_27, X149_30, X149_32, X149_35, X149_37, X149_40, X149_41, X149_44, X149_46, X149_49, X149_51, X149_54, X149_55, X149_58, X149_60, X149_63, X149_65, X149_68, X149_69, X149_72, X149_74, X149_77, X149_79, X149_82, X149_83, X149_86, X149_88, X149_91, X149_93, X149_96, X149_97, Nat.zero_le, and_true, true_and, x_nb0, x_nb1, x_nbp, x_isL_int, x_isL_ref, x_isL_junk, x_isR_ref, x_cat_nil, x_cat_int, x_cat_ref, x_cat_long, Option.toList_some, Option.toList_none, List.cons_append, List.nil_append, Nat.reduceAdd, Nat.reduceLeDiff, Nat.reduceLT, t_tag_si, t_tag_sr, t_tag_sI, x_r_si, x_i_sr, t_r_sI, x_ia_si, x_ia_sI, x_ia_sr, x_ra_si, x_ra_sI, x_ra_sr, g_t41 hs, h, eq_false h4, eq_false h5, eq_false h60, eq_false h61, eq_false h43, eq_false h45, eq_true h42, ne_eq, not_true_eq_false, not_false_eq_true, if_true, if_false]
  rw [if_neg h42]
  simp only [X149_0, X149_1, X149_4, X149_5, X149_8, X149_10, X149_13, X149_14, X149_17, X149_18, X149_21, X149_23, X149_26, X149_27, X149_30, X149_32, X149_35, X149_37, X149_40, X149_41, X149_44, X149_46, X149_49, X149_51, X149_54, X149_55, X149_58, X149_60, X149_63, X149_65, X149_68, X149_69, X149_72, X149_74, X149_77, X149_79, X149_82, X149_83, X149_86, X149_88, X149_91, X149_93, X149_96, X149_97, Nat.zero_le, and_true, true_and, x_nb0, x_nb1, x_nbp, x_isL_int, x_isL_ref, x_isL_junk, x_isR_ref, x_cat_nil, x_cat_int, x_cat_ref, x_cat_long, Option.toList_some, Option.toList_none, List.cons_append, List.nil_append, Nat.reduceAdd, Nat.reduceLeDiff, Nat.reduceLT, t_tag_si, t_tag_sr, t_tag_sI, x_r_si, x_i_sr, t_r_sI, x_ia_si, x_ia_sI, x_ia_sr, x_ra_si, x_ra_sI, x_ra_sr, g_t41 hs, h, eq_false h4, eq_false h5, eq_false h60, eq_false h61, eq_false h43, eq_false h45, eq_false h42, ne_eq, not_true_eq_false, not_false_eq_true, if_true, if_false]
theorem S150 (hs : Sh w) (h : MH w nt H out) {c : Nat} (hc : isop c) (hl : H.length + out.length + 1 ≤ 160) {r : Nat} (hr : (if rk c = 4 then 5 else rk c) = r) : ∃ w2, Ch (pU nt) w w2 ∧ if rk c = 4 ∧ hdR (unw 5 H out).1 = 4 then ∀ Q, X_R L xs (d + 2) 150 0 [.ref 41, .int (nI c)] [] w Q = Q (some (.int (nI 0))) w2 else MH w2 nt (c :: (unw r H out).1) (unw r H out).2 ∧ ∀ Q, X_R L xs (d + 2) 150 0 [.ref 41, .int (nI c)] [] w Q = Q (some (.int (nI 1))) w2 := by
  have hc19 : c ≤ 18 ∧ c ≠ 0 ∧ c ≠ 13 := by unfold isop at hc; omega
  have hrk : 1 ≤ rk c ∧ rk c < 8 := (by decide : ∀ c, c < 19 → c ≠ 0 → 1 ≤ rk c ∧ rk c < 8) c (by omega) hc19.2.1
  have hr1 : 1 ≤ r ∧ r < 8 := by rw [← hr]; split <;> omega
  obtain ⟨w2, c2, h23, h2, e2⟩ := S145 (L := L) (xs := xs) (d := d) (nt := nt) hr1.1 hr1.2 H out w x_junk rfl hs h
  have hs2 := c2.sh hs
  have hlen := unw_len r H out
  have e146 := fun (Q' : Option Value → x_W → Prop) (w' : x_W) => S146 (L := L) (xs := xs) (d := d + 1) (w := w') (Q := Q') (show c < 2 ^ 31 by omega)
  have eh := h2.2.2.1
  have e148 := fun (Q' : Option Value → x_W → Prop) => S148 (L := L) (xs := xs) (d := d + 1) (Q := Q') (H := (unw r H out).1) (v := nI c) hs2 eh (by omega)
  have hM := h2.hold (c := c) (by omega) (by omega) (by omega)
  have cM : Ch (pU nt) w (x_si (x_si w2 57 (unw r H out).1.length (nI c)) 41 29 (nI ((unw r H out).1.length + 1))) := (c2.trans (Ch_si rfl)).trans (Ch_si rfl)
  by_cases h4 : rk c = 4
  · rw [if_pos h4] at hr
    subst hr
    have q4 : (nI (rk c) = nI 4) = True := eq_true (congrArg nI h4)
    generalize hU : (unw 5 H out).1 = U at *
    cases U with
    | nil =>
      refine ⟨_, cM, ?_⟩
      rw [if_neg (fun z => absurd z.2 (by decide))]
      refine ⟨hM, fun Q => ?_⟩
      have eh0 : x_i w2 41 29 = nI 0 := eh
      simp only [X150_0, X150_1, X150_2, X150_5, X150_6, X150_9, X150_10, X150_17, X150_20, X150_21, X150_24, X150_25, X150_28, X150_29, X150_32, X150_55, X150_56, X150_57, X150_60, X150_61, Nat.zero_le, and_true, true_and, x_nb0, x_nb1, x_nbp, x_isL_int, x_isL_ref, x_isL_junk, x_isR_ref, x_cat_nil, x_cat_int, x_cat_ref, x_cat_long, Option.toList_some, Option.toList_none, List.cons_append, List.nil_append, Nat.reduceAdd, Nat.reduceLeDiff, Nat.reduceLT, t_tag_si, t_tag_sr, t_tag_sI, x_r_si, x_i_sr, t_r_sI, x_ia_si, x_ia_sI, x_ia_sr, x_ra_si, x_ra_sI, x_ra_sr, g_t41 hs, g_t41 hs2, e146, q4, ne_eq, not_true_eq_false, if_false, e2, g_t41 hs2, eh0, nI_leT (Nat.le_refl 0) (show 0 < 2 ^ 31 by decide), if_true, e148]
    | cons x U =>
      have hlc : (x :: U).length = U.length + 1 := rfl
      have hx19 := h2.2.2.2.2.2.2.2.1 x (List.mem_cons_self ..)
      have eT : x_i w2 57 U.length = nI x := by
        rw [h2.2.2.2.2.2.1 U.length (by rw [hlc]; omega), rev_getD, if_neg (Nat.lt_irrefl _), if_pos rfl]
      rw [hlc] at eh hlen
      have tx := x_ix_nI (show U.length < 200 by omega) (show 200 < 2 ^ 31 by decide)
      have tc := nI_cl (show U.length < 2 ^ 31 by omega)
      have l0 := nI_leF (show 0 < U.length + 1 by omega) (show U.length + 1 < 2 ^ 31 by omega)
      have esub : nI (U.length + 1) - nI 1 = nI U.length := nI_sub (show 1 ≤ U.length + 1 by omega)
      have e146x := fun (Q' : Option Value → x_W → Prop) => S146 (L := L) (xs := xs) (d := d + 1) (w := w2) (Q := Q') (show x < 2 ^ 31 by omega)
      have hh : hdR (x :: U) = rk x := rfl
      rw [hh]
      by_cases hx : rk x = 4
      · refine ⟨w2, c2, ?_⟩
        rw [if_pos ⟨h4, hx⟩]
        intro Q
        simp only [X150_0, X150_1, X150_2, X150_5, X150_6, X150_9, X150_10, X150_17, X150_20, X150_21, X150_24, X150_25, X150_28, X150_29, X150_32, X150_35, X150_36, X150_39, X150_40, X150_43, X150_44, X150_45, X150_46, X150_49, X150_50, X150_53, X150_54, Nat.zero_le, and_true, true_and, x_nb0, x_nb1, x_nbp, x_isL_int, x_isL_ref, x_isL_junk, x_isR_ref, x_cat_nil, x_cat_int, x_cat_ref, x_cat_long, Option.toList_some, Option.toList_none, List.cons_append, List.nil_append, Nat.reduceAdd, Nat.reduceLeDiff, Nat.reduceLT, t_tag_si, t_tag_sr, t_tag_sI, x_r_si, x_i_sr, t_r_sI, x_ia_si, x_ia_sI, x_ia_sr, x_ra_si, x_ra_sI, x_ra_sr, g_t41 hs, g_t41 hs2, e146, q4, ne_eq, not_true_eq_false, if_false, e2, g_t41 hs2, eh, l0, g_r41_28 hs2, g_a57 hs2, esub, tx, tc, eT, e146x, eq_true (congrArg nI hx), if_true]
      · refine ⟨_, cM, ?_⟩
        rw [if_neg (fun z => hx z.2)]
        refine ⟨hM, fun Q => ?_⟩
        have hxk : rk x < 8 := (by decide : ∀ c, c < 20 → rk c < 8) x (by omega)
        simp only [X150_0, X150_1, X150_2, X150_5, X150_6, X150_9, X150_10, X150_17, X150_20, X150_21, X150_24, X150_25, X150_28, X150_29, X150_32, X150_35, X150_36, X150_39, X150_40, X150_43, X150_44, X150_45, X150_46, X150_49, X150_50, X150_55, X150_56, X150_57, X150_60, X150_61, Nat.zero_le, and_true, true_and, x_nb0, x_nb1, x_nbp, x_isL_int, x_isL_ref, x_isL_junk, x_isR_ref, x_cat_nil, x_cat_int, x_cat_ref, x_cat_long, Option.toList_some, Option.toList_none, List.cons_append, List.nil_append, Nat.reduceAdd, Nat.reduceLeDiff, Nat.reduceLT, t_tag_si, t_tag_sr, t_tag_sI, x_r_si, x_i_sr, t_r_sI, x_ia_si, x_ia_sI, x_ia_sr, x_ra_si, x_ra_sI, x_ra_sr, g_t41 hs, g_t41 hs2, e146, q4, ne_eq, not_true_eq_false, not_false_eq_true, if_false, e2, g_t41 hs2, eh, l0, g_r41_28 hs2, g_a57 hs2, esub, tx, tc, eT, e146x, nI_eqF hx (show rk x < 2 ^ 31 by omega) (by decide), if_true, e148]
  · rw [if_neg h4] at hr
    subst hr
    have q4 : (nI (rk c) = nI 4) = False := nI_eqF h4 (by omega) (by decide)
    refine ⟨_, cM, ?_⟩
    rw [if_neg (fun z => h4 z.1)]
    refine ⟨hM, fun Q => ?_⟩
    simp only [X150_0, X150_1, X150_2, X150_5, X150_6, X150_13, X150_14, X150_17, X150_20, X150_21, X150_24, X150_25, X150_55, X150_56, X150_57, X150_60, X150_61, Nat.zero_le, and_true, true_and, x_nb0, x_nb1, x_nbp, x_isL_int, x_isL_ref, x_isL_junk, x_isR_ref, x_cat_nil, x_cat_int, x_cat_ref, x_cat_long, Option.toList_some, Option.toList_none, List.cons_append, List.nil_append, Nat.reduceAdd, Nat.reduceLeDiff, Nat.reduceLT, t_tag_si, t_tag_sr, t_tag_sI, x_r_si, x_i_sr, t_r_sI, x_ia_si, x_ia_sI, x_ia_sr, x_ra_si, x_ra_sI, x_ra_sr, g_t41 hs, g_t41 hs2, e146, q4, ne_eq, not_false_eq_true, if_true, if_false, e2, e148]
theorem MH.pop {c : Nat} (h : MH w nt (c :: H) out) : MH (x_si (x_si w 41 29 (nI H.length)) 41 30 (nI (cnt H))) nt H out := by
  obtain ⟨hn, a11, a29, a30, a31, aH, aO, hc2, hL⟩ := h
  have hlc : (c :: H).length = H.length + 1 := rfl
  have eb : ∀ j, j ≠ 29 → j ≠ 30 → x_i (x_si (x_si w 41 29 (nI H.length)) 41 30 (nI (cnt H))) 41 j = x_i w 41 j := fun j hj h2 => (si_o h2).trans (si_o hj)
  refine ⟨hn, (eb 11 (by decide) (by decide)).trans a11, (si_o (by decide)).trans si_s, si_s, (eb 31 (by decide) (by decide)).trans a31, fun k hk => ?_, fun k hk => ?_, fun x hx => hc2 x (List.mem_cons_of_mem _ hx), by omega⟩
  · rw [x_i_sin _ _ _ _ (by decide), x_i_sin _ _ _ _ (by decide), aH k (by rw [hlc]; omega), rev_getD, if_pos hk]
  · rw [x_i_sin _ _ _ _ (by decide), x_i_sin _ _ _ _ (by decide)]; exact aO k hk
/-- an operand is put down -/
theorem opdM (hs : Sh w) (h : MH w nt H out) {t : Nat} {v : Int32} (hv : v = smT t) (hl : H.length + (out.length + 1) ≤ 160) : ∃ w3 w2, Sh w3 ∧ Ch (pU nt) w w2 ∧ MH w2 nt (unw 7 H (out ++ [t])).1 (unw 7 H (out ++ [t])).2 ∧ (∀ Q, X_R L xs (d + 2) 144 0 [.ref 41, .int v] [] w Q = Q none w3) ∧ ∀ Q, X_R L xs (d + 2) 145 0 [.ref 41, .int (nI 7), x_junk] [] w3 Q = Q none w2 := by
  have e144 := fun (Q' : Option Value → x_W → Prop) => S144 (L := L) (xs := xs) (d := d + 2) (Q := Q') (v := v) (out := out) hs h.2.1 h.2.2.2.2.1 h.1 (by omega)
  have hM := h.put (t := t) (v := v) hl hv
  have cM : Ch (pU nt) w _ := Ch_put (v := v) (v2 := nI (out.length + 1)) (k := out.length)
  obtain ⟨w2, c2, h23, h2, e2⟩ := S145 (L := L) (xs := xs) (d := d + 1) (nt := nt) (r := 7) (by decide) (by decide) H (out ++ [t]) _ x_junk rfl (cM.sh hs) hM
  exact ⟨_, w2, cM.sh hs, cM.trans c2, h2, e144, e2⟩
end S99997
