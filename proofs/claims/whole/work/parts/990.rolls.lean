/-! ===== rolling: who rolls where ===== -/
/-- the class's saying of part p by given names -/
theorem sayX {L : Nat} {xs : Nat → Int32} {d : Nat} {w : x_W} {tl : Nat → Nat} {tk : Nat → Nat → Nat} (hs : Sh w) (h : LwX w tl tk) {p : Nat} (hp : p < 3) (a0 a1 a2 a3 a4 a5 : Int32) : ∃ a w2, x_r w 22 1 = .ref a ∧ x_tag w a = some (0, 2) ∧ Ch (sc [34]) w w2 ∧ x_i w2 23 6 = x_i w 23 6 ∧ ∀ Q, X_R L xs (d + 1) 81 0 [.ref a, .int (nI p), .ref 34, x_junk, x_junk, x_junk] [] (x_sI w 34 (set6 (x_i w 34) a0 a1 a2 a3 a4 a5)) Q = Q (some (.int (clI (bndI p) (sayN (set6 (fun _ => nI 0) a0 a1 a2 a3 a4 a5) (tk p) (tl p))))) w2 := by
  obtain ⟨a, n, ha, hl, hpp⟩ := h
  obtain ⟨hP, hW⟩ := hpp p hp
  have e0 : offT tl p + tl p - offT tl p = tl p := by omega
  have hne := lawC_ne ha
  have h81 := fun (Q' : Option Value → x_W → Prop) => S81w (L := L) (xs := xs) (d := d) (Q := Q') (nm := set6 (x_i w 34) a0 a1 a2 a3 a4 a5) hs hl hp hP (by rw [e0]; exact hW)
  rw [e0, sayN_cg hW (set6_cg (x_i w 34) (fun _ => nI 0) _ _ _ _ _ _)] at h81
  refine ⟨a, _, hl.2.2.2, hl.1.1, (Ch_sI (fun _ => rfl)).trans (Ch_sI (fun k => lawC_K ha k _)), ?_, h81⟩
  rw [x_i_sIn _ _ _ (Ne.symm hne.2.2.1), x_i_sIn _ _ _ (by decide)]
theorem sayM {L : Nat} {xs : Nat → Int32} {d : Nat} {w : x_W} {tl : Nat → Nat} {tk : Nat → Nat → Nat} (hs : Sh w) (h : LwM w tl tk) {p : Nat} (hp : p < 3) (a0 a1 a2 a3 a4 a5 : Int32) : ∃ w2, Ch (sm [58, 59]) w w2 ∧ ∀ Q, X_R L xs (d + 2) 163 0 [.ref 41, .int (nI p), .int a0, .int a1, .int a2, .int a3, .int a4, .int a5] [] w Q = Q (some (.int (clI (bndI p) (sayN (set6 (fun _ => nI 0) a0 a1 a2 a3 a4 a5) (tk p) (tl p))))) w2 := by
  obtain ⟨r, r6, hr, hpp⟩ := h
  obtain ⟨hP, hW⟩ := hpp p hp
  have e0 : offT tl p + tl p - offT tl p = tl p := by omega
  have h163 := fun (Q' : Option Value → x_W → Prop) => S163 (L := L) (xs := xs) (d := d) (Q := Q') (w := w) (a0 := a0) (a1 := a1) (a2 := a2) (a3 := a3) (a4 := a4) (a5 := a5) hs hr r6 hp hP (by rw [e0]; exact hW)
  rw [e0, sayN_cg hW (set6_cg (x_i w 59) (fun _ => nI 0) _ _ _ _ _ _)] at h163
  exact ⟨_, (Ch_sI (fun _ => rfl)).trans (Ch_sI (fun _ => rfl)), h163⟩
/-- how steep it must be -/
def slN (kd td mo kt tl : Nat → Nat) (tk : Nat → Nat → Nat) (s : Nat) : Int32 := clI (nI 99) (sayN (nmT kd td mo kt (nI 0) s s) (tk 1) (tl 1))
/-- where s goes -/
def rtF (c : Nat → Nat → Bool) (dp kd td mo kt tl : Nat → Nat) (tk : Nat → Nat → Nat) (s : Nat) : Nat := match fo (stB (c (kt s)) dp) 20 none with
  | none => kt s
  | some b => if nI (dp b) - nI (dp (kt s)) ≤ slN kd td mo kt tl tk s then kt s else b
section S990
variable {L : Nat} {xs : Nat → Int32} {d : Nat} {w : x_W} {S : Nat} {kd td mo kt tl : Nat → Nat} {tk : Nat → Nat → Nat}
theorem rtF_lt {c : Nat → Nat → Bool} {dp : Nat → Nat} {s : Nat} (h : kt s < 20) : rtF c dp kd td mo kt tl tk s < 20 := by
  unfold rtF
  have hok := fo_ok (g := stB (c (kt s)) dp) (fun o p ho hp => stB_ok ho hp) 20 (Nat.le_refl _)
  cases hq : fo (stB (c (kt s)) dp) 20 none with
  | none => exact h
  | some b =>
    rw [hq] at hok
    dsimp only
    split
    · exact h
    · exact hok
theorem S61 (h : EX w S kd td mo kt tl tk) {s : Nat} (hs : s < S) {dp : Nat → Nat} (hp : ∀ o, o < 20 → x_i w 26 o = nI (dp o) ∧ dp o ≤ 999) : ∃ w', Ch (sc [34]) w w' ∧ x_i w' 23 6 = x_i w 23 6 ∧ ∀ Q, X_R L xs (d + 3) 61 0 [.ref 22, .int (nI s), x_junk, x_junk] [] w Q = Q (some (.int (nI (rtF (cbN (x_i w 24)) dp kd td mo kt tl tk s)))) w' := by
  have h6 := h.1.S6
  have hs0 := h.sh
  have hd := h.1.sd
  obtain ⟨⟨as, ts⟩, ⟨ks, tds, ms, ls⟩, ⟨ws, qs⟩, ⟨ks5, ts30, ms9, ls20⟩⟩ := h.slp hs
  have hsx := x_ix_nI (show s < 6 by omega) (show 6 < 2 ^ 31 by decide)
  have hsc := nI_cl (show s < 2 ^ 31 by omega)
  have e96 := fun (Q' : Option Value → x_W → Prop) => S96 (L := L) (xs := xs) (d := d + 1) hs0 hd ls20 h.1.nb hp (Q := Q')
  unfold rtF
  have hok := fo_ok (g := stB (cbN (x_i w 24) (kt s)) dp) (fun o p ho hp => stB_ok ho hp) 20 (Nat.le_refl _)
  generalize fo (stB (cbN (x_i w 24) (kt s)) dp) 20 none = P at *
  cases P with
  | none =>
    have e4 : obI none = -1 := rfl
    rw [e4] at e96
    refine ⟨w, Ch.refl, rfl, fun Q => ?_⟩
    simp only [X61_0, X61_1, X61_4, X61_5, X61_6, X61_7, X61_8, X61_11, X61_12, X61_15, X61_16, X61_17, X61_18, X61_21, X61_22, X61_23, X61_24, X61_25, X61_28, X61_29, X61_30, X61_33, X61_34, X61_37, X61_38, X61_39, X61_42, X61_43, X61_46, X61_47, X61_48, X61_51, X61_52, X61_53, X61_56, X61_57, X61_58, X61_61, X61_62, X61_65, X61_68, X61_69, X61_70, X61_71, X61_74, X61_77, X61_78, X61_79, X61_80, X61_81, X61_84, X61_85, X61_86, X61_89, X61_92, X61_95, X61_96, X61_99, X61_100, Nat.zero_le, and_true, true_and, x_nb0, x_nb1, x_nbp, x_isL_int, x_isL_ref, x_isL_junk, x_isR_ref, x_cat_nil, x_cat_int, x_cat_ref, x_cat_long, Option.toList_some, Option.toList_none, List.cons_append, List.nil_append, Nat.reduceAdd, Nat.reduceLeDiff, Nat.reduceLT, t_tag_si, t_tag_sr, t_tag_sI, x_r_si, x_i_sr, t_r_sI, x_ia_si, x_ia_sI, x_ia_sr, x_ra_si, x_ra_sI, x_ra_sr, g_t22 hs0, g_r22_0 hs0, g_r22_2 hs0, g_r22_3 hs0, g_r22_5 hs0, g_r22_6 hs0, g_r22_7 hs0, g_r22_8 hs0, g_a29 hs0, g_r29_0 hs0, g_r29_1 hs0, g_r29_2 hs0, g_r29_3 hs0, g_r29_4 hs0, g_r29_5 hs0, g_a30 hs0, g_a31 hs0, g_a32 hs0, g_a33 hs0, g_a34 hs0, g_t35 hs0, g_t36 hs0, g_t37 hs0, g_t38 hs0, g_t39 hs0, g_t40 hs0, hsx, hsc, ls, g_t23 hs0, e96, if_true]
  | some b =>
    have hb : b < 20 := hok
    have e4 : obI (some b) = nI b := rfl
    rw [e4] at e96
    have hm1 := nI_m1e (show b < 2 ^ 31 by omega)
    have hbx := x_ix_nI hb (show 20 < 2 ^ 31 by decide)
    have hbc := nI_cl (show b < 2 ^ 31 by omega)
    have hkx := x_ix_nI ls20 (show 20 < 2 ^ 31 by decide)
    have hkc := nI_cl (show kt s < 2 ^ 31 by omega)
    obtain ⟨a, w2, ra, ta, c2, c6, h81⟩ := sayX (L := L) (xs := xs) (d := d + 1) hs0 h.2.1 (show 1 < 3 by decide) (nI (td s)) (nI (mo s)) (nI 0) (nI (wgF kd td mo s)) (nI (kt s)) (nI s)
    have esl : clI (bndI 1) (sayN (set6 (fun _ => nI 0) (nI (td s)) (nI (mo s)) (nI 0) (nI (wgF kd td mo s)) (nI (kt s)) (nI s)) (tk 1) (tl 1)) = slN kd td mo kt tl tk s := rfl
    rw [esl] at h81
    have h52 := fun (Q' : Option Value → x_W → Prop) => S52 (L := L) (xs := xs) (d := d + 2) (Q := Q') (w := w) (a := nI (td s)) (b := nI (mo s)) (c := nI 0) hs0
    have h53 := fun (Q' : Option Value → x_W → Prop) => S53' (L := L) (xs := xs) (d := d + 2) (Q := Q') (w := w) (a := nI (wgF kd td mo s)) (b := nI (kt s)) (c := nI s) (a' := nI (td s)) (b' := nI (mo s)) (c' := nI 0) hs0
    have e26 : ∀ f : Nat → Int32, x_i (x_sI w 34 f) 26 = x_i w 26 := fun f => x_i_sIn _ _ _ (by decide)
    have e35 : ∀ f : Nat → Int32, x_i (x_sI w 34 f) (35 + s) = x_i w (35 + s) := fun f => x_i_sIn _ _ _ (by omega)
    refine ⟨w2, c2, c6, fun Q => ?_⟩
    dsimp only
    by_cases hle : nI (dp b) - nI (dp (kt s)) ≤ slN kd td mo kt tl tk s
    · rw [if_pos hle]
      simp only [X61_0, X61_1, X61_4, X61_5, X61_6, X61_7, X61_8, X61_11, X61_12, X61_15, X61_16, X61_17, X61_18, X61_21, X61_22, X61_23, X61_24, X61_25, X61_28, X61_29, X61_30, X61_33, X61_34, X61_37, X61_38, X61_39, X61_42, X61_43, X61_46, X61_47, X61_48, X61_51, X61_52, X61_53, X61_56, X61_57, X61_58, X61_61, X61_62, X61_65, X61_68, X61_69, X61_70, X61_71, X61_74, X61_77, X61_78, X61_79, X61_80, X61_81, X61_84, X61_85, X61_86, X61_89, X61_92, X61_95, X61_96, X61_99, X61_100, Nat.zero_le, and_true, true_and, x_nb0, x_nb1, x_nbp, x_isL_int, x_isL_ref, x_isL_junk, x_isR_ref, x_cat_nil, x_cat_int, x_cat_ref, x_cat_long, Option.toList_some, Option.toList_none, List.cons_append, List.nil_append, Nat.reduceAdd, Nat.reduceLeDiff, Nat.reduceLT, t_tag_si, t_tag_sr, t_tag_sI, x_r_si, x_i_sr, t_r_sI, x_ia_si, x_ia_sI, x_ia_sr, x_ra_si, x_ra_sI, x_ra_sr, g_t22 hs0, g_r22_0 hs0, g_r22_2 hs0, g_r22_3 hs0, g_r22_5 hs0, g_r22_6 hs0, g_r22_7 hs0, g_r22_8 hs0, g_a29 hs0, g_r29_0 hs0, g_r29_1 hs0, g_r29_2 hs0, g_r29_3 hs0, g_r29_4 hs0, g_r29_5 hs0, g_a30 hs0, g_a31 hs0, g_a32 hs0, g_a33 hs0, g_a34 hs0, g_t35 hs0, g_t36 hs0, g_t37 hs0, g_t38 hs0, g_t39 hs0, g_t40 hs0, hsx, hsc, ls, g_t23 hs0, e96, hm1, if_false, as, ts, tds, ms, ws, h52, h53, e35, e26, hd.1, g_a26 hs0, hbx, hbc, hkx, hkc, (hp b hb).1, (hp (kt s) ls20).1, ra, ta, h81, hle, if_true]
    · rw [if_neg hle]
      simp only [X61_0, X61_1, X61_4, X61_5, X61_6, X61_7, X61_8, X61_11, X61_12, X61_15, X61_16, X61_17, X61_18, X61_21, X61_22, X61_23, X61_24, X61_25, X61_28, X61_29, X61_30, X61_33, X61_34, X61_37, X61_38, X61_39, X61_42, X61_43, X61_46, X61_47, X61_48, X61_51, X61_52, X61_53, X61_56, X61_57, X61_58, X61_61, X61_62, X61_65, X61_68, X61_69, X61_70, X61_71, X61_74, X61_77, X61_78, X61_79, X61_80, X61_81, X61_84, X61_85, X61_86, X61_89, X61_92, X61_95, X61_96, X61_99, X61_100, Nat.zero_le, and_true, true_and, x_nb0, x_nb1, x_nbp, x_isL_int, x_isL_ref, x_isL_junk, x_isR_ref, x_cat_nil, x_cat_int, x_cat_ref, x_cat_long, Option.toList_some, Option.toList_none, List.cons_append, List.nil_append, Nat.reduceAdd, Nat.reduceLeDiff, Nat.reduceLT, t_tag_si, t_tag_sr, t_tag_sI, x_r_si, x_i_sr, t_r_sI, x_ia_si, x_ia_sI, x_ia_sr, x_ra_si, x_ra_sI, x_ra_sr, g_t22 hs0, g_r22_0 hs0, g_r22_2 hs0, g_r22_3 hs0, g_r22_5 hs0, g_r22_6 hs0, g_r22_7 hs0, g_r22_8 hs0, g_a29 hs0, g_r29_0 hs0, g_r29_1 hs0, g_r29_2 hs0, g_r29_3 hs0, g_r29_4 hs0, g_r29_5 hs0, g_a30 hs0, g_a31 hs0, g_a32 hs0, g_a33 hs0, g_a34 hs0, g_t35 hs0, g_t36 hs0, g_t37 hs0, g_t38 hs0, g_t39 hs0, g_t40 hs0, hsx, hsc, ls, g_t23 hs0, e96, hm1, if_false, as, ts, tds, ms, ws, h52, h53, e35, e26, hd.1, g_a26 hs0, hbx, hbc, hkx, hkc, (hp b hb).1, (hp (kt s) ls20).1, ra, ta, h81, hle]
theorem S186 (h : EM w S kd td mo kt tl tk) {s : Nat} (hs : s < S) {dp : Nat → Nat} (hp : ∀ o, o < 20 → x_i w 61 o = nI (dp o) ∧ dp o ≤ 999) : ∃ w', Ch (sm [58, 59]) w w' ∧ ∀ Q, X_R L xs (d + 3) 186 0 [.ref 41, .int (nI s), x_junk, x_junk, x_junk] [] w Q = Q (some (.int (nI (rtF (cbN (x_i w 42)) dp kd td mo kt tl tk s)))) w' := by
  have h6 := h.1.S6
  have hs0 := h.sh
  obtain ⟨⟨ks, ks5⟩, ⟨tds, ts30⟩, ⟨ms, ms9⟩, ⟨ls, ls20⟩⟩ := h.1.M s (by omega)
  have hsx := x_ix_nI (show s < 6 by omega) (show 6 < 2 ^ 31 by decide)
  have hsc := nI_cl (show s < 2 ^ 31 by omega)
  have hkx := x_ix_nI ls20 (show 20 < 2 ^ 31 by decide)
  have hkc := nI_cl (show kt s < 2 ^ 31 by omega)
  have loop : ∀ n j (v4 : Value), x_isL v4 = false → j + n = 20 → ∃ u, x_isL u = false ∧ ∀ Q, X_R L xs (d + 3) 186 12 [.ref 41, .int (nI s), .int (nI (kt s)), .int (obI (fo (stB (cbN (x_i w 42) (kt s)) dp) j none)), .int (nI j)] [] w Q = X_R L xs (d + 3) 186 63 [.ref 41, .int (nI s), .int (nI (kt s)), .int (obI (fo (stB (cbN (x_i w 42) (kt s)) dp) 20 none)), .int (nI 20)] [] w Q := by
    intro n
    induction n with
    | zero =>
      intro j v4 h4 hj
      obtain rfl : j = 20 := by omega
      refine ⟨v4, h4, fun Q => ?_⟩
      rw [X186_12]
      simp only [X186_14, X186_16, Nat.zero_le, and_true, true_and, x_nb0, x_nb1, x_nbp, x_isL_int, x_isL_ref, x_isL_junk, x_isR_ref, x_cat_nil, x_cat_int, x_cat_ref, x_cat_long, Option.toList_some, Option.toList_none, List.cons_append, List.nil_append, Nat.reduceAdd, Nat.reduceLeDiff, Nat.reduceLT, t_tag_si, t_tag_sr, t_tag_sI, x_r_si, x_i_sr, t_r_sI, x_ia_si, x_ia_sI, x_ia_sr, x_ra_si, x_ra_sI, x_ra_sr, nI_leT (Nat.le_refl 20) (by decide), if_true]
    | succ n ih =>
      intro j v4 h4 hj
      have hjx := x_ix_nI (show j < 20 by omega) (show 20 < 2 ^ 31 by decide)
      have hjc := nI_cl (show j < 2 ^ 31 by omega)
      obtain ⟨hpo, hpo9⟩ := hp j (by omega)
      have hst : fo (stB (cbN (x_i w 42) (kt s)) dp) (j + 1) none = stB (cbN (x_i w 42) (kt s)) dp j (fo (stB (cbN (x_i w 42) (kt s)) dp) j none) := rfl
      have hok := fo_ok (g := stB (cbN (x_i w 42) (kt s)) dp) (fun o p ho hp => stB_ok ho hp) j (by omega)
      have e152 := fun (Q' : Option Value → x_W → Prop) => S152 (L := L) (xs := xs) (d := d + 2) (Q := Q') (b := nI j) hs0 hkx
      rw [hkc] at e152
      obtain ⟨u, hu, e2⟩ := ih (j + 1) v4 h4 (by omega)
      rw [hst] at e2
      generalize hP : fo (stB (cbN (x_i w 42) (kt s)) dp) j none = P at *
      refine ⟨u, hu, fun Q => ?_⟩
      rw [← e2 Q, X186_12]
      rcases bv_cases (x_i w 42 (kt s)) (nI j) with hb | hb
      · have hcb : cbN (x_i w 42) (kt s) j = false := by unfold cbN; rw [hb]; decide
        have e3 : stB (cbN (x_i w 42) (kt s)) dp j P = P := by unfold stB; rw [hcb]; rfl
        rw [e3]
        simp only [X186_14, X186_16, X186_19, X186_20, X186_21, X186_23, X186_26, X186_55, X186_56, X186_57, X186_60, Nat.zero_le, and_true, true_and, x_nb0, x_nb1, x_nbp, x_isL_int, x_isL_ref, x_isL_junk, x_isR_ref, x_cat_nil, x_cat_int, x_cat_ref, x_cat_long, Option.toList_some, Option.toList_none, List.cons_append, List.nil_append, Nat.reduceAdd, Nat.reduceLeDiff, Nat.reduceLT, t_tag_si, t_tag_sr, t_tag_sI, x_r_si, x_i_sr, t_r_sI, x_ia_si, x_ia_sI, x_ia_sr, x_ra_si, x_ra_sI, x_ra_sr, nI_leF (show j < 20 by omega) (by decide), if_false, g_t41 hs0, e152, hb, if_true, nI_add]
      · have hcb : cbN (x_i w 42) (kt s) j = true := by unfold cbN; rw [hb]; decide
        cases P with
        | none =>
          have e3 : stB (cbN (x_i w 42) (kt s)) dp j none = some j := by unfold stB; rw [if_pos hcb]
          have e4 : obI none = -1 := rfl
          have e5 : obI (some j) = nI j := rfl
          rw [e3, e4, e5]
          simp only [X186_14, X186_16, X186_19, X186_20, X186_21, X186_23, X186_26, X186_29, X186_30, X186_31, X186_50, X186_52, X186_56, X186_57, X186_60, Nat.zero_le, and_true, true_and, x_nb0, x_nb1, x_nbp, x_isL_int, x_isL_ref, x_isL_junk, x_isR_ref, x_cat_nil, x_cat_int, x_cat_ref, x_cat_long, Option.toList_some, Option.toList_none, List.cons_append, List.nil_append, Nat.reduceAdd, Nat.reduceLeDiff, Nat.reduceLT, t_tag_si, t_tag_sr, t_tag_sI, x_r_si, x_i_sr, t_r_sI, x_ia_si, x_ia_sI, x_ia_sr, x_ra_si, x_ra_sI, x_ra_sr, nI_leF (show j < 20 by omega) (by decide), if_false, g_t41 hs0, e152, hb, n10, if_true, nI_add]
        | some b =>
          have hb20 : b < 20 := hok
          obtain ⟨hpb, hpb9⟩ := hp b hb20
          have hbx := x_ix_nI hb20 (show 20 < 2 ^ 31 by decide)
          have hbc := nI_cl (show b < 2 ^ 31 by omega)
          have e4 : obI (some b) = nI b := rfl
          have hm1 := nI_m1e (show b < 2 ^ 31 by omega)
          by_cases hl : dp b < dp j
          · have e3 : stB (cbN (x_i w 42) (kt s)) dp j (some b) = some j := by unfold stB; rw [if_pos hcb]; dsimp only; rw [if_pos hl]
            have e5 : obI (some j) = nI j := rfl
            rw [e3, e4, e5]
            simp only [X186_14, X186_16, X186_19, X186_20, X186_21, X186_23, X186_26, X186_29, X186_30, X186_31, X186_34, X186_35, X186_38, X186_40, X186_41, X186_42, X186_45, X186_46, X186_47, X186_50, X186_52, X186_56, X186_57, X186_60, Nat.zero_le, and_true, true_and, x_nb0, x_nb1, x_nbp, x_isL_int, x_isL_ref, x_isL_junk, x_isR_ref, x_cat_nil, x_cat_int, x_cat_ref, x_cat_long, Option.toList_some, Option.toList_none, List.cons_append, List.nil_append, Nat.reduceAdd, Nat.reduceLeDiff, Nat.reduceLT, t_tag_si, t_tag_sr, t_tag_sI, x_r_si, x_i_sr, t_r_sI, x_ia_si, x_ia_sI, x_ia_sr, x_ra_si, x_ra_sI, x_ra_sr, nI_leF (show j < 20 by omega) (by decide), if_false, g_t41 hs0, e152, hb, n10, hm1, g_r41_35 hs0, g_a61 hs0, hjx, hjc, hbx, hbc, hpo, hpb, nI_leF hl (show dp j < 2 ^ 31 by omega), nI_add]
          · have e3 : stB (cbN (x_i w 42) (kt s)) dp j (some b) = some b := by unfold stB; rw [if_pos hcb]; dsimp only; rw [if_neg hl]
            rw [e3, e4]
            simp only [X186_14, X186_16, X186_19, X186_20, X186_21, X186_23, X186_26, X186_29, X186_30, X186_31, X186_34, X186_35, X186_38, X186_40, X186_41, X186_42, X186_45, X186_46, X186_47, X186_55, X186_56, X186_57, X186_60, Nat.zero_le, and_true, true_and, x_nb0, x_nb1, x_nbp, x_isL_int, x_isL_ref, x_isL_junk, x_isR_ref, x_cat_nil, x_cat_int, x_cat_ref, x_cat_long, Option.toList_some, Option.toList_none, List.cons_append, List.nil_append, Nat.reduceAdd, Nat.reduceLeDiff, Nat.reduceLT, t_tag_si, t_tag_sr, t_tag_sI, x_r_si, x_i_sr, t_r_sI, x_ia_si, x_ia_sI, x_ia_sr, x_ra_si, x_ra_sI, x_ra_sr, nI_leF (show j < 20 by omega) (by decide), if_false, g_t41 hs0, e152, hb, n10, hm1, g_r41_35 hs0, g_a61 hs0, hjx, hjc, hbx, hbc, hpo, hpb, nI_leT (Nat.not_lt.mp hl) (show dp b < 2 ^ 31 by omega), if_true, nI_add]
  obtain ⟨u, hu, el⟩ := loop 20 0 x_junk rfl rfl
  have e0 : ∀ Q, X_R L xs (d + 3) 186 0 [.ref 41, .int (nI s), x_junk, x_junk, x_junk] [] w Q = X_R L xs (d + 3) 186 12 [.ref 41, .int (nI s), .int (nI (kt s)), .int (-1), .int (nI 0)] [] w Q := by
    intro Q
    simp only [X186_0, X186_1, X186_4, X186_5, X186_6, X186_7, X186_8, X186_9, X186_10, Nat.zero_le, and_true, true_and, x_nb0, x_nb1, x_nbp, x_isL_int, x_isL_ref, x_isL_junk, x_isR_ref, x_cat_nil, x_cat_int, x_cat_ref, x_cat_long, Option.toList_some, Option.toList_none, List.cons_append, List.nil_append, Nat.reduceAdd, Nat.reduceLeDiff, Nat.reduceLT, t_tag_si, t_tag_sr, t_tag_sI, x_r_si, x_i_sr, t_r_sI, x_ia_si, x_ia_sI, x_ia_sr, x_ra_si, x_ra_sI, x_ra_sr, g_t41 hs0, g_r41_6 hs0, g_a46 hs0, hsx, hsc, ls]
  unfold rtF
  have hok := fo_ok (g := stB (cbN (x_i w 42) (kt s)) dp) (fun o p ho hp => stB_ok ho hp) 20 (Nat.le_refl _)
  generalize hP : fo (stB (cbN (x_i w 42) (kt s)) dp) 20 none = P at *
  cases P with
  | none =>
    have e4 : obI none = -1 := rfl
    rw [e4] at el
    refine ⟨w, Ch.refl, fun Q => ?_⟩
    rw [e0 Q]
    refine (el Q).trans ?_
    simp only [X186_63, X186_64, X186_65, X186_113, X186_114, X186_116, X186_118, X186_125, X186_126, Nat.zero_le, and_true, true_and, x_nb0, x_nb1, x_nbp, x_isL_int, x_isL_ref, x_isL_junk, x_isR_ref, x_cat_nil, x_cat_int, x_cat_ref, x_cat_long, Option.toList_some, Option.toList_none, List.cons_append, List.nil_append, Nat.reduceAdd, Nat.reduceLeDiff, Nat.reduceLT, t_tag_si, t_tag_sr, t_tag_sI, x_r_si, x_i_sr, t_r_sI, x_ia_si, x_ia_sI, x_ia_sr, x_ra_si, x_ra_sI, x_ra_sr, if_true]
  | some b =>
    have hb : b < 20 := hok
    have e4 : obI (some b) = nI b := rfl
    rw [e4] at el
    have hm1 := nI_m1e (show b < 2 ^ 31 by omega)
    have hbx := x_ix_nI hb (show 20 < 2 ^ 31 by decide)
    have hbc := nI_cl (show b < 2 ^ 31 by omega)
    have e171 := fun (Q' : Option Value → x_W → Prop) => S171 (L := L) (xs := xs) (d := d + 2) (w := w) (Q := Q') hs0 (show s < 6 by omega) ks tds ms ks5 ts30 ms9
    have e171' : wgN (kd s) (td s) (mo s) = wgF kd td mo s := rfl
    rw [e171'] at e171
    obtain ⟨w2, c2, h163⟩ := sayM (L := L) (xs := xs) (d := d) hs0 h.2 (show 1 < 3 by decide) (nI (td s)) (nI (mo s)) (nI 0) (nI (wgF kd td mo s)) (nI (kt s)) (nI s)
    have esl : clI (bndI 1) (sayN (set6 (fun _ => nI 0) (nI (td s)) (nI (mo s)) (nI 0) (nI (wgF kd td mo s)) (nI (kt s)) (nI s)) (tk 1) (tl 1)) = slN kd td mo kt tl tk s := rfl
    rw [esl] at h163
    refine ⟨w2, c2, fun Q => ?_⟩
    rw [e0 Q]
    refine (el Q).trans ?_
    dsimp only
    by_cases hle : nI (dp b) - nI (dp (kt s)) ≤ slN kd td mo kt tl tk s
    · rw [if_pos hle]
      simp only [X186_63, X186_64, X186_65, X186_68, X186_69, X186_72, X186_73, X186_74, X186_75, X186_78, X186_79, X186_80, X186_81, X186_82, X186_83, X186_84, X186_87, X186_88, X186_89, X186_90, X186_93, X186_94, X186_95, X186_96, X186_97, X186_98, X186_101, X186_102, X186_103, X186_106, X186_113, X186_114, X186_116, X186_118, X186_125, X186_126, Nat.zero_le, and_true, true_and, x_nb0, x_nb1, x_nbp, x_isL_int, x_isL_ref, x_isL_junk, x_isR_ref, x_cat_nil, x_cat_int, x_cat_ref, x_cat_long, Option.toList_some, Option.toList_none, List.cons_append, List.nil_append, Nat.reduceAdd, Nat.reduceLeDiff, Nat.reduceLT, t_tag_si, t_tag_sr, t_tag_sI, x_r_si, x_i_sr, t_r_sI, x_ia_si, x_ia_sI, x_ia_sr, x_ra_si, x_ra_sI, x_ra_sr, g_t41 hs0, g_r41_0 hs0, g_r41_3 hs0, g_r41_4 hs0, g_r41_5 hs0, g_r41_6 hs0, g_r41_7 hs0, g_r41_9 hs0, g_r41_10 hs0, g_r41_17 hs0, g_r41_18 hs0, g_r41_19 hs0, g_r41_20 hs0, g_r41_21 hs0, g_r41_22 hs0, g_r41_27 hs0, g_r41_28 hs0, g_r41_32 hs0, g_r41_33 hs0, g_r41_34 hs0, g_r41_35 hs0, g_r41_36 hs0, g_r41_37 hs0, g_r41_38 hs0, g_r41_39 hs0, g_a42 hs0, g_a43 hs0, g_a44 hs0, g_a45 hs0, g_a46 hs0, g_a47 hs0, g_a48 hs0, g_a49 hs0, g_a50 hs0, g_a51 hs0, g_a52 hs0, g_a53 hs0, g_a54 hs0, g_a55 hs0, g_a56 hs0, g_a57 hs0, g_a58 hs0, g_a59 hs0, g_a60 hs0, g_a61 hs0, g_a62 hs0, g_a63 hs0, g_a64 hs0, g_a65 hs0, hm1, if_false, hbx, hbc, hkx, hkc, hsx, hsc, (hp b hb).1, (hp (kt s) ls20).1, tds, ms, e171, h163, hle, if_true]
    · rw [if_neg hle]
      simp only [X186_63, X186_64, X186_65, X186_68, X186_69, X186_72, X186_73, X186_74, X186_75, X186_78, X186_79, X186_80, X186_81, X186_82, X186_83, X186_84, X186_87, X186_88, X186_89, X186_90, X186_93, X186_94, X186_95, X186_96, X186_97, X186_98, X186_101, X186_102, X186_103, X186_106, X186_109, X186_110, X186_114, X186_116, X186_118, X186_121, X186_122, X186_126, Nat.zero_le, and_true, true_and, x_nb0, x_nb1, x_nbp, x_isL_int, x_isL_ref, x_isL_junk, x_isR_ref, x_cat_nil, x_cat_int, x_cat_ref, x_cat_long, Option.toList_some, Option.toList_none, List.cons_append, List.nil_append, Nat.reduceAdd, Nat.reduceLeDiff, Nat.reduceLT, t_tag_si, t_tag_sr, t_tag_sI, x_r_si, x_i_sr, t_r_sI, x_ia_si, x_ia_sI, x_ia_sr, x_ra_si, x_ra_sI, x_ra_sr, g_t41 hs0, g_r41_0 hs0, g_r41_3 hs0, g_r41_4 hs0, g_r41_5 hs0, g_r41_6 hs0, g_r41_7 hs0, g_r41_9 hs0, g_r41_10 hs0, g_r41_17 hs0, g_r41_18 hs0, g_r41_19 hs0, g_r41_20 hs0, g_r41_21 hs0, g_r41_22 hs0, g_r41_27 hs0, g_r41_28 hs0, g_r41_32 hs0, g_r41_33 hs0, g_r41_34 hs0, g_r41_35 hs0, g_r41_36 hs0, g_r41_37 hs0, g_r41_38 hs0, g_r41_39 hs0, g_a42 hs0, g_a43 hs0, g_a44 hs0, g_a45 hs0, g_a46 hs0, g_a47 hs0, g_a48 hs0, g_a49 hs0, g_a50 hs0, g_a51 hs0, g_a52 hs0, g_a53 hs0, g_a54 hs0, g_a55 hs0, g_a56 hs0, g_a57 hs0, g_a58 hs0, g_a59 hs0, g_a60 hs0, g_a61 hs0, g_a62 hs0, g_a63 hs0, g_a64 hs0, g_a65 hs0, hm1, if_false, hbx, hbc, hkx, hkc, hsx, hsc, (hp b hb).1, (hp (kt s) ls20).1, tds, ms, e171, h163, hle, n10]
end S990
