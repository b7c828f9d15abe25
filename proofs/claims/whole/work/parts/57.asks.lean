/-! ===== asks() ===== -/
def set6 (f : Nat → Int32) (a0 a1 a2 a3 a4 a5 : Int32) : Nat → Int32 := upd (upd (upd (upd (upd (upd f 0 a0) 1 a1) 2 a2) 3 a3) 4 a4) 5 a5
theorem set6_cg (f g : Nat → Int32) (a0 a1 a2 a3 a4 a5 : Int32) : ∀ k, k < 6 → set6 f a0 a1 a2 a3 a4 a5 k = set6 g a0 a1 a2 a3 a4 a5 k := by
  intro k hk
  match k, hk with
  | 0, _ => rfl
  | 1, _ => rfl
  | 2, _ => rfl
  | 3, _ => rfl
  | 4, _ => rfl
  | 5, _ => rfl
  | k + 6, h => exact absurd h (by omega)
theorem stk1_nm {nm nm' : Nat → Int32} {t h : Nat} {f : Nat → Int32} (ho : okT t) (hn : ∀ k, k < 6 → nm k = nm' k) : stk1 nm t h f = stk1 nm' t h f := by
  unfold stk1
  by_cases h1 : t < 10000
  · rw [if_pos h1, if_pos h1]
  · rw [if_neg h1, if_neg h1]
    by_cases h2 : t < 20000
    · rw [if_pos h2, if_pos h2, hn (t - 10000) (by
        rcases ho with q | q | q
        · omega
        · omega
        · omega)]
    · rw [if_neg h2, if_neg h2]
theorem stkN_nm {nm nm' : Nat → Int32} {st : Nat → Nat} {f : Nat → Int32} (n : Nat) (hw : ∀ m, m < n → wfT (st m) (topN st m)) (hn : ∀ k, k < 6 → nm k = nm' k) : stkN nm st f n = stkN nm' st f n := by
  induction n with
  | zero => rfl
  | succ n ih =>
    unfold stkN
    rw [ih (fun m hm => hw m (by omega)), stk1_nm (hw n (Nat.lt_succ_self _)).1 hn]
/-- what a part says under the six names -/
def sayN (nm : Nat → Int32) (st : Nat → Nat) (n : Nat) : Int32 := stkN nm st (fun _ => nI 0) n 0
def WfP (st : Nat → Nat) (n : Nat) : Prop := (∀ m, m < n → wfT (st m) (topN st m)) ∧ 0 < topN st n
theorem sayN_of {nm nm' : Nat → Int32} {st : Nat → Nat} {f : Nat → Int32} {n : Nat} (hw : WfP st n) (hn : ∀ k, k < 6 → nm k = nm' k) : stkN nm st f n 0 = sayN nm' st n := by
  unfold sayN
  rw [stkN_nm n hw.1 hn]
  exact stkN_cg n hw.1 0 hw.2
def clI (B z : Int32) : Int32 := if nI 0 ≤ z then if z ≤ B then z else B else nI 0
theorem clX_I {B z : Int32} (hB : nI 0 < B) : clX B z = clI B z := by
  unfold clX clI
  by_cases h1 : z < B
  · rw [if_pos h1]
    by_cases h2 : nI 0 < z
    · rw [if_pos h2, if_pos (Int32.le_of_lt h2), if_pos (Int32.le_of_lt h1)]
    · rw [if_neg h2]
      by_cases h3 : nI 0 ≤ z
      · rw [if_pos h3, if_pos (Int32.le_of_lt h1)]
        exact Int32.le_antisymm h3 (Int32.not_lt.mp h2)
      · rw [if_neg h3]
  · rw [if_neg h1, if_pos hB]
    have h4 := Int32.not_lt.mp h1
    rw [if_pos (Int32.le_trans (Int32.le_of_lt hB) h4)]
    by_cases h5 : z ≤ B
    · rw [if_pos h5]; exact Int32.le_antisymm h4 h5
    · rw [if_neg h5]
theorem bndI_0 (p : Nat) : nI 0 < bndI p := by unfold bndI; split <;> decide
/-- the law in force -/
def LawW (w : x_W) (a A E K n : Nat) : Prop := LawX w a A E K n ∧ A ≠ 34 ∧ E ≠ 34 ∧ x_r w 22 1 = .ref a
def asksOk (p a b c e : Int32) : Prop := (nI 0 ≤ p ∧ p ≤ nI 2) ∧ (nI 0 ≤ a ∧ a ≤ nI 999) ∧ (nI 0 ≤ b ∧ b ≤ nI 20) ∧ (nI 0 ≤ c ∧ c ≤ nI 999) ∧ (nI 0 ≤ e ∧ e ≤ nI 199)
def q10 (a : Int32) : Int32 := a / nI 10
def r10 (a : Int32) : Int32 := a - a / nI 10 * nI 10
theorem ten0 : ¬ nI 10 = nI 0 := by decide
section S57
variable {L : Nat} {xs : Nat → Int32} {d : Nat} {w : x_W} {Q : Option Value → x_W → Prop}
theorem S52 {a b c : Int32} (hs : Sh w) : X_R L xs d 52 0 [.ref 22, .int a, .int b, .int c] [] w Q = Q none (x_sI w 34 (upd (upd (upd (x_i w 34) 0 a) 1 b) 2 c)) := by
  have i0 := x_ix_nI (show 0 < 6 by decide) (show 6 < 2 ^ 31 by decide)
  have i1 := x_ix_nI (show 1 < 6 by decide) (show 6 < 2 ^ 31 by decide)
  have i2 := x_ix_nI (show 2 < 6 by decide) (show 6 < 2 ^ 31 by decide)
  have c0 := nI_cl (show 0 < 2 ^ 31 by decide)
  have c1 := nI_cl (show 1 < 2 ^ 31 by decide)
  have c2 := nI_cl (show 2 < 2 ^ 31 by decide)
  have e : x_si w 34 0 a = x_sI w 34 (upd (x_i w 34) 0 a) := rfl
  simp only [X52_0, X52_1, X52_4, X52_5, X52_6, X52_7, X52_8, X52_11, X52_12, X52_13, X52_14, X52_15, X52_18, X52_19, X52_20, X52_21, Nat.zero_le, and_true, true_and, x_nb0, x_nb1, x_nbp, x_isL_int, x_isL_ref, x_isL_junk, x_isR_ref, x_cat_nil, x_cat_int, x_cat_ref, x_cat_long, Option.toList_some, Option.toList_none, List.cons_append, List.nil_append, Nat.reduceAdd, Nat.reduceLeDiff, Nat.reduceLT, t_tag_si, t_tag_sr, t_tag_sI, x_r_si, x_i_sr, t_r_sI, x_ia_si, x_ia_sI, x_ia_sr, x_ra_si, x_ra_sI, x_ra_sr, g_t22 hs, g_t22 hs, g_r22_0 hs, g_r22_2 hs, g_r22_3 hs, g_r22_5 hs, g_r22_6 hs, g_r22_7 hs, g_r22_8 hs, g_a29 hs, g_r29_0 hs, g_r29_1 hs, g_r29_2 hs, g_r29_3 hs, g_r29_4 hs, g_r29_5 hs, g_a30 hs, g_a31 hs, g_a32 hs, g_a33 hs, g_a34 hs, g_t35 hs, g_t36 hs, g_t37 hs, g_t38 hs, g_t39 hs, g_t40 hs, i0, i1, i2, c0, c1, c2, e, x_si_sI]
theorem S53 {a b c : Int32} (hs : Sh w) : X_R L xs d 53 0 [.ref 22, .int a, .int b, .int c] [] w Q = Q none (x_sI w 34 (upd (upd (upd (x_i w 34) 3 a) 4 b) 5 c)) := by
  have i0 := x_ix_nI (show 3 < 6 by decide) (show 6 < 2 ^ 31 by decide)
  have i1 := x_ix_nI (show 4 < 6 by decide) (show 6 < 2 ^ 31 by decide)
  have i2 := x_ix_nI (show 5 < 6 by decide) (show 6 < 2 ^ 31 by decide)
  have c0 := nI_cl (show 3 < 2 ^ 31 by decide)
  have c1 := nI_cl (show 4 < 2 ^ 31 by decide)
  have c2 := nI_cl (show 5 < 2 ^ 31 by decide)
  have e : x_si w 34 3 a = x_sI w 34 (upd (x_i w 34) 3 a) := rfl
  simp only [X53_0, X53_1, X53_4, X53_5, X53_6, X53_7, X53_8, X53_11, X53_12, X53_13, X53_14, X53_15, X53_18, X53_19, X53_20, X53_21, Nat.zero_le, and_true, true_and, x_nb0, x_nb1, x_nbp, x_isL_int, x_isL_ref, x_isL_junk, x_isR_ref, x_cat_nil, x_cat_int, x_cat_ref, x_cat_long, Option.toList_some, Option.toList_none, List.cons_append, List.nil_append, Nat.reduceAdd, Nat.reduceLeDiff, Nat.reduceLT, t_tag_si, t_tag_sr, t_tag_sI, x_r_si, x_i_sr, t_r_sI, x_ia_si, x_ia_sI, x_ia_sr, x_ra_si, x_ra_sI, x_ra_sr, g_t22 hs, g_t22 hs, g_r22_0 hs, g_r22_2 hs, g_r22_3 hs, g_r22_5 hs, g_r22_6 hs, g_r22_7 hs, g_r22_8 hs, g_a29 hs, g_r29_0 hs, g_r29_1 hs, g_r29_2 hs, g_r29_3 hs, g_r29_4 hs, g_r29_5 hs, g_a30 hs, g_a31 hs, g_a32 hs, g_a33 hs, g_a34 hs, g_t35 hs, g_t36 hs, g_t37 hs, g_t38 hs, g_t39 hs, g_t40 hs, i0, i1, i2, c0, c1, c2, e, x_si_sI]
/-- behind a law's saying: the names and the stack -/
def WL (w : x_W) (K : Nat) (nm : Nat → Int32) (st : Nat → Nat) (n : Nat) : x_W := x_sI (x_sI w 34 nm) K (stkN nm st (upd (x_i w K) 0 (nI 0)) n)
theorem S81w {a A E K n p e0 e : Nat} {st : Nat → Nat} {nm : Nat → Int32} (hs : Sh w) (hl : LawW w a A E K n) (hp : p < 3) (hP : PartX w A E n p e0 e st) (hW : WfP st (e - e0)) :
    X_R L xs (d + 1) 81 0 [.ref a, .int (nI p), .ref 34, x_junk, x_junk, x_junk] [] (x_sI w 34 nm) Q = Q (some (.int (clI (bndI p) (sayN nm st (e - e0))))) (WL w K nm st (e - e0)) := by
  have hP' : PartX (x_sI w 34 nm) A E n p e0 e st := by
    unfold PartX
    rw [x_i_sIn _ _ _ hl.2.2.1, x_i_sIn _ _ _ hl.2.1]
    exact hP
  have h := S81 (L := L) (xs := xs) (d := d) (w := x_sI w 34 nm) (Q := Q) (a := a) (A := A) (E := E) (K := K) (n := n) (p := p) (e0 := e0) (e := e) (st := st) hs hl.1 hp hP'
  rw [h, x_i_sI, sayN_of (nm' := nm) hW (fun _ _ => rfl), clX_I (bndI_0 p)]
  unfold WL
  rw [x_i_sIn _ _ _ (Ne.symm hl.1.2.2.2.2.2.2.2.2.2.2)]
/-- behind the reference's -/
def WN (w : x_W) (nm : Nat → Int32) (st : Nat → Nat) (n : Nat) : x_W := x_sI (x_sI w 59 nm) 58 (stkN nm st (x_i w 58) n)
theorem S163 {r p s0 e : Nat} {st : Nat → Nat} {a0 a1 a2 a3 a4 a5 : Int32} (hs : Sh w) (hr : x_i w 41 12 = nI r) (hr6 : r < 6) (hp : p < 3) (hP : PartM w r p s0 e st) (hW : WfP st (e - s0)) :
    X_R L xs (d + 2) 163 0 [.ref 41, .int (nI p), .int a0, .int a1, .int a2, .int a3, .int a4, .int a5] [] w Q = Q (some (.int (clI (bndI p) (sayN (set6 (x_i w 59) a0 a1 a2 a3 a4 a5) st (e - s0))))) (WN w (set6 (x_i w 59) a0 a1 a2 a3 a4 a5) st (e - s0)) := by
  have i0 := x_ix_nI (show 0 < 6 by decide) (show 6 < 2 ^ 31 by decide)
  have i1 := x_ix_nI (show 1 < 6 by decide) (show 6 < 2 ^ 31 by decide)
  have i2 := x_ix_nI (show 2 < 6 by decide) (show 6 < 2 ^ 31 by decide)
  have i3 := x_ix_nI (show 3 < 6 by decide) (show 6 < 2 ^ 31 by decide)
  have i4 := x_ix_nI (show 4 < 6 by decide) (show 6 < 2 ^ 31 by decide)
  have i5 := x_ix_nI (show 5 < 6 by decide) (show 6 < 2 ^ 31 by decide)
  have c0 := nI_cl (show 0 < 2 ^ 31 by decide)
  have c1 := nI_cl (show 1 < 2 ^ 31 by decide)
  have c2 := nI_cl (show 2 < 2 ^ 31 by decide)
  have c3 := nI_cl (show 3 < 2 ^ 31 by decide)
  have c4 := nI_cl (show 4 < 2 ^ 31 by decide)
  have c5 := nI_cl (show 5 < 2 ^ 31 by decide)
  have e1 : x_si w 59 0 a0 = x_sI w 59 (upd (x_i w 59) 0 a0) := rfl
  have e6 : upd (upd (upd (upd (upd (upd (x_i w 59) 0 a0) 1 a1) 2 a2) 3 a3) 4 a4) 5 a5 = set6 (x_i w 59) a0 a1 a2 a3 a4 a5 := rfl
  generalize set6 (x_i w 59) a0 a1 a2 a3 a4 a5 = nm at *
  have hr' : x_i (x_sI w 59 nm) 41 12 = nI r := by rw [x_i_sIn _ _ _ (by decide)]; exact hr
  have hP' : PartM (x_sI w 59 nm) r p s0 e st := by
    unfold PartM
    rw [x_i_sIn _ _ _ (show 49 ≠ 59 by decide), x_i_sIn _ _ _ (show 48 ≠ 59 by decide)]
    exact hP
  have h := fun (Q' : Option Value → x_W → Prop) => S164 (L := L) (xs := xs) (d := d) (w := x_sI w 59 nm) (Q := Q') (r := r) (p := p) (s0 := s0) (e := e) (st := st) hs hr' hr6 hp hP'
  rw [x_i_sI, x_i_sIn _ _ _ (show 58 ≠ 59 by decide), sayN_of (nm' := nm) hW (fun _ _ => rfl)] at h
  unfold clI WN
  by_cases h2 : p = 2
  · subst h2
    have eb : bndI 2 = nI 999 := rfl
    rw [eb]
    simp only [X163_0, X163_1, X163_4, X163_5, X163_6, X163_7, X163_8, X163_11, X163_12, X163_13, X163_14, X163_15, X163_18, X163_19, X163_21, X163_22, X163_23, X163_26, X163_27, X163_29, X163_30, X163_31, X163_34, X163_35, X163_37, X163_38, X163_39, X163_42, X163_43, X163_45, X163_46, X163_47, X163_48, X163_51, X163_52, X163_53, X163_54, X163_57, X163_60, X163_63, X163_65, X163_68, Nat.zero_le, and_true, true_and, x_nb0, x_nb1, x_nbp, x_isL_int, x_isL_ref, x_isL_junk, x_isR_ref, x_cat_nil, x_cat_int, x_cat_ref, x_cat_long, Option.toList_some, Option.toList_none, List.cons_append, List.nil_append, Nat.reduceAdd, Nat.reduceLeDiff, Nat.reduceLT, t_tag_si, t_tag_sr, t_tag_sI, x_r_si, x_i_sr, t_r_sI, x_ia_si, x_ia_sI, x_ia_sr, x_ra_si, x_ra_sI, x_ra_sr, g_t41 hs, g_r41_33 hs, g_a59 hs, i0, i1, i2, i3, i4, i5, c0, c1, c2, c3, c4, c5, e1, x_si_sI, e6, h, if_true, S166]
  · have eb : bndI p = nI 99 := if_neg h2
    have hp2 : ¬ nI p = nI 2 := fun q => h2 ((nI_eq (show p < 2 ^ 31 by omega) (by decide)).mp q)
    rw [eb]
    simp only [X163_0, X163_1, X163_4, X163_5, X163_6, X163_7, X163_8, X163_11, X163_12, X163_13, X163_14, X163_15, X163_18, X163_19, X163_21, X163_22, X163_23, X163_26, X163_27, X163_29, X163_30, X163_31, X163_34, X163_35, X163_37, X163_38, X163_39, X163_42, X163_43, X163_45, X163_46, X163_47, X163_48, X163_51, X163_52, X163_53, X163_54, X163_57, X163_60, X163_63, X163_65, X163_68, Nat.zero_le, and_true, true_and, x_nb0, x_nb1, x_nbp, x_isL_int, x_isL_ref, x_isL_junk, x_isR_ref, x_cat_nil, x_cat_int, x_cat_ref, x_cat_long, Option.toList_some, Option.toList_none, List.cons_append, List.nil_append, Nat.reduceAdd, Nat.reduceLeDiff, Nat.reduceLT, t_tag_si, t_tag_sr, t_tag_sI, x_r_si, x_i_sr, t_r_sI, x_ia_si, x_ia_sI, x_ia_sr, x_ra_si, x_ra_sI, x_ra_sr, g_t41 hs, g_r41_33 hs, g_a59 hs, i0, i1, i2, i3, i4, i5, c0, c1, c2, c3, c4, c5, e1, x_si_sI, e6, h, hp2, if_false, S166]
theorem kn3_of {a : Int32} (h : nI 0 ≤ a ∧ a ≤ nI 2) : ∃ i, i < 3 ∧ a = nI i := by
  obtain ⟨j, hj, e⟩ := nI_of2 (x := a) (M := nI 2) (n := 2) rfl (by have := h.1; rw [nI_0] at this; exact Int32.not_lt.mpr this) h.2
  exact ⟨j, by omega, e⟩
end S57
