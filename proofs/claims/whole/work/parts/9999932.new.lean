/-! ===== new cells ===== -/
theorem len_si (w : x_W) (a k : Nat) (v : Int32) : (x_si w a k v).1.length = w.1.length := Eq.trans rfl rfl
theorem len_sr (w : x_W) (a k : Nat) (v : Value) : (x_sr w a k v).1.length = w.1.length := Eq.trans rfl rfl
theorem len_sI (w : x_W) (a : Nat) (f : Nat → Int32) : (x_sI w a f).1.length = w.1.length := Eq.trans rfl rfl
theorem tg_new (w : x_W) (t : Nat × Nat) (f : Nat → Int32) (a : Nat) : x_tag (x_new w t f) a = if a = w.1.length then some t else x_tag w a := by
  by_cases h : a = w.1.length
  · rw [if_pos h, nw_tn h]
  · rw [if_neg h]
    by_cases h2 : a < w.1.length
    · exact nw_t h2
    · show (w.1 ++ [t])[a]? = w.1[a]?
      have h3 : (w.1 ++ [t]).length = w.1.length + 1 := List.length_append
      rw [List.getElem?_eq_none (by omega), List.getElem?_eq_none (by omega)]
theorem xr_new (w : x_W) (t : Nat × Nat) (f : Nat → Int32) (b : Nat) : x_r (x_new w t f) b = if b = w.1.length then (fun _ => .null) else x_r w b := Eq.trans rfl rfl
theorem xi_new (w : x_W) (t : Nat × Nat) (f : Nat → Int32) (b : Nat) : x_i (x_new w t f) b = if b = w.1.length then f else x_i w b := Eq.trans rfl rfl
theorem xr_sr (w : x_W) (a k : Nat) (v : Value) (b j : Nat) : x_r (x_sr w a k v) b j = if b = a ∧ j = k then v else x_r w b j := by
  by_cases h : b = a
  · subst h
    by_cases h2 : j = k
    · rw [if_pos ⟨rfl, h2⟩, h2, x_r_sr]
    · rw [if_neg (fun z => h2 z.2), x_r_srk _ _ _ _ h2]
  · rw [if_neg (fun z => h z.1), x_r_srn _ _ _ _ h]
theorem xi_si (w : x_W) (a k : Nat) (v : Int32) (b j : Nat) : x_i (x_si w a k v) b j = if b = a ∧ j = k then v else x_i w b j := by
  by_cases h : b = a
  · subst h
    by_cases h2 : j = k
    · rw [if_pos ⟨rfl, h2⟩, h2, si_s]
    · rw [if_neg (fun z => h2 z.2), si_o h2]
  · rw [if_neg (fun z => h z.1), x_i_sin _ _ _ _ h]
theorem lD {a b : Nat} (ha : a < 2 ^ 31) (hb : b < 2 ^ 31) : (nI a ≤ nI b) = (a ≤ b) := by
  by_cases h : a ≤ b
  · rw [nI_leT h hb, eq_true h]
  · rw [nI_leF (Nat.not_le.mp h) ha, eq_false h]
theorem ltD {a b : Nat} (ha : a < 2 ^ 31) (hb : b < 2 ^ 31) : (nI a < nI b) = (a < b) := by
  by_cases h : a < b
  · rw [nI_ltT h hb, eq_true h]
  · rw [nI_ltF (Nat.not_lt.mp h) ha, eq_false h]
theorem nI_n0 {k : Nat} (h : k < 2 ^ 31) : (nI k < 0) = False := nI_ltF (b := 0) (Nat.zero_le k) h
section S9999932
variable {L : Nat} {xs : Nat → Int32} {d : Nat} {w : x_W} {Q : Option Value → x_W → Prop}
theorem S100 {a : Nat} (ht : x_tag w a = some (0, 4)) (hl : w.1.length ≤ 890) : X_R L xs d 100 0 [.ref a] [] w Q = Q none (x_sr (x_new (x_si (x_si w a 0 (-1)) a 1 (nI 0)) (1, 40) (fun _ => 0)) a 2 (.ref w.1.length)) := by
  have ne : ¬ a = w.1.length := by
    intro z
    have h2 : w.1[a]? = none := List.getElem?_eq_none (by omega)
    have h3 : w.1[a]? = some (0, 4) := ht
    rw [h2] at h3
    cases h3
  have h899 : w.1.length ≤ 899 := by omega
  simp only [X100_0, X100_1, X100_4, X100_5, X100_6, X100_9, X100_10, X100_11, X100_14, X100_15, X100_17, X100_19, X100_22, Nat.zero_le, and_true, true_and, x_nb0, x_nb1, x_nbp, x_isL_int, x_isL_ref, x_isL_junk, x_isR_ref, x_cat_nil, x_cat_int, x_cat_ref, x_cat_long, Option.toList_some, Option.toList_none, List.cons_append, List.nil_append, Nat.reduceAdd, Nat.reduceLeDiff, Nat.reduceLT, t_tag_si, t_tag_sr, t_tag_sI, x_r_si, x_i_sr, t_r_sI, x_ia_si, x_ia_sI, x_ia_sr, x_ra_si, x_ra_sI, x_ra_sr, nw_len, len_si, len_sr, len_sI, tg_new, xr_new, xr_sr, xi_new, xi_si, nI_cl, lD, ltD, nI_n0, Nat.reduceEqDiff, Nat.reducePow, if_true, if_false, and_false, false_and, and_self, or_false, false_or, not_false_eq_true, not_true_eq_false, ne_eq, ht, ne, h899]
theorem S105 {a : Nat} (ht : x_tag w a = some (0, 5)) : X_R L xs d 105 0 [.ref a] [] w Q = Q none (x_si (x_si (x_si (x_si (x_si w a 0 (nI 0)) a 1 (nI 0)) a 2 (nI 0)) a 3 (nI 0)) a 4 (nI 0)) := by
  simp only [X105_0, X105_1, X105_4, X105_5, X105_6, X105_9, X105_10, X105_11, X105_14, X105_15, X105_16, X105_19, X105_20, X105_21, X105_24, X105_25, X105_26, X105_29, Nat.zero_le, and_true, true_and, x_nb0, x_nb1, x_nbp, x_isL_int, x_isL_ref, x_isL_junk, x_isR_ref, x_cat_nil, x_cat_int, x_cat_ref, x_cat_long, Option.toList_some, Option.toList_none, List.cons_append, List.nil_append, Nat.reduceAdd, Nat.reduceLeDiff, Nat.reduceLT, t_tag_si, t_tag_sr, t_tag_sI, x_r_si, x_i_sr, t_r_sI, x_ia_si, x_ia_sI, x_ia_sr, x_ra_si, x_ra_sI, x_ra_sr, nw_len, len_si, len_sr, len_sI, tg_new, xr_new, xr_sr, xi_new, xi_si, nI_cl, lD, ltD, nI_n0, Nat.reduceEqDiff, Nat.reducePow, if_true, if_false, and_false, false_and, and_self, or_false, false_or, not_false_eq_true, not_true_eq_false, ne_eq, ht]
/-- a sheet is made -/
theorem S1s {s : Nat} (hs : s < 4) (hl : w.1.length = 14 + 2 * s) (t0 : x_tag w 0 = some (0, 7)) (t6 : x_tag w 6 = some (3, 4)) (r06 : x_r w 0 6 = .ref 6) : X_R L xs (d + 1) 1 129 [.ref 0, .ref 10, .int (nI s)] [] w Q = X_R L xs (d + 1) 1 129 [.ref 0, .ref 10, .int (nI (s + 1))] [] (x_sr (x_sr (x_new (x_si (x_si (x_new w (0, 4) (fun _ => 0)) (14 + 2 * s) 0 (-1)) (14 + 2 * s) 1 (nI 0)) (1, 40) (fun _ => 0)) (14 + 2 * s) 2 (.ref (14 + 2 * s + 1))) 6 s (.ref (14 + 2 * s))) Q := by
  have tx := x_ix_nI hs (show 4 < 2 ^ 31 by decide)
  have tc := nI_cl (show s < 2 ^ 31 by omega)
  have h899 : 14 + 2 * s ≤ 899 := by omega
  have ln : (x_new w (0, 4) (fun _ => 0)).1.length = 14 + 2 * s + 1 := by rw [nw_len, hl]
  have tn : x_tag (x_new w (0, 4) (fun _ => 0)) (14 + 2 * s) = some (0, 4) := nw_tn hl.symm
  have e100 := fun (Q' : Option Value → x_W → Prop) => S100 (L := L) (xs := xs) (d := d) (w := x_new w (0, 4) (fun _ => 0)) (a := 14 + 2 * s) (Q := Q') tn (by rw [ln]; omega)
  rw [ln] at e100
  generalize hw : x_sr (x_new (x_si (x_si (x_new w (0, 4) (fun _ => 0)) (14 + 2 * s) 0 (-1)) (14 + 2 * s) 1 (nI 0)) (1, 40) (fun _ => 0)) (14 + 2 * s) 2 (.ref (14 + 2 * s + 1)) = w1 at *
  have t61 : x_tag w1 6 = some (3, 4) := by
    rw [← hw]
    show x_tag (x_new (x_new w (0, 4) (fun _ => 0)) (1, 40) (fun _ => 0)) 6 = _
    rw [nw_t (by rw [ln]; omega), nw_t (by omega)]
    exact t6
  have tN1 : x_tag w1 (14 + 2 * s) = some (0, 4) := by
    rw [← hw]
    show x_tag (x_new (x_new w (0, 4) (fun _ => 0)) (1, 40) (fun _ => 0)) (14 + 2 * s) = _
    rw [nw_t (by rw [ln]; omega)]
    exact tn
  have tk : x_tk w1 6 = 3 := by unfold x_tk; rw [t61]; rfl
  have hra : x_ra w1 6 (nI s) := by rw [x_ra_eq (t := 1) t61 (by decide)]; exact tx
  have h146 := fun (Q' : Option Value → x_W → Prop) (al st : List Value) => X1_146 (L := L) (xs := xs) (d := d + 1) (al := al) (st := st) (w := w1) (Q := Q') (a := 6) (b := 14 + 2 * s) (i := nI s) hra (by rw [tk]; exact tN1)
  rw [tc] at h146
  rw [X1_129]
  simp only [X1_130, X1_131, X1_134, X1_135, X1_138, X1_139, X1_142i, X1_142, X1_143, X1_147, X1_150, Nat.zero_le, and_true, true_and, x_nb0, x_nb1, x_nbp, x_isL_int, x_isL_ref, x_isL_junk, x_isR_ref, x_cat_nil, x_cat_int, x_cat_ref, x_cat_long, Option.toList_some, Option.toList_none, List.cons_append, List.nil_append, Nat.reduceAdd, Nat.reduceLeDiff, Nat.reduceLT, t_tag_si, t_tag_sr, t_tag_sI, x_r_si, x_i_sr, t_r_sI, x_ia_si, x_ia_sI, x_ia_sr, x_ra_si, x_ra_sI, x_ra_sr, nI_leF hs (show 4 < 2 ^ 31 by decide), if_false, t0, r06, hl, h899, tn, e100, h146, nI_add]
/-- a sleeper is made -/
theorem S51s {s : Nat} (hs : s < 6) (hl : w.1.length = 35 + s) (t22 : x_tag w 22 = some (0, 0)) (t29 : x_tag w 29 = some (4, 6)) (r2 : x_r w 22 2 = .ref 29) (v : Value) (hv : x_isL v = false) : X_R L xs (d + 1) 51 76 [.ref 22, v, .int (nI s)] [] w Q = X_R L xs (d + 1) 51 76 [.ref 22, v, .int (nI (s + 1))] [] (x_sr (x_si (x_si (x_si (x_si (x_si (x_new w (0, 5) (fun _ => 0)) (35 + s) 0 (nI 0)) (35 + s) 1 (nI 0)) (35 + s) 2 (nI 0)) (35 + s) 3 (nI 0)) (35 + s) 4 (nI 0)) 29 s (.ref (35 + s))) Q := by
  have tx := x_ix_nI hs (show 6 < 2 ^ 31 by decide)
  have tc := nI_cl (show s < 2 ^ 31 by omega)
  have h899 : 35 + s ≤ 899 := by omega
  have tn : x_tag (x_new w (0, 5) (fun _ => 0)) (35 + s) = some (0, 5) := nw_tn hl.symm
  have e105 := fun (Q' : Option Value → x_W → Prop) => S105 (L := L) (xs := xs) (d := d) (w := x_new w (0, 5) (fun _ => 0)) (a := 35 + s) (Q := Q') tn
  generalize hw : x_si (x_si (x_si (x_si (x_si (x_new w (0, 5) (fun _ => 0)) (35 + s) 0 (nI 0)) (35 + s) 1 (nI 0)) (35 + s) 2 (nI 0)) (35 + s) 3 (nI 0)) (35 + s) 4 (nI 0) = w1 at *
  have t291 : x_tag w1 29 = some (4, 6) := by
    rw [← hw]
    show x_tag (x_new w (0, 5) (fun _ => 0)) 29 = _
    rw [nw_t (by omega)]
    exact t29
  have tN1 : x_tag w1 (35 + s) = some (0, 5) := by rw [← hw]; exact tn
  have tk : x_tk w1 29 = 4 := by unfold x_tk; rw [t291]; rfl
  have hra : x_ra w1 29 (nI s) := by rw [x_ra_eq (t := 2) t291 (by decide)]; exact tx
  have h94 := fun (Q' : Option Value → x_W → Prop) (al st : List Value) => X51_94 (L := L) (xs := xs) (d := d + 1) (al := al) (st := st) (w := w1) (Q := Q') (a := 29) (b := 35 + s) (i := nI s) hra (by rw [tk]; exact tN1)
  rw [tc] at h94
  rw [X51_76]
  simp only [X51_77, X51_79, X51_82, X51_83, X51_86, X51_87, X51_90i, X51_90, X51_91, X51_95, X51_98, Nat.zero_le, and_true, true_and, x_nb0, x_nb1, x_nbp, x_isL_int, x_isL_ref, x_isL_junk, x_isR_ref, x_cat_nil, x_cat_int, x_cat_ref, x_cat_long, Option.toList_some, Option.toList_none, List.cons_append, List.nil_append, Nat.reduceAdd, Nat.reduceLeDiff, Nat.reduceLT, t_tag_si, t_tag_sr, t_tag_sI, x_r_si, x_i_sr, t_r_sI, x_ia_si, x_ia_sI, x_ia_sr, x_ra_si, x_ra_sI, x_ra_sr, hv, nI_leF hs (show 6 < 2 ^ 31 by decide), if_false, t22, r2, hl, h899, tn, e105, h94, nI_add]
/-- the law is put into all six places -/
theorem S1t : ∀ n j, j + n = 6 → ∀ w, x_tag w 0 = some (0, 7) → x_tag w 5 = some (2, 6) → x_tag w 10 = some (0, 2) → x_r w 0 1 = .ref 5 → (j = 0 ∨ x_r w 5 0 = .ref 10) → ∃ w', w'.1 = w.1 ∧ w'.2.1 = w.2.1 ∧ (∀ b, b ≠ 5 → x_r w' b = x_r w b) ∧ x_r w' 5 0 = .ref 10 ∧ ∀ Q, X_R L xs (d + 1) 1 108 [.ref 0, .ref 10, .int (nI j)] [] w Q = X_R L xs (d + 1) 1 127 [.ref 0, .ref 10, .int (nI 6)] [] w' Q := by
  intro n
  induction n with
  | zero =>
    intro j hj w t0 t5 t10 r01 h0
    obtain rfl : j = 6 := by omega
    refine ⟨w, rfl, rfl, fun _ _ => rfl, h0.resolve_left (by decide), fun Q => ?_⟩
    rw [X1_108]
    simp only [X1_109, X1_111, Nat.zero_le, and_true, true_and, x_nb0, x_nb1, x_nbp, x_isL_int, x_isL_ref, x_isL_junk, x_isR_ref, x_cat_nil, x_cat_int, x_cat_ref, x_cat_long, Option.toList_some, Option.toList_none, List.cons_append, List.nil_append, Nat.reduceAdd, Nat.reduceLeDiff, Nat.reduceLT, t_tag_si, t_tag_sr, t_tag_sI, x_r_si, x_i_sr, t_r_sI, x_ia_si, x_ia_sI, x_ia_sr, x_ra_si, x_ra_sI, x_ra_sr, nI_leT (Nat.le_refl 6) (show 6 < 2 ^ 31 by decide), if_true]
  | succ n ih =>
    intro j hj w t0 t5 t10 r01 h0
    have tx := x_ix_nI (show j < 6 by omega) (show 6 < 2 ^ 31 by decide)
    have tc := nI_cl (show j < 2 ^ 31 by omega)
    have tk : x_tk w 5 = 2 := by unfold x_tk; rw [t5]; rfl
    have hra : x_ra w 5 (nI j) := by rw [x_ra_eq (t := 0) t5 (by decide)]; exact tx
    have h120 := fun (Q' : Option Value → x_W → Prop) (al st : List Value) => X1_120 (L := L) (xs := xs) (d := d + 1) (al := al) (st := st) (w := w) (Q := Q') (a := 5) (b := 10) (i := nI j) hra (by rw [tk]; exact t10)
    rw [tc] at h120
    obtain ⟨w', q1, q2, q3, q4, q5⟩ := ih (j + 1) (by omega) (x_sr w 5 j (.ref 10)) t0 t5 t10 (by rw [xr_sr]; exact r01) (by
      refine Or.inr ?_
      rw [xr_sr]
      by_cases z : j = 0
      · rw [if_pos ⟨rfl, z.symm⟩]
      · rw [if_neg (fun q => z q.2.symm)]; exact h0.resolve_left z)
    refine ⟨w', q1, q2, fun b hb => (q3 b hb).trans (x_r_srn _ _ _ _ hb), q4, fun Q => ?_⟩
    rw [← q5 Q, X1_108]
    simp only [X1_109, X1_111, X1_114, X1_115, X1_118, X1_119, X1_121, X1_124, Nat.zero_le, and_true, true_and, x_nb0, x_nb1, x_nbp, x_isL_int, x_isL_ref, x_isL_junk, x_isR_ref, x_cat_nil, x_cat_int, x_cat_ref, x_cat_long, Option.toList_some, Option.toList_none, List.cons_append, List.nil_append, Nat.reduceAdd, Nat.reduceLeDiff, Nat.reduceLT, t_tag_si, t_tag_sr, t_tag_sI, x_r_si, x_i_sr, t_r_sI, x_ia_si, x_ia_sI, x_ia_sr, x_ra_si, x_ra_sI, x_ra_sr, nI_leF (show j < 6 by omega) (show 6 < 2 ^ 31 by decide), if_false, t0, r01, h120, nI_add]
end S9999932
