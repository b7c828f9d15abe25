/-! ===== told depths: judge, where ===== -/
/-- sheets alike on both sides: sorts so, sizes sz -/
def SHT (w : x_W) (so : Nat → Int32) (sz : Nat → Nat) : Prop := ∀ s, s < 4 → (x_i w (14 + 2 * s) 0 = so s ∧ x_i w (14 + 2 * s) 1 = nI (sz s) ∧ x_i w 52 s = so s ∧ x_i w 53 s = nI (sz s)) ∧ sz s ≤ 40 ∧ (so s = -1 ∨ so s = nI 0 ∨ so s = nI 1 ∨ so s = nI 2) ∧ ∀ k, k < 40 → x_i w (15 + 2 * s) k = x_i w 54 (40 * s + k)
theorem four {p : Nat → Prop} (h : p 0 ∧ p 1 ∧ p 2 ∧ p 3) : ∀ s, s < 4 → p s := by
  intro s hs
  rcases (by omega : s = 0 ∨ s = 1 ∨ s = 2 ∨ s = 3) with rfl | rfl | rfl | rfl
  · exact h.1
  · exact h.2.1
  · exact h.2.2.1
  · exact h.2.2.2
theorem g_sh {w : x_W} (hs : Sh w) : ∀ s, s < 4 → x_r w 6 s = .ref (14 + 2 * s) ∧ x_tag w (14 + 2 * s) = some (0, 4) ∧ x_r w (14 + 2 * s) 2 = .ref (15 + 2 * s) ∧ ∀ i, x_ia w (15 + 2 * s) i = x_ix i 40 := four ⟨⟨g_r6_0 hs, g_t14 hs, g_r14_2 hs, g_a15 hs⟩, ⟨g_r6_1 hs, g_t16 hs, g_r16_2 hs, g_a17 hs⟩, ⟨g_r6_2 hs, g_t18 hs, g_r18_2 hs, g_a19 hs⟩, ⟨g_r6_3 hs, g_t20 hs, g_r20_2 hs, g_a21 hs⟩⟩
theorem SHT.gen {P : Nat → Nat → Bool} {w w' : x_W} {so : Nat → Int32} {sz : Nat → Nat} (h : SHT w so sz) (hc : Ch P w w') (h1 : ∀ s, s < 4 → ∀ k, P (14 + 2 * s) k = false ∧ P (15 + 2 * s) k = false) (h2 : ∀ k, P 52 k = false ∧ P 53 k = false ∧ P 54 k = false) : SHT w' so sz := by
  intro s hs
  rw [hc.i (fun k => (h1 s hs k).1), hc.i (fun k => (h1 s hs k).2), hc.i (fun k => (h2 k).1), hc.i (fun k => (h2 k).2.1), hc.i (fun k => (h2 k).2.2)]
  exact h s hs
theorem SHT.ch {w w' : x_W} {so : Nat → Int32} {sz : Nat → Nat} (h : SHT w so sz) (hc : ChA w w') : SHT w' so sz := h.gen hc (four ⟨fun _ => ⟨rfl, rfl⟩, fun _ => ⟨rfl, rfl⟩, fun _ => ⟨rfl, rfl⟩, fun _ => ⟨rfl, rfl⟩⟩) (fun _ => ⟨rfl, rfl, rfl⟩)
abbrev shn (v : Int32) : Prop := nI 0 ≤ v ∧ v ≤ nI 3
theorem sh_of {v : Int32} (h : shn v) : ∃ s, s < 4 ∧ v = nI s := by
  obtain ⟨j, hj, e⟩ := nI_of2 (n := 3) (M := nI 3) rfl (Int32.not_lt.mpr h.1) h.2
  exact ⟨j, by omega, e⟩
theorem sh_nI {s : Nat} (h : s < 4) : shn (nI s) := ⟨nI_le (Nat.zero_le _) (by omega), nI_le (by omega) (by decide)⟩
def fdN (c : Nat → Int32) (p : Nat → Nat) : Nat → Nat → Int32
  | 0, _ => -1
  | n + 1, k => if c k = nI (p k) then fdN c p n (k + 1) else nI k
theorem fdN_cg {c c' : Nat → Int32} {p p' : Nat → Nat} : ∀ n k, k + n = 20 → (∀ k, k < 20 → c k = c' k) → (∀ k, k < 20 → p k = p' k) → fdN c p n k = fdN c' p' n k := by
  intro n
  induction n with
  | zero => intro k _ _ _; rfl
  | succ n ih =>
    intro k hk hc hp
    unfold fdN
    rw [hc k (by omega), hp k (by omega), ih (k + 1) (by omega) hc hp]
def refD (so : Nat → Int32) (sz : Nat → Nat) (s : Nat) : Int32 := if so s = -1 then -11 else if sz s = 20 then nI 0 else -2
section S97
variable {L : Nat} {xs : Nat → Int32} {d : Nat} {w w' : x_W} {S : Nat} {kd td mo kt tl : Nat → Nat} {tk : Nat → Nat → Nat} {so : Nat → Int32} {sz : Nat → Nat}
theorem S36' (hs : Sh w) (h : SHT w so sz) {s : Nat} (h4 : s < 4) {Q : Option Value → x_W → Prop} : X_R L xs (d + 3) 36 0 [.ref 0, .int (nI s)] [] w Q = Q (some (.int (refD so sz s))) w := by
  have e37 := fun (Q' : Option Value → x_W → Prop) => S37 (L := L) (xs := xs) (d := d + 1) (w := w) (v := nI s) (Q := Q')
  have hb : bI (nI 0 ≤ nI s ∧ nI s ≤ nI 3) = nI 1 := bI_s (sh_nI h4)
  obtain ⟨r1, r2, r3, r4⟩ := g_sh hs s h4
  obtain ⟨⟨q1, q2, q3, q4⟩, z40, _, _⟩ := h s h4
  have sx := x_ix_nI h4 (show 4 < 2 ^ 31 by decide)
  have sc' := nI_cl (show s < 2 ^ 31 by omega)
  unfold refD
  by_cases h1 : so s = -1
  · simp only [X36_0, X36_1, X36_4, X36_7, X36_9, X36_10, X36_11, X36_14, X36_15, X36_16, X36_19, X36_20, X36_23, X36_25, X36_26, X36_27, X36_30, X36_31, X36_32, X36_35, X36_37, X36_40, X36_42, X36_45, X36_46, Nat.zero_le, and_true, true_and, x_nb0, x_nb1, x_nbp, x_isL_int, x_isL_ref, x_isL_junk, x_isR_ref, x_cat_nil, x_cat_int, x_cat_ref, x_cat_long, Option.toList_some, Option.toList_none, List.cons_append, List.nil_append, Nat.reduceAdd, Nat.reduceLeDiff, Nat.reduceLT, t_tag_si, t_tag_sr, t_tag_sI, x_r_si, x_i_sr, t_r_sI, x_ia_si, x_ia_sI, x_ia_sr, x_ra_si, x_ra_sI, x_ra_sr, e37, hb, n10, if_false, g_t0 hs, g_r0_6 hs, g_a6 hs, sx, sc', r1, r2, q1, h1, if_true]
  · by_cases h2 : sz s = 20
    · simp only [X36_0, X36_1, X36_4, X36_7, X36_9, X36_10, X36_11, X36_14, X36_15, X36_16, X36_19, X36_20, X36_23, X36_25, X36_26, X36_27, X36_30, X36_31, X36_32, X36_35, X36_37, X36_40, X36_42, X36_45, X36_46, Nat.zero_le, and_true, true_and, x_nb0, x_nb1, x_nbp, x_isL_int, x_isL_ref, x_isL_junk, x_isR_ref, x_cat_nil, x_cat_int, x_cat_ref, x_cat_long, Option.toList_some, Option.toList_none, List.cons_append, List.nil_append, Nat.reduceAdd, Nat.reduceLeDiff, Nat.reduceLT, t_tag_si, t_tag_sr, t_tag_sI, x_r_si, x_i_sr, t_r_sI, x_ia_si, x_ia_sI, x_ia_sr, x_ra_si, x_ra_sI, x_ra_sr, e37, hb, n10, if_false, g_t0 hs, g_r0_6 hs, g_a6 hs, sx, sc', r1, r2, q1, q2, h1, h2, if_true]
    · simp only [X36_0, X36_1, X36_4, X36_7, X36_9, X36_10, X36_11, X36_14, X36_15, X36_16, X36_19, X36_20, X36_23, X36_25, X36_26, X36_27, X36_30, X36_31, X36_32, X36_35, X36_37, X36_40, X36_42, X36_45, X36_46, Nat.zero_le, and_true, true_and, x_nb0, x_nb1, x_nbp, x_isL_int, x_isL_ref, x_isL_junk, x_isR_ref, x_cat_nil, x_cat_int, x_cat_ref, x_cat_long, Option.toList_some, Option.toList_none, List.cons_append, List.nil_append, Nat.reduceAdd, Nat.reduceLeDiff, Nat.reduceLT, t_tag_si, t_tag_sr, t_tag_sI, x_r_si, x_i_sr, t_r_sI, x_ia_si, x_ia_sI, x_ia_sr, x_ra_si, x_ra_sI, x_ra_sr, e37, hb, n10, if_false, g_t0 hs, g_r0_6 hs, g_a6 hs, sx, sc', r1, r2, q1, q2, h1, h2, nI_eqF h2 (show sz s < 2 ^ 31 by omega) (show 20 < 2 ^ 31 by decide)]
theorem S36n {v : Int32} (h : ¬ shn v) {Q : Option Value → x_W → Prop} : X_R L xs (d + 3) 36 0 [.ref 0, .int v] [] w Q = Q (some (.int (-2))) w := by
  simp only [X36_0, X36_1, X36_4, X36_7, X36_9, Nat.zero_le, and_true, true_and, x_nb0, x_nb1, x_nbp, x_isL_int, x_isL_ref, x_isL_junk, x_isR_ref, x_cat_nil, x_cat_int, x_cat_ref, x_cat_long, Option.toList_some, Option.toList_none, List.cons_append, List.nil_append, Nat.reduceAdd, Nat.reduceLeDiff, Nat.reduceLT, t_tag_si, t_tag_sr, t_tag_sI, x_r_si, x_i_sr, t_r_sI, x_ia_si, x_ia_sI, x_ia_sr, x_ra_si, x_ra_sI, x_ra_sr, S37, bI_f h, if_true]
theorem S216 (hs : Sh w) (h : SHT w so sz) {s : Nat} (h4 : s < 4) {Q : Option Value → x_W → Prop} : X_R L xs (d + 3) 216 0 [.ref 41, .int (nI s)] [] w Q = Q (some (.int (refD so sz s))) w := by
  have hb : bI (nI 0 ≤ nI s ∧ nI s ≤ nI 3) = nI 1 := bI_s (sh_nI h4)
  obtain ⟨⟨q1, q2, q3, q4⟩, z40, _, _⟩ := h s h4
  have sx := x_ix_nI h4 (show 4 < 2 ^ 31 by decide)
  have sc' := nI_cl (show s < 2 ^ 31 by omega)
  unfold refD
  by_cases h1 : so s = -1
  · simp only [X216_0, X216_1, X216_2, X216_3, X216_6, X216_9, X216_11, X216_12, X216_13, X216_16, X216_17, X216_18, X216_19, X216_22, X216_24, X216_25, X216_26, X216_29, X216_30, X216_31, X216_33, X216_36, X216_37, X216_40, X216_42, Nat.zero_le, and_true, true_and, x_nb0, x_nb1, x_nbp, x_isL_int, x_isL_ref, x_isL_junk, x_isR_ref, x_cat_nil, x_cat_int, x_cat_ref, x_cat_long, Option.toList_some, Option.toList_none, List.cons_append, List.nil_append, Nat.reduceAdd, Nat.reduceLeDiff, Nat.reduceLT, t_tag_si, t_tag_sr, t_tag_sI, x_r_si, x_i_sr, t_r_sI, x_ia_si, x_ia_sI, x_ia_sr, x_ra_si, x_ra_sI, x_ra_sr, S138, hb, n10, if_false, g_t41 hs, g_r41_19 hs, g_a52 hs, sx, sc', q3, h1, if_true]
  · by_cases h2 : sz s = 20
    · simp only [X216_0, X216_1, X216_2, X216_3, X216_6, X216_9, X216_11, X216_12, X216_13, X216_16, X216_17, X216_18, X216_19, X216_22, X216_24, X216_25, X216_26, X216_29, X216_30, X216_31, X216_33, X216_36, X216_37, X216_40, X216_42, Nat.zero_le, and_true, true_and, x_nb0, x_nb1, x_nbp, x_isL_int, x_isL_ref, x_isL_junk, x_isR_ref, x_cat_nil, x_cat_int, x_cat_ref, x_cat_long, Option.toList_some, Option.toList_none, List.cons_append, List.nil_append, Nat.reduceAdd, Nat.reduceLeDiff, Nat.reduceLT, t_tag_si, t_tag_sr, t_tag_sI, x_r_si, x_i_sr, t_r_sI, x_ia_si, x_ia_sI, x_ia_sr, x_ra_si, x_ra_sI, x_ra_sr, S138, hb, n10, if_false, g_t41 hs, g_r41_19 hs, g_a52 hs, g_r41_20 hs, g_a53 hs, sx, sc', q3, q4, h1, h2, if_true]
    · simp only [X216_0, X216_1, X216_2, X216_3, X216_6, X216_9, X216_11, X216_12, X216_13, X216_16, X216_17, X216_18, X216_19, X216_22, X216_24, X216_25, X216_26, X216_29, X216_30, X216_31, X216_33, X216_36, X216_37, X216_40, X216_42, Nat.zero_le, and_true, true_and, x_nb0, x_nb1, x_nbp, x_isL_int, x_isL_ref, x_isL_junk, x_isR_ref, x_cat_nil, x_cat_int, x_cat_ref, x_cat_long, Option.toList_some, Option.toList_none, List.cons_append, List.nil_append, Nat.reduceAdd, Nat.reduceLeDiff, Nat.reduceLT, t_tag_si, t_tag_sr, t_tag_sI, x_r_si, x_i_sr, t_r_sI, x_ia_si, x_ia_sI, x_ia_sr, x_ra_si, x_ra_sI, x_ra_sr, S138, hb, n10, if_false, g_t41 hs, g_r41_19 hs, g_a52 hs, g_r41_20 hs, g_a53 hs, sx, sc', q3, q4, h1, h2, nI_eqF h2 (show sz s < 2 ^ 31 by omega) (show 20 < 2 ^ 31 by decide)]
theorem S216n {v : Int32} (h : ¬ shn v) {Q : Option Value → x_W → Prop} : X_R L xs (d + 3) 216 0 [.ref 41, .int v] [] w Q = Q (some (.int (-2))) w := by
  simp only [X216_0, X216_1, X216_2, X216_3, X216_6, X216_9, X216_11, Nat.zero_le, and_true, true_and, x_nb0, x_nb1, x_nbp, x_isL_int, x_isL_ref, x_isL_junk, x_isR_ref, x_cat_nil, x_cat_int, x_cat_ref, x_cat_long, Option.toList_some, Option.toList_none, List.cons_append, List.nil_append, Nat.reduceAdd, Nat.reduceLeDiff, Nat.reduceLT, t_tag_si, t_tag_sr, t_tag_sI, x_r_si, x_i_sr, t_r_sI, x_ia_si, x_ia_sI, x_ia_sr, x_ra_si, x_ra_sI, x_ra_sr, S138, bI_f h, if_true]
theorem S38 (h : CX w S kd td mo kt) {s : Nat} (h4 : s < 4) : ∃ w2, Ch (sm [25, 26, 27]) w w2 ∧ ∀ Q, X_R L xs (d + 4) 38 0 [.ref 0, .ref (14 + 2 * s), x_junk] [] w Q = Q (some (.int (fdN (x_i w (15 + 2 * s)) (XD w (XL S kd td mo kt) 12) 20 0))) w2 := by
  have hs := h.sh
  have e56 := fun (Q' : Option Value → x_W → Prop) => S56' (L := L) (xs := xs) (d := d) (Q := Q') h
  have c1 : Ch (sm [25, 26, 27]) w (WXs w (XL S kd td mo kt)) := Ch_WX
  have h26 : ∀ k, k < 20 → x_i (WXs w (XL S kd td mo kt)) 26 k = nI (XD w (XL S kd td mo kt) 12 k) := fun k hk => WX_26 _ _ _ _ hk
  have hsd := c1.sd h.sd
  generalize hW : WXs w (XL S kd td mo kt) = w2 at *
  have hs2 := c1.sh hs
  obtain ⟨r1, r2, r3, r4⟩ := g_sh hs2 s h4
  have e15 : x_i w2 (15 + 2 * s) = x_i w (15 + 2 * s) := c1.i (four (p := fun s => ∀ k, sm [25, 26, 27] (15 + 2 * s) k = false) ⟨fun _ => rfl, fun _ => rfl, fun _ => rfl, fun _ => rfl⟩ s h4)
  have loop : ∀ n j, j + n = 20 → ∀ Q, X_R L xs (d + 4) 38 9 [.ref 0, .ref (14 + 2 * s), .int (nI j)] [] w2 Q = Q (some (.int (fdN (x_i w (15 + 2 * s)) (XD w (XL S kd td mo kt) 12) n j))) w2 := by
    intro n
    induction n with
    | zero =>
      intro j hj Q
      obtain rfl : j = 20 := by omega
      rw [X38_9]
      simp only [X38_10, X38_12, X38_41, X38_42, Nat.zero_le, and_true, true_and, x_nb0, x_nb1, x_nbp, x_isL_int, x_isL_ref, x_isL_junk, x_isR_ref, x_cat_nil, x_cat_int, x_cat_ref, x_cat_long, Option.toList_some, Option.toList_none, List.cons_append, List.nil_append, Nat.reduceAdd, Nat.reduceLeDiff, Nat.reduceLT, t_tag_si, t_tag_sr, t_tag_sI, x_r_si, x_i_sr, t_r_sI, x_ia_si, x_ia_sI, x_ia_sr, x_ra_si, x_ra_sI, x_ra_sr, nI_leT (Nat.le_refl 20) (show 20 < 2 ^ 31 by decide), if_true, fdN]
    | succ n ih =>
      intro j hj Q
      have jx := x_ix_nI (show j < 20 by omega) (show 20 < 2 ^ 31 by decide)
      have jx4 := x_ix_nI (show j < 40 by omega) (show 40 < 2 ^ 31 by decide)
      have jc := nI_cl (show j < 2 ^ 31 by omega)
      unfold fdN
      rw [X38_9]
      by_cases hc : x_i w (15 + 2 * s) j = nI (XD w (XL S kd td mo kt) 12 j)
      · rw [if_pos hc, ← ih (j + 1) (by omega) Q]
        simp only [X38_10, X38_12, X38_15, X38_16, X38_19, X38_20, X38_21, X38_22, X38_25, X38_28, X38_29, X38_30, X38_35, X38_38, Nat.zero_le, and_true, true_and, x_nb0, x_nb1, x_nbp, x_isL_int, x_isL_ref, x_isL_junk, x_isR_ref, x_cat_nil, x_cat_int, x_cat_ref, x_cat_long, Option.toList_some, Option.toList_none, List.cons_append, List.nil_append, Nat.reduceAdd, Nat.reduceLeDiff, Nat.reduceLT, t_tag_si, t_tag_sr, t_tag_sI, x_r_si, x_i_sr, t_r_sI, x_ia_si, x_ia_sI, x_ia_sr, x_ra_si, x_ra_sI, x_ra_sr, nI_leF (show j < 20 by omega) (show 20 < 2 ^ 31 by decide), if_false, r2, r3, r4, jx4, jc, e15, g_t0 hs2, g_r0_5 hs2, g_t23 hs2, hsd.1, g_a26 hs2, jx, h26 j (by omega), hc, if_true, nI_add]
      · rw [if_neg hc]
        simp only [X38_10, X38_12, X38_15, X38_16, X38_19, X38_20, X38_21, X38_22, X38_25, X38_28, X38_29, X38_30, X38_33, X38_34, Nat.zero_le, and_true, true_and, x_nb0, x_nb1, x_nbp, x_isL_int, x_isL_ref, x_isL_junk, x_isR_ref, x_cat_nil, x_cat_int, x_cat_ref, x_cat_long, Option.toList_some, Option.toList_none, List.cons_append, List.nil_append, Nat.reduceAdd, Nat.reduceLeDiff, Nat.reduceLT, t_tag_si, t_tag_sr, t_tag_sI, x_r_si, x_i_sr, t_r_sI, x_ia_si, x_ia_sI, x_ia_sr, x_ra_si, x_ra_sI, x_ra_sr, nI_leF (show j < 20 by omega) (show 20 < 2 ^ 31 by decide), if_false, r2, r3, r4, jx4, jc, e15, g_t0 hs2, g_r0_5 hs2, g_t23 hs2, hsd.1, g_a26 hs2, jx, h26 j (by omega), hc]
  refine ⟨w2, c1, fun Q => ?_⟩
  rw [← loop 20 0 rfl Q]
  simp only [X38_0, X38_1, X38_4, X38_7, X38_8, Nat.zero_le, and_true, true_and, x_nb0, x_nb1, x_nbp, x_isL_int, x_isL_ref, x_isL_junk, x_isR_ref, x_cat_nil, x_cat_int, x_cat_ref, x_cat_long, Option.toList_some, Option.toList_none, List.cons_append, List.nil_append, Nat.reduceAdd, Nat.reduceLeDiff, Nat.reduceLT, t_tag_si, t_tag_sr, t_tag_sI, x_r_si, x_i_sr, t_r_sI, x_ia_si, x_ia_sI, x_ia_sr, x_ra_si, x_ra_sI, x_ra_sr, g_t0 hs, g_r0_4 hs, g_t22 hs, e56]
theorem S217 (h : CM w S kd td mo kt) {s : Nat} (h4 : s < 4) : ∃ w2, Ch (sm [60, 61, 62]) w w2 ∧ ∀ Q, X_R L xs (d + 4) 217 0 [.ref 41, .int (nI s), x_junk] [] w Q = Q (some (.int (fdN (fun k => x_i w 54 (40 * s + k)) (MD w (XL S kd td mo kt) 12) 20 0))) w2 := by
  have hs := h.sh
  have e174 := fun (Q' : Option Value → x_W → Prop) => S174 (L := L) (xs := xs) (d := d + 3) (Q := Q') hs h.hS h.S6
  have e175 := fun (Q' : Option Value → x_W → Prop) => S175' (L := L) (xs := xs) (d := d + 1) (Q := Q') (sm := nI (2 ^ S - 1)) h
  rw [ML_all h.S6] at e175
  have c1 : Ch (sm [60, 61, 62]) w (WHs w (XL S kd td mo kt)) := Ch_WH
  have h61 : ∀ k, k < 20 → x_i (WHs w (XL S kd td mo kt)) 61 k = nI (MD w (XL S kd td mo kt) 12 k) := fun k hk => WH_61 _ _ _ _ hk
  generalize hW : WHs w (XL S kd td mo kt) = w2 at *
  have hs2 := c1.sh hs
  have e54 : x_i w2 54 = x_i w 54 := c1.i (fun _ => rfl)
  have loop : ∀ n j, j + n = 20 → ∀ Q, X_R L xs (d + 4) 217 10 [.ref 41, .int (nI s), .int (nI j)] [] w2 Q = Q (some (.int (fdN (fun k => x_i w 54 (40 * s + k)) (MD w (XL S kd td mo kt) 12) n j))) w2 := by
    intro n
    induction n with
    | zero =>
      intro j hj Q
      obtain rfl : j = 20 := by omega
      rw [X217_10]
      simp only [X217_11, X217_13, X217_44, X217_45, Nat.zero_le, and_true, true_and, x_nb0, x_nb1, x_nbp, x_isL_int, x_isL_ref, x_isL_junk, x_isR_ref, x_cat_nil, x_cat_int, x_cat_ref, x_cat_long, Option.toList_some, Option.toList_none, List.cons_append, List.nil_append, Nat.reduceAdd, Nat.reduceLeDiff, Nat.reduceLT, t_tag_si, t_tag_sr, t_tag_sI, x_r_si, x_i_sr, t_r_sI, x_ia_si, x_ia_sI, x_ia_sr, x_ra_si, x_ra_sI, x_ra_sr, nI_leT (Nat.le_refl 20) (show 20 < 2 ^ 31 by decide), if_true, fdN]
    | succ n ih =>
      intro j hj Q
      have jx := x_ix_nI (show j < 20 by omega) (show 20 < 2 ^ 31 by decide)
      have jx4 := x_ix_nI (show 40 * s + j < 160 by omega) (show 160 < 2 ^ 31 by decide)
      have jc := nI_cl (show j < 2 ^ 31 by omega)
      have jc4 := nI_cl (show 40 * s + j < 2 ^ 31 by omega)
      unfold fdN
      rw [X217_10]
      by_cases hc : x_i w 54 (40 * s + j) = nI (MD w (XL S kd td mo kt) 12 j)
      · rw [if_pos hc, ← ih (j + 1) (by omega) Q]
        simp only [X217_11, X217_13, X217_16, X217_17, X217_20, X217_22, X217_23, X217_24, X217_25, X217_26, X217_27, X217_28, X217_31, X217_32, X217_33, X217_38, X217_41, Nat.zero_le, and_true, true_and, x_nb0, x_nb1, x_nbp, x_isL_int, x_isL_ref, x_isL_junk, x_isR_ref, x_cat_nil, x_cat_int, x_cat_ref, x_cat_long, Option.toList_some, Option.toList_none, List.cons_append, List.nil_append, Nat.reduceAdd, Nat.reduceLeDiff, Nat.reduceLT, t_tag_si, t_tag_sr, t_tag_sI, x_r_si, x_i_sr, t_r_sI, x_ia_si, x_ia_sI, x_ia_sr, x_ra_si, x_ra_sI, x_ra_sr, nI_leF (show j < 20 by omega) (show 20 < 2 ^ 31 by decide), if_false, g_t41 hs2, g_r41_21 hs2, g_a54 hs2, nI_mul, nI_add, jx4, jc4, e54, g_r41_35 hs2, g_a61 hs2, jx, jc, h61 j (by omega), hc, if_true]
      · rw [if_neg hc]
        simp only [X217_11, X217_13, X217_16, X217_17, X217_20, X217_22, X217_23, X217_24, X217_25, X217_26, X217_27, X217_28, X217_31, X217_32, X217_33, X217_36, X217_37, Nat.zero_le, and_true, true_and, x_nb0, x_nb1, x_nbp, x_isL_int, x_isL_ref, x_isL_junk, x_isR_ref, x_cat_nil, x_cat_int, x_cat_ref, x_cat_long, Option.toList_some, Option.toList_none, List.cons_append, List.nil_append, Nat.reduceAdd, Nat.reduceLeDiff, Nat.reduceLT, t_tag_si, t_tag_sr, t_tag_sI, x_r_si, x_i_sr, t_r_sI, x_ia_si, x_ia_sI, x_ia_sr, x_ra_si, x_ra_sI, x_ra_sr, nI_leF (show j < 20 by omega) (show 20 < 2 ^ 31 by decide), if_false, g_t41 hs2, g_r41_21 hs2, g_a54 hs2, nI_mul, nI_add, jx4, jc4, e54, g_r41_35 hs2, g_a61 hs2, jx, jc, h61 j (by omega), hc]
  refine ⟨w2, c1, fun Q => ?_⟩
  rw [← loop 20 0 rfl Q]
  simp only [X217_0, X217_1, X217_2, X217_5, X217_8, X217_9, Nat.zero_le, and_true, true_and, x_nb0, x_nb1, x_nbp, x_isL_int, x_isL_ref, x_isL_junk, x_isR_ref, x_cat_nil, x_cat_int, x_cat_ref, x_cat_long, Option.toList_some, Option.toList_none, List.cons_append, List.nil_append, Nat.reduceAdd, Nat.reduceLeDiff, Nat.reduceLT, t_tag_si, t_tag_sr, t_tag_sI, x_r_si, x_i_sr, t_r_sI, x_ia_si, x_ia_sI, x_ia_sr, x_ra_si, x_ra_sI, x_ra_sr, g_t41 hs, e174, e175]
theorem AQ_judge (h : AG w S kd td mo kt tl tk) (hSH : SHT w so sz) (v : Int32) : AQ L xs (d + 12) 35 215 [.ref 0, .int v, x_junk] [.ref 41, .int v, x_junk] w := by
  have hs := h.1.sh
  by_cases hv : shn v
  · obtain ⟨s, h4, rfl⟩ := sh_of hv
    have e36 := fun (Q' : Option Value → x_W → Prop) => S36' (L := L) (xs := xs) (d := d + 8) (Q := Q') hs hSH h4
    have sx := x_ix_nI h4 (show 4 < 2 ^ 31 by decide)
    have sc' := nI_cl (show s < 2 ^ 31 by omega)
    obtain ⟨r1, r2, r3, r4⟩ := g_sh hs s h4
    by_cases h0 : refD so sz s = nI 0
    · obtain ⟨w1, c1, e1⟩ := S38 (L := L) (xs := xs) (d := d + 7) h.1.1 h4
      have cA := c1.ma rfl
      have hM1 := h.2.1.1.ch cA
      have hs1 := c1.sh hs
      obtain ⟨w2, c2, e2⟩ := S217 (L := L) (xs := xs) (d := d + 7) hM1 h4
      have e216 := fun (Q' : Option Value → x_W → Prop) => S216 (L := L) (xs := xs) (d := d + 8) (Q := Q') hs1 (hSH.ch cA) h4
      have eQ : fdN (fun k => x_i w1 54 (40 * s + k)) (MD w1 (XL S kd td mo kt) 12) 20 0 = fdN (x_i w (15 + 2 * s)) (XD w (XL S kd td mo kt) 12) 20 0 := by
        refine fdN_cg 20 0 rfl (fun k hk => ?_) (fun k hk => ?_)
        · rw [cA.i (fun _ => rfl : ∀ k, sc SA 54 k = false)]
          exact ((hSH s h4).2.2.2 k (by omega)).symm
        · rw [XD_MD h.2.2.1 _ _ k hk]
          unfold MD
          rw [EM.C cA, cA.2.2 41 1 rfl]
      rw [eQ] at e2
      refine ⟨.int (fdN (x_i w (15 + 2 * s)) (XD w (XL S kd td mo kt) 12) 20 0), w1, w2, cA.trans (c2.ma rfl), (h.1.2.2.m c1 rfl rfl rfl).m c2 rfl rfl rfl, fun Q => ?_, fun Q => ?_⟩
      · simp only [X35_0, X35_1, X35_2, X35_5, X35_6, X35_7, X35_10, X35_11, X35_12, X35_13, X35_14, X35_17, X35_18, X35_19, X35_22, Nat.zero_le, and_true, true_and, x_nb0, x_nb1, x_nbp, x_isL_int, x_isL_ref, x_isL_junk, x_isR_ref, x_cat_nil, x_cat_int, x_cat_ref, x_cat_long, Option.toList_some, Option.toList_none, List.cons_append, List.nil_append, Nat.reduceAdd, Nat.reduceLeDiff, Nat.reduceLT, t_tag_si, t_tag_sr, t_tag_sI, x_r_si, x_i_sr, t_r_sI, x_ia_si, x_ia_sI, x_ia_sr, x_ra_si, x_ra_sI, x_ra_sr, g_t0 hs, e36, h0, if_true, g_r0_6 hs, g_a6 hs, sx, sc', r1, e1]
      · simp only [X215_0, X215_1, X215_2, X215_5, X215_6, X215_7, X215_10, X215_11, X215_12, X215_15, X215_18, X215_19, Nat.zero_le, and_true, true_and, x_nb0, x_nb1, x_nbp, x_isL_int, x_isL_ref, x_isL_junk, x_isR_ref, x_cat_nil, x_cat_int, x_cat_ref, x_cat_long, Option.toList_some, Option.toList_none, List.cons_append, List.nil_append, Nat.reduceAdd, Nat.reduceLeDiff, Nat.reduceLT, t_tag_si, t_tag_sr, t_tag_sI, x_r_si, x_i_sr, t_r_sI, x_ia_si, x_ia_sI, x_ia_sr, x_ra_si, x_ra_sI, x_ra_sr, g_t41 hs1, e216, h0, if_true, e2]
    · have e216 := fun (Q' : Option Value → x_W → Prop) => S216 (L := L) (xs := xs) (d := d + 8) (Q := Q') hs hSH h4
      refine AQ_no (v := .int (refD so sz s)) h.1.2.2 (fun Q => ?_) (fun Q => ?_)
      · simp only [X35_0, X35_1, X35_2, X35_5, X35_6, X35_7, X35_10, X35_11, X35_12, X35_13, X35_14, X35_17, X35_18, X35_19, X35_22, Nat.zero_le, and_true, true_and, x_nb0, x_nb1, x_nbp, x_isL_int, x_isL_ref, x_isL_junk, x_isR_ref, x_cat_nil, x_cat_int, x_cat_ref, x_cat_long, Option.toList_some, Option.toList_none, List.cons_append, List.nil_append, Nat.reduceAdd, Nat.reduceLeDiff, Nat.reduceLT, t_tag_si, t_tag_sr, t_tag_sI, x_r_si, x_i_sr, t_r_sI, x_ia_si, x_ia_sI, x_ia_sr, x_ra_si, x_ra_sI, x_ra_sr, g_t0 hs, e36, h0, if_false]
      · simp only [X215_0, X215_1, X215_2, X215_5, X215_6, X215_7, X215_10, X215_11, X215_12, X215_15, X215_18, X215_19, Nat.zero_le, and_true, true_and, x_nb0, x_nb1, x_nbp, x_isL_int, x_isL_ref, x_isL_junk, x_isR_ref, x_cat_nil, x_cat_int, x_cat_ref, x_cat_long, Option.toList_some, Option.toList_none, List.cons_append, List.nil_append, Nat.reduceAdd, Nat.reduceLeDiff, Nat.reduceLT, t_tag_si, t_tag_sr, t_tag_sI, x_r_si, x_i_sr, t_r_sI, x_ia_si, x_ia_sI, x_ia_sr, x_ra_si, x_ra_sI, x_ra_sr, g_t41 hs, e216, h0, if_false]
  · have hm2 : ¬ (-2 : Int32) = nI 0 := by decide
    refine AQ_no (v := .int (-2)) h.1.2.2 (fun Q => ?_) (fun Q => ?_)
    · simp only [X35_0, X35_1, X35_2, X35_5, X35_6, X35_7, X35_10, X35_11, X35_12, X35_13, X35_14, X35_17, X35_18, X35_19, X35_22, Nat.zero_le, and_true, true_and, x_nb0, x_nb1, x_nbp, x_isL_int, x_isL_ref, x_isL_junk, x_isR_ref, x_cat_nil, x_cat_int, x_cat_ref, x_cat_long, Option.toList_some, Option.toList_none, List.cons_append, List.nil_append, Nat.reduceAdd, Nat.reduceLeDiff, Nat.reduceLT, t_tag_si, t_tag_sr, t_tag_sI, x_r_si, x_i_sr, t_r_sI, x_ia_si, x_ia_sI, x_ia_sr, x_ra_si, x_ra_sI, x_ra_sr, g_t0 hs, S36n hv, hm2, if_false]
    · simp only [X215_0, X215_1, X215_2, X215_5, X215_6, X215_7, X215_10, X215_11, X215_12, X215_15, X215_18, X215_19, Nat.zero_le, and_true, true_and, x_nb0, x_nb1, x_nbp, x_isL_int, x_isL_ref, x_isL_junk, x_isR_ref, x_cat_nil, x_cat_int, x_cat_ref, x_cat_long, Option.toList_some, Option.toList_none, List.cons_append, List.nil_append, Nat.reduceAdd, Nat.reduceLeDiff, Nat.reduceLT, t_tag_si, t_tag_sr, t_tag_sI, x_r_si, x_i_sr, t_r_sI, x_ia_si, x_ia_sI, x_ia_sr, x_ra_si, x_ra_sI, x_ra_sr, g_t41 hs, S216n hv, hm2, if_false]
/-- the places that a told depth fits -/
def whM (c : Nat → Int32) (p : Nat → Nat → Nat) (k : Nat) : Bool := decide (fdN c (p k) 20 0 = -1)
theorem S39l (h : EX w S kd td mo kt tl tk) {s : Nat} (h4 : s < 4) {o : Nat} (ho : o < S) (v3 v4 : Int32) : ∀ n j, j + n = 20 → ∀ w1, Ch (orc (sm [25, 26, 27]) 30) w w1 → (∀ q, q ≠ o → x_i w1 30 q = x_i w 30 q) → ∃ w2, Ch (orc (sm [25, 26, 27]) 30) w w2 ∧ (∀ q, q ≠ o → x_i w2 30 q = x_i w 30 q) ∧ ∀ Q, X_R L xs (d + 12) 39 43 [.ref 0, .int (nI s), .int (nI o), .int v3, .int v4, .int (wkM (whM (x_i w (15 + 2 * s)) (fun k => XD w (XL S kd td mo (updN kt o k)) 12)) j), .int (nI j)] [] w1 Q = X_R L xs (d + 12) 39 90 [.ref 0, .int (nI s), .int (nI o), .int v3, .int v4, .int (wkM (whM (x_i w (15 + 2 * s)) (fun k => XD w (XL S kd td mo (updN kt o k)) 12)) 20), .int (nI 20)] [] w2 Q := by
  have h6 := h.1.S6
  have hox := x_ix_nI (show o < 6 by omega) (show 6 < 2 ^ 31 by decide)
  have hoc := nI_cl (show o < 2 ^ 31 by omega)
  have sx := x_ix_nI h4 (show 4 < 2 ^ 31 by decide)
  have sc' := nI_cl (show s < 2 ^ 31 by omega)
  intro n
  induction n with
  | zero =>
    intro j hj w1 c1 h30
    obtain rfl : j = 20 := by omega
    refine ⟨w1, c1, h30, fun Q => ?_⟩
    rw [X39_43]
    simp only [X39_45, X39_47, Nat.zero_le, and_true, true_and, x_nb0, x_nb1, x_nbp, x_isL_int, x_isL_ref, x_isL_junk, x_isR_ref, x_cat_nil, x_cat_int, x_cat_ref, x_cat_long, Option.toList_some, Option.toList_none, List.cons_append, List.nil_append, Nat.reduceAdd, Nat.reduceLeDiff, Nat.reduceLT, t_tag_si, t_tag_sr, t_tag_sI, x_r_si, x_i_sr, t_r_sI, x_ia_si, x_ia_sI, x_ia_sr, x_ra_si, x_ra_sI, x_ra_sr, nI_leT (Nat.le_refl 20) (show 20 < 2 ^ 31 by decide), if_true]
  | succ n ih =>
    intro j hj w1 c1 h30
    have hF1 : FarOk w1 := h.2.2.of (c1.2.2 23 6 rfl) (c1.i (fun _ => rfl)) (c1.i (fun _ => rfl))
    have hX2 : EX (x_si w1 30 o (nI j)) S kd td mo (updN kt o j) tl tk := by
      refine h.lies (orc_ma (c1.trans Ch_orc) rfl) (hF1.of (by rw [x_i_sin _ _ _ _ (by decide)]) (by rw [x_i_sin _ _ _ _ (by decide)]) (by rw [x_i_sin _ _ _ _ (by decide)])) (fun q hq => ?_)
      rw [x_i_si]
      by_cases hqs : q = o
      · subst hqs
        rw [upd_s, updN_s]
        exact ⟨rfl, by omega⟩
      · rw [upd_o hqs, updN_o hqs, h30 q hqs]
        exact ⟨(h.1.X.1 q hq).2.2.2, (h.1.bd q hq).2.2.2⟩
    obtain ⟨w3, c3, e38⟩ := S38 (L := L) (xs := xs) (d := d + 7) hX2.1 h4
    have c13 : Ch (orc (sm [25, 26, 27]) 30) w w3 := (c1.trans Ch_orc).trans c3.orc
    have h303 : ∀ q, q ≠ o → x_i w3 30 q = x_i w 30 q := fun q hq => by
      rw [c3.i (fun _ => rfl : ∀ k, sm [25, 26, 27] 30 k = false), x_i_si, upd_o hq]
      exact h30 q hq
    have e15 : x_i (x_si w1 30 o (nI j)) (15 + 2 * s) = x_i w (15 + 2 * s) := by
      rw [x_i_sin _ _ _ _ (by omega)]
      exact c1.i (four (p := fun s => ∀ k, orc (sm [25, 26, 27]) 30 (15 + 2 * s) k = false) ⟨fun _ => rfl, fun _ => rfl, fun _ => rfl, fun _ => rfl⟩ s h4)
    have eD : XD (x_si w1 30 o (nI j)) (XL S kd td mo (updN kt o j)) 12 = XD w (XL S kd td mo (updN kt o j)) 12 := by
      unfold XD
      rw [x_i_sin _ _ _ _ (by decide), x_i_sin _ _ _ _ (by decide), c1.i (fun _ => rfl : ∀ k, orc (sm [25, 26, 27]) 30 24 k = false), c1.2.2 23 1 rfl]
    rw [e15, eD] at e38
    obtain ⟨w4, c4, h304, e4⟩ := ih (j + 1) (by omega) w3 c13 h303
    refine ⟨w4, c4, h304, fun Q => ?_⟩
    rw [← e4 Q, X39_43]
    have hs1 := c1.sh h.sh
    have hs2 := hX2.sh
    obtain ⟨r1, r2, r3, r4⟩ := g_sh hs2 s h4
    by_cases hb : whM (x_i w (15 + 2 * s)) (fun k => XD w (XL S kd td mo (updN kt o k)) 12) j = true
    · rw [wkM_t hb]
      unfold whM at hb
      rw [decide_eq_true_eq] at hb
      rw [hb] at e38
      simp only [X39_0, X39_1, X39_2, X39_5, X39_6, X39_7, X39_10, X39_11, X39_12, X39_13, X39_16, X39_17, X39_20, X39_23, X39_25, X39_26, X39_27, X39_30, X39_33, X39_34, X39_35, X39_37, X39_38, X39_40, X39_41, X39_45, X39_47, X39_50, X39_51, X39_54, X39_57, X39_58, X39_60, X39_61, X39_62, X39_63, X39_66, X39_67, X39_68, X39_71, X39_72, X39_75, X39_77, X39_78, X39_80, X39_81, X39_82, X39_84, X39_87, X39_90, X39_91, X39_94, X39_97, X39_98, X39_100, X39_101, X39_103, Nat.zero_le, and_true, true_and, x_nb0, x_nb1, x_nbp, x_isL_int, x_isL_ref, x_isL_junk, x_isR_ref, x_cat_nil, x_cat_int, x_cat_ref, x_cat_long, Option.toList_some, Option.toList_none, List.cons_append, List.nil_append, Nat.reduceAdd, Nat.reduceLeDiff, Nat.reduceLT, t_tag_si, t_tag_sr, t_tag_sI, x_r_si, x_i_sr, t_r_sI, x_ia_si, x_ia_sI, x_ia_sr, x_ra_si, x_ra_sI, x_ra_sr, nI_leF (show j < 20 by omega) (show 20 < 2 ^ 31 by decide), if_false, g_t0 hs1, g_r0_4 hs1, g_t22 hs1, g_r22_3 hs1, g_a30 hs1, hox, hoc, g_t0 hs2, g_r0_6 hs2, g_a6 hs2, sx, sc', r1, e38, if_true, nI_add]
    · rw [wkM_f hb]
      unfold whM at hb
      rw [decide_eq_true_eq] at hb
      simp only [X39_0, X39_1, X39_2, X39_5, X39_6, X39_7, X39_10, X39_11, X39_12, X39_13, X39_16, X39_17, X39_20, X39_23, X39_25, X39_26, X39_27, X39_30, X39_33, X39_34, X39_35, X39_37, X39_38, X39_40, X39_41, X39_45, X39_47, X39_50, X39_51, X39_54, X39_57, X39_58, X39_60, X39_61, X39_62, X39_63, X39_66, X39_67, X39_68, X39_71, X39_72, X39_75, X39_77, X39_78, X39_80, X39_81, X39_82, X39_84, X39_87, X39_90, X39_91, X39_94, X39_97, X39_98, X39_100, X39_101, X39_103, Nat.zero_le, and_true, true_and, x_nb0, x_nb1, x_nbp, x_isL_int, x_isL_ref, x_isL_junk, x_isR_ref, x_cat_nil, x_cat_int, x_cat_ref, x_cat_long, Option.toList_some, Option.toList_none, List.cons_append, List.nil_append, Nat.reduceAdd, Nat.reduceLeDiff, Nat.reduceLT, t_tag_si, t_tag_sr, t_tag_sI, x_r_si, x_i_sr, t_r_sI, x_ia_si, x_ia_sI, x_ia_sr, x_ra_si, x_ra_sI, x_ra_sr, nI_leF (show j < 20 by omega) (show 20 < 2 ^ 31 by decide), if_false, g_t0 hs1, g_r0_4 hs1, g_t22 hs1, g_r22_3 hs1, g_a30 hs1, hox, hoc, g_t0 hs2, g_r0_6 hs2, g_a6 hs2, sx, sc', r1, e38, hb, nI_add]
theorem S218l (h : EM w S kd td mo kt tl tk) {s : Nat} (h4 : s < 4) {o : Nat} (ho : o < S) (v3 v4 : Int32) : ∀ n j, j + n = 20 → ∀ w1, Ch (orc (sm [60, 61, 62]) 46) w w1 → (∀ q, q ≠ o → x_i w1 46 q = x_i w 46 q) → ∃ w2, Ch (orc (sm [60, 61, 62]) 46) w w2 ∧ (∀ q, q ≠ o → x_i w2 46 q = x_i w 46 q) ∧ ∀ Q, X_R L xs (d + 12) 218 37 [.ref 41, .int (nI s), .int (nI o), .int v3, .int v4, .int (wkM (whM (fun k => x_i w 54 (40 * s + k)) (fun k => MD w (XL S kd td mo (updN kt o k)) 12)) j), .int (nI j)] [] w1 Q = X_R L xs (d + 12) 218 80 [.ref 41, .int (nI s), .int (nI o), .int v3, .int v4, .int (wkM (whM (fun k => x_i w 54 (40 * s + k)) (fun k => MD w (XL S kd td mo (updN kt o k)) 12)) 20), .int (nI 20)] [] w2 Q := by
  have h6 := h.1.S6
  have hox := x_ix_nI (show o < 6 by omega) (show 6 < 2 ^ 31 by decide)
  have hoc := nI_cl (show o < 2 ^ 31 by omega)
  intro n
  induction n with
  | zero =>
    intro j hj w1 c1 h30
    obtain rfl : j = 20 := by omega
    refine ⟨w1, c1, h30, fun Q => ?_⟩
    rw [X218_37]
    simp only [X218_39, X218_41, Nat.zero_le, and_true, true_and, x_nb0, x_nb1, x_nbp, x_isL_int, x_isL_ref, x_isL_junk, x_isR_ref, x_cat_nil, x_cat_int, x_cat_ref, x_cat_long, Option.toList_some, Option.toList_none, List.cons_append, List.nil_append, Nat.reduceAdd, Nat.reduceLeDiff, Nat.reduceLT, t_tag_si, t_tag_sr, t_tag_sI, x_r_si, x_i_sr, t_r_sI, x_ia_si, x_ia_sI, x_ia_sr, x_ra_si, x_ra_sI, x_ra_sr, nI_leT (Nat.le_refl 20) (show 20 < 2 ^ 31 by decide), if_true]
  | succ n ih =>
    intro j hj w1 c1 h30
    have hX2 : EM (x_si w1 46 o (nI j)) S kd td mo (updN kt o j) tl tk := by
      refine h.lies (orc_ma (c1.trans Ch_orc) rfl) (fun q hq => ?_)
      rw [x_i_si]
      by_cases hqs : q = o
      · subst hqs
        rw [upd_s, updN_s]
        exact ⟨rfl, by omega⟩
      · rw [upd_o hqs, updN_o hqs, h30 q hqs]
        exact (h.1.M q hq).2.2.2
    obtain ⟨w3, c3, e38⟩ := S217 (L := L) (xs := xs) (d := d + 7) hX2.1 h4
    have c13 : Ch (orc (sm [60, 61, 62]) 46) w w3 := (c1.trans Ch_orc).trans c3.orc
    have h303 : ∀ q, q ≠ o → x_i w3 46 q = x_i w 46 q := fun q hq => by
      rw [c3.i (fun _ => rfl : ∀ k, sm [60, 61, 62] 46 k = false), x_i_si, upd_o hq]
      exact h30 q hq
    have e15 : x_i (x_si w1 46 o (nI j)) 54 = x_i w 54 := by
      rw [x_i_sin _ _ _ _ (by decide)]
      exact c1.i (fun _ => rfl)
    have eD : MD (x_si w1 46 o (nI j)) (XL S kd td mo (updN kt o j)) 12 = MD w (XL S kd td mo (updN kt o j)) 12 := by
      unfold MD
      rw [x_i_sin _ _ _ _ (by decide), x_i_sin _ _ _ _ (by decide), c1.i (fun _ => rfl : ∀ k, orc (sm [60, 61, 62]) 46 42 k = false), c1.2.2 41 1 rfl]
    rw [e15, eD] at e38
    obtain ⟨w4, c4, h304, e4⟩ := ih (j + 1) (by omega) w3 c13 h303
    refine ⟨w4, c4, h304, fun Q => ?_⟩
    rw [← e4 Q, X218_37]
    have hs1 := c1.sh h.sh
    have hs2 := hX2.sh
    by_cases hb : whM (fun k => x_i w 54 (40 * s + k)) (fun k => MD w (XL S kd td mo (updN kt o k)) 12) j = true
    · rw [wkM_t hb]
      unfold whM at hb
      rw [decide_eq_true_eq] at hb
      rw [hb] at e38
      simp only [X218_0, X218_1, X218_2, X218_5, X218_6, X218_7, X218_10, X218_11, X218_12, X218_13, X218_14, X218_17, X218_20, X218_22, X218_23, X218_24, X218_27, X218_28, X218_29, X218_31, X218_32, X218_34, X218_35, X218_39, X218_41, X218_44, X218_45, X218_48, X218_49, X218_51, X218_52, X218_54, X218_55, X218_56, X218_59, X218_60, X218_63, X218_64, X218_66, X218_67, X218_70, X218_71, X218_72, X218_74, X218_77, X218_80, X218_81, X218_84, X218_85, X218_87, X218_88, X218_90, Nat.zero_le, and_true, true_and, x_nb0, x_nb1, x_nbp, x_isL_int, x_isL_ref, x_isL_junk, x_isR_ref, x_cat_nil, x_cat_int, x_cat_ref, x_cat_long, Option.toList_some, Option.toList_none, List.cons_append, List.nil_append, Nat.reduceAdd, Nat.reduceLeDiff, Nat.reduceLT, t_tag_si, t_tag_sr, t_tag_sI, x_r_si, x_i_sr, t_r_sI, x_ia_si, x_ia_sI, x_ia_sr, x_ra_si, x_ra_sI, x_ra_sr, nI_leF (show j < 20 by omega) (show 20 < 2 ^ 31 by decide), if_false, g_t41 hs1, g_r41_6 hs1, g_a46 hs1, hox, hoc, g_t41 hs2, e38, if_true, nI_add]
    · rw [wkM_f hb]
      unfold whM at hb
      rw [decide_eq_true_eq] at hb
      simp only [X218_0, X218_1, X218_2, X218_5, X218_6, X218_7, X218_10, X218_11, X218_12, X218_13, X218_14, X218_17, X218_20, X218_22, X218_23, X218_24, X218_27, X218_28, X218_29, X218_31, X218_32, X218_34, X218_35, X218_39, X218_41, X218_44, X218_45, X218_48, X218_49, X218_51, X218_52, X218_54, X218_55, X218_56, X218_59, X218_60, X218_63, X218_64, X218_66, X218_67, X218_70, X218_71, X218_72, X218_74, X218_77, X218_80, X218_81, X218_84, X218_85, X218_87, X218_88, X218_90, Nat.zero_le, and_true, true_and, x_nb0, x_nb1, x_nbp, x_isL_int, x_isL_ref, x_isL_junk, x_isR_ref, x_cat_nil, x_cat_int, x_cat_ref, x_cat_long, Option.toList_some, Option.toList_none, List.cons_append, List.nil_append, Nat.reduceAdd, Nat.reduceLeDiff, Nat.reduceLT, t_tag_si, t_tag_sr, t_tag_sI, x_r_si, x_i_sr, t_r_sI, x_ia_si, x_ia_sI, x_ia_sr, x_ra_si, x_ra_sI, x_ra_sr, nI_leF (show j < 20 by omega) (show 20 < 2 ^ 31 by decide), if_false, g_t41 hs1, g_r41_6 hs1, g_a46 hs1, hox, hoc, g_t41 hs2, e38, hb, or_0, nI_add]
theorem AQ_where (h : AG w S kd td mo kt tl tk) (hSH : SHT w so sz) (v u : Int32) : AQ L xs (d + 12) 39 218 [.ref 0, .int v, .int u, x_junk, x_junk, x_junk, x_junk] [.ref 41, .int v, .int u, x_junk, x_junk, x_junk, x_junk] w := by
  have hs := h.1.sh
  have h6 := h.1.1.S6
  by_cases hv : shn v
  · obtain ⟨s, h4, rfl⟩ := sh_of hv
    have e36 := fun (Q' : Option Value → x_W → Prop) => S36' (L := L) (xs := xs) (d := d + 8) (Q := Q') hs hSH h4
    by_cases h0 : refD so sz s = nI 0
    · have h55 := fun (v : Int32) (Q' : Option Value → x_W → Prop) => S55 (L := L) (xs := xs) (d := d + 11) (v := v) (Q := Q') h.1.1
      by_cases h1 : slp S u
      · obtain ⟨o, ho, rfl⟩ := slp_of h6 h1
        have hox := x_ix_nI (show o < 6 by omega) (show 6 < 2 ^ 31 by decide)
        have hoc := nI_cl (show o < 2 ^ 31 by omega)
        obtain ⟨w1, c1, h30, e1⟩ := S39l (L := L) (xs := xs) (d := d) h.1 h4 ho (nI 0) (x_i w 30 o) 20 0 rfl w Ch.refl (fun _ _ => rfl)
        have hs1 := c1.sh hs
        have c1' : Ch (sm [25, 26, 27]) w (x_si w1 30 o (x_i w 30 o)) := (c1.trans Ch_orc).cell (by
          rw [x_i_si]
          funext q
          by_cases hq : q = o
          · subst hq; rw [upd_s]
          · rw [upd_o hq]; exact h30 q hq)
        generalize hw1' : x_si w1 30 o (x_i w 30 o) = w1' at c1'
        have cA := c1'.ma rfl
        have hM1 := h.2.1.ch cA
        have hs1' := c1'.sh hs
        obtain ⟨w2, c2, h46, e2⟩ := S218l (L := L) (xs := xs) (d := d) hM1 h4 ho (nI 0) (x_i w1' 46 o) 20 0 rfl w1' Ch.refl (fun _ _ => rfl)
        have hs2 := c2.sh hs1'
        have c2' : Ch (sm [60, 61, 62]) w1' (x_si w2 46 o (x_i w1' 46 o)) := (c2.trans Ch_orc).cell (by
          rw [x_i_si]
          funext q
          by_cases hq : q = o
          · subst hq; rw [upd_s]
          · rw [upd_o hq]; exact h46 q hq)
        have e216 := fun (Q' : Option Value → x_W → Prop) => S216 (L := L) (xs := xs) (d := d + 8) (Q := Q') hs1' (hSH.ch cA) h4
        have h169' := fun (v : Int32) (Q' : Option Value → x_W → Prop) => S169 (L := L) (xs := xs) (d := d + 10) (v := v) (Q := Q') hM1.1
        have eW : wkM (whM (fun k => x_i w1' 54 (40 * s + k)) (fun k => MD w1' (XL S kd td mo (updN kt o k)) 12)) 20 = wkM (whM (x_i w (15 + 2 * s)) (fun k => XD w (XL S kd td mo (updN kt o k)) 12)) 20 := by
          refine wkM_cg (fun k hk => ?_)
          unfold whM
          have : fdN (fun k => x_i w1' 54 (40 * s + k)) (MD w1' (XL S kd td mo (updN kt o k)) 12) 20 0 = fdN (x_i w (15 + 2 * s)) (XD w (XL S kd td mo (updN kt o k)) 12) 20 0 := by
            refine fdN_cg 20 0 rfl (fun q hq => ?_) (fun q hq => ?_)
            · rw [cA.i (fun _ => rfl : ∀ k, sc SA 54 k = false)]
              exact ((hSH s h4).2.2.2 q (by omega)).symm
            · rw [XD_MD h.2.2.1 _ _ q hq]
              unfold MD
              rw [EM.C cA, cA.2.2 41 1 rfl]
          rw [this]
        rw [eW] at e2
        generalize hR : wkM (whM (x_i w (15 + 2 * s)) (fun k => XD w (XL S kd td mo (updN kt o k)) 12)) 20 = R at e1 e2
        refine ⟨.int R, w1', x_si w2 46 o (x_i w1' 46 o), cA.trans (c2'.ma rfl), (h.1.2.2.m c1' rfl rfl rfl).m c2' rfl rfl rfl, fun Q => ?_, fun Q => ?_⟩
        · have e0 : X_R L xs (d + 12) 39 0 [.ref 0, .int (nI s), .int (nI o), x_junk, x_junk, x_junk, x_junk] [] w Q = X_R L xs (d + 12) 39 43 [.ref 0, .int (nI s), .int (nI o), .int (nI 0), .int (x_i w 30 o), .int (nI 0), .int (nI 0)] [] w Q := by
            simp only [X39_0, X39_1, X39_2, X39_5, X39_6, X39_7, X39_12, X39_13, X39_16, X39_17, X39_20, X39_26, X39_27, X39_30, X39_33, X39_34, X39_35, X39_37, X39_38, X39_40, X39_41, Nat.zero_le, and_true, true_and, x_nb0, x_nb1, x_nbp, x_isL_int, x_isL_ref, x_isL_junk, x_isR_ref, x_cat_nil, x_cat_int, x_cat_ref, x_cat_long, Option.toList_some, Option.toList_none, List.cons_append, List.nil_append, Nat.reduceAdd, Nat.reduceLeDiff, Nat.reduceLT, t_tag_si, t_tag_sr, t_tag_sI, x_r_si, x_i_sr, t_r_sI, x_ia_si, x_ia_sI, x_ia_sr, x_ra_si, x_ra_sI, x_ra_sr, g_t0 hs, e36, h0, if_true, g_r0_4 hs, g_t22 hs, h55, bI_t h1, n10, if_false, g_r22_3 hs, g_a30 hs, hox, hoc]
          rw [e0]
          refine (e1 Q).trans ?_
          simp only [X39_90, X39_91, X39_94, X39_97, X39_98, X39_100, X39_101, X39_103, Nat.zero_le, and_true, true_and, x_nb0, x_nb1, x_nbp, x_isL_int, x_isL_ref, x_isL_junk, x_isR_ref, x_cat_nil, x_cat_int, x_cat_ref, x_cat_long, Option.toList_some, Option.toList_none, List.cons_append, List.nil_append, Nat.reduceAdd, Nat.reduceLeDiff, Nat.reduceLT, t_tag_si, t_tag_sr, t_tag_sI, x_r_si, x_i_sr, t_r_sI, x_ia_si, x_ia_sI, x_ia_sr, x_ra_si, x_ra_sI, x_ra_sr, g_t0 hs1, g_r0_4 hs1, g_t22 hs1, g_r22_3 hs1, g_a30 hs1, hox, hoc, hw1']
        · have e0 : X_R L xs (d + 12) 218 0 [.ref 41, .int (nI s), .int (nI o), x_junk, x_junk, x_junk, x_junk] [] w1' Q = X_R L xs (d + 12) 218 37 [.ref 41, .int (nI s), .int (nI o), .int (nI 0), .int (x_i w1' 46 o), .int (nI 0), .int (nI 0)] [] w1' Q := by
            simp only [X218_0, X218_1, X218_2, X218_5, X218_6, X218_7, X218_12, X218_13, X218_14, X218_17, X218_23, X218_24, X218_27, X218_28, X218_29, X218_31, X218_32, X218_34, X218_35, Nat.zero_le, and_true, true_and, x_nb0, x_nb1, x_nbp, x_isL_int, x_isL_ref, x_isL_junk, x_isR_ref, x_cat_nil, x_cat_int, x_cat_ref, x_cat_long, Option.toList_some, Option.toList_none, List.cons_append, List.nil_append, Nat.reduceAdd, Nat.reduceLeDiff, Nat.reduceLT, t_tag_si, t_tag_sr, t_tag_sI, x_r_si, x_i_sr, t_r_sI, x_ia_si, x_ia_sI, x_ia_sr, x_ra_si, x_ra_sI, x_ra_sr, g_t41 hs1', e216, h0, if_true, h169', bI_t h1, n10, if_false, g_r41_6 hs1', g_a46 hs1', hox, hoc]
          rw [e0]
          refine (e2 Q).trans ?_
          simp only [X218_80, X218_81, X218_84, X218_85, X218_87, X218_88, X218_90, Nat.zero_le, and_true, true_and, x_nb0, x_nb1, x_nbp, x_isL_int, x_isL_ref, x_isL_junk, x_isR_ref, x_cat_nil, x_cat_int, x_cat_ref, x_cat_long, Option.toList_some, Option.toList_none, List.cons_append, List.nil_append, Nat.reduceAdd, Nat.reduceLeDiff, Nat.reduceLT, t_tag_si, t_tag_sr, t_tag_sI, x_r_si, x_i_sr, t_r_sI, x_ia_si, x_ia_sI, x_ia_sr, x_ra_si, x_ra_sI, x_ra_sr, g_t41 hs2, g_r41_6 hs2, g_a46 hs2, hox, hoc]
      · have e216 := fun (Q' : Option Value → x_W → Prop) => S216 (L := L) (xs := xs) (d := d + 8) (Q := Q') hs hSH h4
        have h169 := fun (v : Int32) (Q' : Option Value → x_W → Prop) => S169 (L := L) (xs := xs) (d := d + 10) (v := v) (Q := Q') h.2.1.1
        refine AQ_no (v := .int (-5)) h.1.2.2 (fun Q => ?_) (fun Q => ?_)
        · simp only [X39_0, X39_1, X39_2, X39_5, X39_6, X39_7, X39_12, X39_13, X39_16, X39_17, X39_20, X39_23, X39_25, Nat.zero_le, and_true, true_and, x_nb0, x_nb1, x_nbp, x_isL_int, x_isL_ref, x_isL_junk, x_isR_ref, x_cat_nil, x_cat_int, x_cat_ref, x_cat_long, Option.toList_some, Option.toList_none, List.cons_append, List.nil_append, Nat.reduceAdd, Nat.reduceLeDiff, Nat.reduceLT, t_tag_si, t_tag_sr, t_tag_sI, x_r_si, x_i_sr, t_r_sI, x_ia_si, x_ia_sI, x_ia_sr, x_ra_si, x_ra_sI, x_ra_sr, g_t0 hs, e36, h0, if_true, g_r0_4 hs, g_t22 hs, h55, bI_f h1]
        · simp only [X218_0, X218_1, X218_2, X218_5, X218_6, X218_7, X218_12, X218_13, X218_14, X218_17, X218_20, X218_22, Nat.zero_le, and_true, true_and, x_nb0, x_nb1, x_nbp, x_isL_int, x_isL_ref, x_isL_junk, x_isR_ref, x_cat_nil, x_cat_int, x_cat_ref, x_cat_long, Option.toList_some, Option.toList_none, List.cons_append, List.nil_append, Nat.reduceAdd, Nat.reduceLeDiff, Nat.reduceLT, t_tag_si, t_tag_sr, t_tag_sI, x_r_si, x_i_sr, t_r_sI, x_ia_si, x_ia_sI, x_ia_sr, x_ra_si, x_ra_sI, x_ra_sr, g_t41 hs, e216, h0, if_true, h169, bI_f h1]
    · have e216 := fun (Q' : Option Value → x_W → Prop) => S216 (L := L) (xs := xs) (d := d + 8) (Q := Q') hs hSH h4
      refine AQ_no (v := .int (refD so sz s)) h.1.2.2 (fun Q => ?_) (fun Q => ?_)
      · simp only [X39_0, X39_1, X39_2, X39_5, X39_6, X39_7, X39_10, X39_11, Nat.zero_le, and_true, true_and, x_nb0, x_nb1, x_nbp, x_isL_int, x_isL_ref, x_isL_junk, x_isR_ref, x_cat_nil, x_cat_int, x_cat_ref, x_cat_long, Option.toList_some, Option.toList_none, List.cons_append, List.nil_append, Nat.reduceAdd, Nat.reduceLeDiff, Nat.reduceLT, t_tag_si, t_tag_sr, t_tag_sI, x_r_si, x_i_sr, t_r_sI, x_ia_si, x_ia_sI, x_ia_sr, x_ra_si, x_ra_sI, x_ra_sr, g_t0 hs, e36, h0, if_false]
      · simp only [X218_0, X218_1, X218_2, X218_5, X218_6, X218_7, X218_10, X218_11, Nat.zero_le, and_true, true_and, x_nb0, x_nb1, x_nbp, x_isL_int, x_isL_ref, x_isL_junk, x_isR_ref, x_cat_nil, x_cat_int, x_cat_ref, x_cat_long, Option.toList_some, Option.toList_none, List.cons_append, List.nil_append, Nat.reduceAdd, Nat.reduceLeDiff, Nat.reduceLT, t_tag_si, t_tag_sr, t_tag_sI, x_r_si, x_i_sr, t_r_sI, x_ia_si, x_ia_sI, x_ia_sr, x_ra_si, x_ra_sI, x_ra_sr, g_t41 hs, e216, h0, if_false]
  · have hm2 : ¬ (-2 : Int32) = nI 0 := by decide
    refine AQ_no (v := .int (-2)) h.1.2.2 (fun Q => ?_) (fun Q => ?_)
    · simp only [X39_0, X39_1, X39_2, X39_5, X39_6, X39_7, X39_10, X39_11, Nat.zero_le, and_true, true_and, x_nb0, x_nb1, x_nbp, x_isL_int, x_isL_ref, x_isL_junk, x_isR_ref, x_cat_nil, x_cat_int, x_cat_ref, x_cat_long, Option.toList_some, Option.toList_none, List.cons_append, List.nil_append, Nat.reduceAdd, Nat.reduceLeDiff, Nat.reduceLT, t_tag_si, t_tag_sr, t_tag_sI, x_r_si, x_i_sr, t_r_sI, x_ia_si, x_ia_sI, x_ia_sr, x_ra_si, x_ra_sI, x_ra_sr, g_t0 hs, S36n hv, hm2, if_false]
    · simp only [X218_0, X218_1, X218_2, X218_5, X218_6, X218_7, X218_10, X218_11, Nat.zero_le, and_true, true_and, x_nb0, x_nb1, x_nbp, x_isL_int, x_isL_ref, x_isL_junk, x_isR_ref, x_cat_nil, x_cat_int, x_cat_ref, x_cat_long, Option.toList_some, Option.toList_none, List.cons_append, List.nil_append, Nat.reduceAdd, Nat.reduceLeDiff, Nat.reduceLT, t_tag_si, t_tag_sr, t_tag_sI, x_r_si, x_i_sr, t_r_sI, x_ia_si, x_ia_sI, x_ia_sr, x_ra_si, x_ra_sI, x_ra_sr, g_t41 hs, S216n hv, hm2, if_false]
end S97
