/-! ===== film, copy ===== -/
section S9982
variable {L : Nat} {xs : Nat → Int32} {d : Nat} {w w' : x_W} {S nt r : Nat} {kd td mo kt : Nat → Nat} {tls : Nat → Nat → Nat} {tks : Nat → Nat → Nat → Nat} {so : Nat → Int32} {sz : Nat → Nat}
def pF : Nat → Nat → Bool := gp [14, 15, 16, 17, 18, 19, 20, 21, 52, 53, 54, 25, 26, 27, 60, 61, 62] []
theorem KA_F : KA pF := ⟨⟨rfl, rfl, rfl, rfl, rfl, rfl, rfl, rfl⟩, fun _ => ⟨rfl, rfl, rfl, rfl, rfl, rfl, rfl, rfl, rfl⟩, six ⟨fun _ => rfl, fun _ => rfl, fun _ => rfl, fun _ => rfl, fun _ => rfl, fun _ => rfl⟩, KL_gp rfl rfl⟩
theorem S40l (hs : Sh w) (hd : Sd w) {s : Nat} (h4 : s < 4) {dp : Nat → Nat} (hp : ∀ k, k < 20 → x_i w 26 k = nI (dp k)) (h0 : x_i w (14 + 2 * s) 0 = nI 2) {Q : Option Value → x_W → Prop} : ∀ m j, j + m = 20 → X_R L xs (d + 1) 40 31 [.ref 0, .int (nI s), .int (nI j)] [] (x_sI w (15 + 2 * s) (x_fn j (fun k => nI (dp k)) (x_i w (15 + 2 * s)))) Q = Q (some (.int (nI 20))) (x_sI w (15 + 2 * s) (x_fn 20 (fun k => nI (dp k)) (x_i w (15 + 2 * s)))) := by
  have sx := x_ix_nI h4 (show 4 < 2 ^ 31 by decide)
  have sc' := nI_cl (show s < 2 ^ 31 by omega)
  have n2 : nrI (nI 2) = fun v => v := by funext v; unfold nrI; rw [if_neg (by decide), if_neg (by decide)]
  intro m
  induction m with
  | zero =>
    intro j hj
    obtain rfl : j = 20 := by omega
    rw [X40_31]
    simp only [X40_32, X40_34, X40_62, X40_64, Nat.zero_le, and_true, true_and, x_nb0, x_nb1, x_nbp, x_isL_int, x_isL_ref, x_isL_junk, x_isR_ref, x_cat_nil, x_cat_int, x_cat_ref, x_cat_long, Option.toList_some, Option.toList_none, List.cons_append, List.nil_append, Nat.reduceAdd, Nat.reduceLeDiff, Nat.reduceLT, t_tag_si, t_tag_sr, t_tag_sI, x_r_si, x_i_sr, t_r_sI, x_ia_si, x_ia_sI, x_ia_sr, x_ra_si, x_ra_sI, x_ra_sr, nI_leT (Nat.le_refl 20) (show 20 < 2 ^ 31 by decide), if_true]
  | succ m ih =>
    intro j hj
    have jx := x_ix_nI (show j < 20 by omega) (show 20 < 2 ^ 31 by decide)
    have jc := nI_cl (show j < 2 ^ 31 by omega)
    have hsA : Sh (x_sI w (15 + 2 * s) (x_fn j (fun k => nI (dp k)) (x_i w (15 + 2 * s)))) := hs
    have hdA : Sd (x_sI w (15 + 2 * s) (x_fn j (fun k => nI (dp k)) (x_i w (15 + 2 * s)))) := hd
    obtain ⟨r1, r2, r3, r4⟩ := g_sh hs s h4
    have e26 : x_i (x_sI w (15 + 2 * s) (x_fn j (fun k => nI (dp k)) (x_i w (15 + 2 * s)))) 26 j = nI (dp j) := by rw [x_i_sIn _ _ _ (by omega)]; exact hp j (by omega)
    have e14 : x_i (x_sI w (15 + 2 * s) (x_fn j (fun k => nI (dp k)) (x_i w (15 + 2 * s)))) (14 + 2 * s) 0 = nI 2 := by rw [x_i_sIn _ _ _ (by omega)]; exact h0
    have e102 := fun (v : Int32) (Q' : Option Value → x_W → Prop) => S102 (L := L) (xs := xs) (d := d) hsA h4 (i := j) (show j < 40 by omega) (v := v) (Q := Q')
    rw [e14, n2] at e102
    have es := x_fn_s j (fun k => nI (dp k)) (x_i w (15 + 2 * s))
    have esi : x_si (x_sI w (15 + 2 * s) (x_fn j (fun k => nI (dp k)) (x_i w (15 + 2 * s)))) (15 + 2 * s) j (nI (dp j)) = x_sI w (15 + 2 * s) (x_fn (j + 1) (fun k => nI (dp k)) (x_i w (15 + 2 * s))) := by rw [x_si_sI]; exact congrArg _ es
    rw [← ih (j + 1) (by omega), X40_31]
    simp only [X40_32, X40_34, X40_37, X40_38, X40_41, X40_42, X40_43, X40_44, X40_45, X40_48, X40_51, X40_52, X40_53, X40_56, X40_59, Nat.zero_le, and_true, true_and, x_nb0, x_nb1, x_nbp, x_isL_int, x_isL_ref, x_isL_junk, x_isR_ref, x_cat_nil, x_cat_int, x_cat_ref, x_cat_long, Option.toList_some, Option.toList_none, List.cons_append, List.nil_append, Nat.reduceAdd, Nat.reduceLeDiff, Nat.reduceLT, t_tag_si, t_tag_sr, t_tag_sI, x_r_si, x_i_sr, t_r_sI, x_ia_si, x_ia_sI, x_ia_sr, x_ra_si, x_ra_sI, x_ra_sr, nI_leF (show j < 20 by omega) (show 20 < 2 ^ 31 by decide), if_false, g_t0 hsA, g_r0_6 hs, g_a6 hs, g_r0_5 hs, g_t0 hs, g_t23 hs, hd.1, g_a26 hs, sx, sc', r1, r2, jx, jc, e26, e102, esi, nI_add]
theorem S219l (hs : Sh w) {s : Nat} (h4 : s < 4) {dp : Nat → Nat} (hp : ∀ k, k < 20 → x_i w 61 k = nI (dp k)) {Q : Option Value → x_W → Prop} : ∀ m j, j + m = 40 → X_R L xs d 219 37 [.ref 41, .int (nI s), .int (nI j)] [] (x_sI w 54 (x_seg (40 * s) j (fun k => if k < 20 then nI (dp k) else nI 0) (x_i w 54))) Q = Q (some (.int (nI 20))) (x_sI w 54 (x_seg (40 * s) 40 (fun k => if k < 20 then nI (dp k) else nI 0) (x_i w 54))) := by
  intro m
  induction m with
  | zero =>
    intro j hj
    obtain rfl : j = 40 := by omega
    rw [X219_37]
    simp only [X219_38, X219_40, X219_76, X219_78, Nat.zero_le, and_true, true_and, x_nb0, x_nb1, x_nbp, x_isL_int, x_isL_ref, x_isL_junk, x_isR_ref, x_cat_nil, x_cat_int, x_cat_ref, x_cat_long, Option.toList_some, Option.toList_none, List.cons_append, List.nil_append, Nat.reduceAdd, Nat.reduceLeDiff, Nat.reduceLT, t_tag_si, t_tag_sr, t_tag_sI, x_r_si, x_i_sr, t_r_sI, x_ia_si, x_ia_sI, x_ia_sr, x_ra_si, x_ra_sI, x_ra_sr, nI_leT (Nat.le_refl 40) (show 40 < 2 ^ 31 by decide), if_true]
  | succ m ih =>
    intro j hj
    have jx4 := x_ix_nI (show 40 * s + j < 160 by omega) (show 160 < 2 ^ 31 by decide)
    have jc4 := nI_cl (show 40 * s + j < 2 ^ 31 by omega)
    have es := x_seg_s (40 * s) j (fun k => if k < 20 then nI (dp k) else nI 0) (x_i w 54)
    rw [← ih (j + 1) (by omega), X219_37]
    by_cases hj20 : j < 20
    · have jx := x_ix_nI hj20 (show 20 < 2 ^ 31 by decide)
      have jc := nI_cl (show j < 2 ^ 31 by omega)
      have e61 : x_i (x_sI w 54 (x_seg (40 * s) j (fun k => if k < 20 then nI (dp k) else nI 0) (x_i w 54))) 61 j = nI (dp j) := by rw [x_i_sIn _ _ _ (by decide)]; exact hp j hj20
      rw [if_pos hj20] at es
      simp only [X219_38, X219_40, X219_43, X219_44, X219_47, X219_49, X219_50, X219_51, X219_52, X219_53, X219_54, X219_56, X219_59, X219_60, X219_63, X219_64, X219_65, X219_69, X219_70, X219_73, Nat.zero_le, and_true, true_and, x_nb0, x_nb1, x_nbp, x_isL_int, x_isL_ref, x_isL_junk, x_isR_ref, x_cat_nil, x_cat_int, x_cat_ref, x_cat_long, Option.toList_some, Option.toList_none, List.cons_append, List.nil_append, Nat.reduceAdd, Nat.reduceLeDiff, Nat.reduceLT, t_tag_si, t_tag_sr, t_tag_sI, x_r_si, x_i_sr, t_r_sI, x_ia_si, x_ia_sI, x_ia_sr, x_ra_si, x_ra_sI, x_ra_sr, nI_leF (show j < 40 by omega) (show 40 < 2 ^ 31 by decide), if_false, g_t41 hs, g_r41_21 hs, g_a54 hs, nI_mul, nI_add, jx4, jc4, nI_leF hj20 (show 20 < 2 ^ 31 by decide), g_r41_35 hs, g_a61 hs, jx, jc, e61, x_si_sI, es]
    · rw [if_neg hj20] at es
      simp only [X219_38, X219_40, X219_43, X219_44, X219_47, X219_49, X219_50, X219_51, X219_52, X219_53, X219_54, X219_56, X219_68, X219_69, X219_70, X219_73, Nat.zero_le, and_true, true_and, x_nb0, x_nb1, x_nbp, x_isL_int, x_isL_ref, x_isL_junk, x_isR_ref, x_cat_nil, x_cat_int, x_cat_ref, x_cat_long, Option.toList_some, Option.toList_none, List.cons_append, List.nil_append, Nat.reduceAdd, Nat.reduceLeDiff, Nat.reduceLT, t_tag_si, t_tag_sr, t_tag_sI, x_r_si, x_i_sr, t_r_sI, x_ia_si, x_ia_sI, x_ia_sr, x_ra_si, x_ra_sI, x_ra_sr, nI_leF (show j < 40 by omega) (show 40 < 2 ^ 31 by decide), if_false, g_t41 hs, g_r41_21 hs, g_a54 hs, nI_mul, nI_add, jx4, jc4, nI_leT (Nat.not_lt.mp hj20) (show j < 2 ^ 31 by omega), if_true, x_si_sI, es]
theorem CA_film (hJ : J w S kd td mo kt nt r tls tks so sz) (u : Int32) : CA L xs (d + 12) 40 219 [.ref 0, .int u, x_junk] [.ref 41, .int u, x_junk] w := by
  have hs := hJ.sh
  by_cases hu : shn u
  · obtain ⟨s, h4, rfl⟩ := sh_of hu
    have e37 : ∀ (w : x_W) (Q' : Option Value → x_W → Prop), X_R L xs (d + 11) 37 0 [.int (nI s)] [] w Q' = Q' (some (.int (nI 1))) w := fun w Q' => by rw [S37 (d := d + 10), bI_t hu]
    have e138 := fun (w : x_W) (Q' : Option Value → x_W → Prop) => b138 (L := L) (xs := xs) (d := d + 11) (w := w) (Q := Q') hu
    have sx := x_ix_nI h4 (show 4 < 2 ^ 31 by decide)
    have sc' := nI_cl (show s < 2 ^ 31 by omega)
    have h := hJ.ag
    have e56 := fun (Q' : Option Value → x_W → Prop) => S56' (L := L) (xs := xs) (d := d + 8) (Q := Q') h.1.1
    have c1 : Ch (sm [25, 26, 27]) w (WXs w (XL S kd td mo kt)) := Ch_WX
    have h26 : ∀ k, k < 20 → x_i (WXs w (XL S kd td mo kt)) 26 k = nI (XD w (XL S kd td mo kt) 12 k) := fun k hk => WX_26 _ _ _ _ hk
    have hd1 := c1.sd h.1.1.sd
    generalize WXs w (XL S kd td mo kt) = w1 at *
    have hs1 := c1.sh hs
    obtain ⟨r1, r2, r3, r4⟩ := g_sh hs1 s h4
    have e101 := fun (Q' : Option Value → x_W → Prop) => S101 (L := L) (xs := xs) (d := d + 10) hs1 h4 (v := nI 2) (n := nI 20) (Q := Q')
    have c2 := Ch_shW (w := w1) h4 (v := nI 2) (n := nI 20)
    obtain ⟨i1, i2, i3, i4⟩ := shW_i (w := w1) (s := s) (v := nI 2) (n := nI 20)
    generalize shW w1 s (nI 2) (nI 20) = w2 at *
    have hs2 := c2.sh hs1
    have l1 := fun Q => S40l (L := L) (xs := xs) (d := d + 11) hs2 (c2.sd hd1) h4 (dp := XD w (XL S kd td mo kt) 12) (fun k hk => by rw [i4 26 (by omega) (by omega)]; exact h26 k hk) i1 (Q := Q) 20 0 rfl
    rw [x_fn_0, x_sI_id] at l1
    have c3 : Ch pH w2 (x_sI w2 (15 + 2 * s) (x_fn 20 (fun k => nI (XD w (XL S kd td mo kt) 12 k)) (x_i w2 (15 + 2 * s)))) := Ch_sI (fun k => (pH_s s h4 k).2)
    have j1 : x_i (x_sI w2 (15 + 2 * s) (x_fn 20 (fun k => nI (XD w (XL S kd td mo kt) 12 k)) (x_i w2 (15 + 2 * s)))) (15 + 2 * s) = x_fn 20 (fun k => nI (XD w (XL S kd td mo kt) 12 k)) (x_fn 40 (fun _ => nI 0) (x_i w1 (15 + 2 * s))) := by rw [x_i_sI, i3]
    have jo : ∀ b, b ≠ 15 + 2 * s → x_i (x_sI w2 (15 + 2 * s) (x_fn 20 (fun k => nI (XD w (XL S kd td mo kt) 12 k)) (x_i w2 (15 + 2 * s)))) b = x_i w2 b := fun b hb => x_i_sIn _ _ _ hb
    generalize x_sI w2 (15 + 2 * s) (x_fn 20 (fun k => nI (XD w (XL S kd td mo kt) 12 k)) (x_i w2 (15 + 2 * s))) = w3 at *
    have q1 : Ch pF w w3 := (sm_gp c1 rfl).trans ((gp_up c2 rfl rfl).trans (gp_up c3 rfl rfl))
    have hs3 := q1.sh hs
    have hM3 : CM w3 S kd td mo kt := h.2.1.1.gen q1 rfl (fun _ => ⟨rfl, rfl, rfl, rfl⟩)
    have e174 := fun (Q' : Option Value → x_W → Prop) => S174 (L := L) (xs := xs) (d := d + 11) (Q := Q') hs3 hM3.hS hM3.S6
    have e175 := fun (Q' : Option Value → x_W → Prop) => S175' (L := L) (xs := xs) (d := d + 9) (Q := Q') (sm := nI (2 ^ S - 1)) hM3
    rw [ML_all hM3.S6] at e175
    have eM : ∀ k, k < 20 → MD w3 (XL S kd td mo kt) 12 k = XD w (XL S kd td mo kt) 12 k := by
      intro k hk
      rw [XD_MD h.2.2.1 _ _ k hk]
      unfold MD
      rw [q1.i (fun _ => rfl : ∀ k, pF 42 k = false), q1.2.2 41 1 rfl]
    have c4 : Ch (sm [60, 61, 62]) w3 (WHs w3 (XL S kd td mo kt)) := Ch_WH
    have h61 : ∀ k, k < 20 → x_i (WHs w3 (XL S kd td mo kt)) 61 k = nI (XD w (XL S kd td mo kt) 12 k) := fun k hk => by rw [← eM k hk]; exact WH_61 _ _ _ _ hk
    generalize WHs w3 (XL S kd td mo kt) = w4 at *
    have hs4 := c4.sh hs3
    have o4 : ∀ b, (∀ k, sm [60, 61, 62] b k = false) → x_i w4 b = x_i w3 b := fun b hb => c4.i hb
    have c5 : Ch pH w4 (x_si (x_si w4 52 s (nI 2)) 53 s (nI 20)) := (Ch_si rfl).trans (Ch_si rfl)
    have g52 : x_i (x_si (x_si w4 52 s (nI 2)) 53 s (nI 20)) 52 = upd (x_i w4 52) s (nI 2) := by rw [x_i_sin _ _ _ _ (by decide), x_i_si]
    have g53 : x_i (x_si (x_si w4 52 s (nI 2)) 53 s (nI 20)) 53 = upd (x_i w4 53) s (nI 20) := by rw [x_i_si, x_i_sin _ _ _ _ (by decide)]
    have go : ∀ b, b ≠ 52 → b ≠ 53 → x_i (x_si (x_si w4 52 s (nI 2)) 53 s (nI 20)) b = x_i w4 b := fun b h1 h2 => by rw [x_i_sin _ _ _ _ h2, x_i_sin _ _ _ _ h1]
    have hs4A : Sh (x_si w4 52 s (nI 2)) := hs4
    have e0 : ∀ Q, X_R L xs (d + 12) 219 0 [.ref 41, .int (nI s), x_junk] [] w3 Q = X_R L xs (d + 12) 219 37 [.ref 41, .int (nI s), .int (nI 0)] [] (x_si (x_si w4 52 s (nI 2)) 53 s (nI 20)) Q := by
      intro Q
      simp only [X219_0, X219_1, X219_2, X219_3, X219_6, X219_12, X219_13, X219_14, X219_17, X219_20, X219_21, X219_24, X219_25, X219_26, X219_27, X219_28, X219_31, X219_32, X219_34, X219_35, X219_36, Nat.zero_le, and_true, true_and, x_nb0, x_nb1, x_nbp, x_isL_int, x_isL_ref, x_isL_junk, x_isR_ref, x_cat_nil, x_cat_int, x_cat_ref, x_cat_long, Option.toList_some, Option.toList_none, List.cons_append, List.nil_append, Nat.reduceAdd, Nat.reduceLeDiff, Nat.reduceLT, t_tag_si, t_tag_sr, t_tag_sI, x_r_si, x_i_sr, t_r_sI, x_ia_si, x_ia_sI, x_ia_sr, x_ra_si, x_ra_sI, x_ra_sr, e138, n10, if_false, g_t41 hs3, e174, e175, g_t41 hs4, g_r41_19 hs4, g_a52 hs4, sx, sc', g_r41_20 hs4, g_a53 hs4]
    have hs5 := c5.sh hs4
    generalize x_si (x_si w4 52 s (nI 2)) 53 s (nI 20) = w5 at *
    have l2 := fun Q => S219l (L := L) (xs := xs) (d := d + 12) hs5 h4 (dp := XD w (XL S kd td mo kt) 12) (fun k hk => by rw [go 61 (by decide) (by decide)]; exact h61 k hk) (Q := Q) 40 0 rfl
    rw [x_seg_0, x_sI_id] at l2
    have c6 : Ch pH w5 (x_sI w5 54 (x_seg (40 * s) 40 (fun k => if k < 20 then nI (XD w (XL S kd td mo kt) 12 k) else nI 0) (x_i w5 54))) := Ch_sI (fun _ => rfl)
    have k54 : x_i (x_sI w5 54 (x_seg (40 * s) 40 (fun k => if k < 20 then nI (XD w (XL S kd td mo kt) 12 k) else nI 0) (x_i w5 54))) 54 = x_seg (40 * s) 40 (fun k => if k < 20 then nI (XD w (XL S kd td mo kt) 12 k) else nI 0) (x_i w5 54) := x_i_sI _ _ _
    have ko : ∀ b, b ≠ 54 → x_i (x_sI w5 54 (x_seg (40 * s) 40 (fun k => if k < 20 then nI (XD w (XL S kd td mo kt) 12 k) else nI 0) (x_i w5 54))) b = x_i w5 b := fun b hb => x_i_sIn _ _ _ hb
    generalize x_sI w5 54 (x_seg (40 * s) 40 (fun k => if k < 20 then nI (XD w (XL S kd td mo kt) 12 k) else nI 0) (x_i w5 54)) = w6 at *
    have cc : Ch pF w w6 := q1.trans ((sm_gp c4 rfl).trans ((gp_up c5 rfl rfl).trans (gp_up c6 rfl rfl)))
    have t54 : x_i w5 54 = x_i w 54 := by rw [go 54 (by decide) (by decide), o4 54 (fun _ => rfl), jo 54 (by omega), i4 54 (by omega) (by omega), c1.i (fun _ => rfl : ∀ k, sm [25, 26, 27] 54 k = false)]
    have low : ∀ b, b < 22 → x_i w6 b = x_i w3 b := fun b hb => by rw [ko b (by omega), go b (by omega) (by omega), o4 b (fun k => by
      have hb' : ¬ b = 60 ∧ ¬ b = 61 ∧ ¬ b = 62 := by omega
      simp only [sm, List.elem_cons, List.elem_nil, Bool.or_false, beq_false_of_ne hb'.1, beq_false_of_ne hb'.2.1, beq_false_of_ne hb'.2.2])]
    have low1 : ∀ b, b < 22 → x_i w1 b = x_i w b := fun b hb => c1.i (fun k => by
      have hb' : ¬ b = 25 ∧ ¬ b = 26 ∧ ¬ b = 27 := by omega
      simp only [sm, List.elem_cons, List.elem_nil, Bool.or_false, beq_false_of_ne hb'.1, beq_false_of_ne hb'.2.1, beq_false_of_ne hb'.2.2])
    have hSH : SHT w6 (updF so s (nI 2)) (updN sz s 20) := by
      refine hJ.2.1.fill (Or.inr (Or.inr (Or.inr rfl))) (by decide) ?_ ?_ ?_ ?_ ?_ ?_ ?_
      · rw [low _ (by omega), jo _ (by omega)]; exact i1
      · rw [low _ (by omega), jo _ (by omega)]; exact i2
      · rw [ko 52 (by decide), g52, o4 52 (fun _ => rfl), jo 52 (by omega), i4 52 (by omega) (by omega), c1.i (fun _ => rfl : ∀ k, sm [25, 26, 27] 52 k = false)]
      · rw [ko 53 (by decide), g53, o4 53 (fun _ => rfl), jo 53 (by omega), i4 53 (by omega) (by omega), c1.i (fun _ => rfl : ∀ k, sm [25, 26, 27] 53 k = false)]
      · intro b h1 h2 h3
        rw [low b h3, jo b h2, i4 b h1 h2, low1 b h3]
      · intro k hk
        rw [low _ (by omega), j1, k54, x_seg_in hk]
        by_cases h20 : k < 20
        · rw [x_fn_in h20, if_pos h20]
        · rw [x_fn_out (by omega), x_fn_in hk, if_neg h20]
      · intro q hq
        rw [k54, x_seg_out hq, t54]
    have hF : FarOk w6 := h.1.2.2.of (cc.2.2 23 6 rfl) (cc.i (fun _ => rfl)) (cc.i (fun _ => rfl))
    refine ⟨.int (nI 20), w3, w6, (hJ.sht cc KA_F hF ⟨fun _ => ⟨rfl, rfl, rfl, rfl, rfl, rfl, rfl, rfl⟩, rfl, rfl, rfl, rfl, rfl, rfl⟩ hSH).jj, fun Q => ?_, fun Q => ?_⟩
    · rw [← l1 Q]
      simp only [X40_0, X40_1, X40_4, X40_10, X40_11, X40_14, X40_17, X40_18, X40_21, X40_22, X40_23, X40_24, X40_26, X40_29, X40_30, Nat.zero_le, and_true, true_and, x_nb0, x_nb1, x_nbp, x_isL_int, x_isL_ref, x_isL_junk, x_isR_ref, x_cat_nil, x_cat_int, x_cat_ref, x_cat_long, Option.toList_some, Option.toList_none, List.cons_append, List.nil_append, Nat.reduceAdd, Nat.reduceLeDiff, Nat.reduceLT, t_tag_si, t_tag_sr, t_tag_sI, x_r_si, x_i_sr, t_r_sI, x_ia_si, x_ia_sI, x_ia_sr, x_ra_si, x_ra_sI, x_ra_sr, e37, n10, if_false, g_t0 hs, g_r0_4 hs, g_t22 hs, e56, g_t0 hs1, g_r0_6 hs1, g_a6 hs1, sx, sc', r1, r2, e101]
    · rw [e0 Q]
      exact l2 Q
  · refine CA_no (v := .int (-2)) hJ (fun Q => ?_) (fun Q => ?_)
    · simp only [X40_0, X40_1, X40_4, X40_7, X40_9, Nat.zero_le, and_true, true_and, x_nb0, x_nb1, x_nbp, x_isL_int, x_isL_ref, x_isL_junk, x_isR_ref, x_cat_nil, x_cat_int, x_cat_ref, x_cat_long, Option.toList_some, Option.toList_none, List.cons_append, List.nil_append, Nat.reduceAdd, Nat.reduceLeDiff, Nat.reduceLT, t_tag_si, t_tag_sr, t_tag_sI, x_r_si, x_i_sr, t_r_sI, x_ia_si, x_ia_sI, x_ia_sr, x_ra_si, x_ra_sI, x_ra_sr, S37, bI_f hu, if_true]
    · simp only [X219_0, X219_1, X219_2, X219_3, X219_6, X219_9, X219_11, Nat.zero_le, and_true, true_and, x_nb0, x_nb1, x_nbp, x_isL_int, x_isL_ref, x_isL_junk, x_isR_ref, x_cat_nil, x_cat_int, x_cat_ref, x_cat_long, Option.toList_some, Option.toList_none, List.cons_append, List.nil_append, Nat.reduceAdd, Nat.reduceLeDiff, Nat.reduceLT, t_tag_si, t_tag_sr, t_tag_sI, x_r_si, x_i_sr, t_r_sI, x_ia_si, x_ia_sI, x_ia_sr, x_ra_si, x_ra_sI, x_ra_sr, f138 hu, if_true]
end S9982
