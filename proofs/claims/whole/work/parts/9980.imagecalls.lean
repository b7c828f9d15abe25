/-! ===== the calls image, back ===== -/
theorem cpy_in {f g : Nat → Int32} {n j : Nat} (h : j < n) : va_cpy f g 0 0 n j = f j := sb_cpy0 h
section S9980
variable {L : Nat} {xs : Nat → Int32} {d : Nat} {w w' : x_W} {S nt r : Nat} {kd td mo kt : Nat → Nat} {tls : Nat → Nat → Nat} {tks : Nat → Nat → Nat → Nat} {so : Nat → Int32} {sz : Nat → Nat}
def pI : Nat → Nat → Bool := gp [7, 8, 9, 50, 51] [(41, 13), (41, 14), (41, 15), (41, 16)]
theorem KA_I : KA pI := ⟨⟨rfl, rfl, rfl, rfl, rfl, rfl, rfl, rfl⟩, fun _ => ⟨rfl, rfl, rfl, rfl, rfl, rfl, rfl, rfl, rfl⟩, six ⟨fun _ => rfl, fun _ => rfl, fun _ => rfl, fun _ => rfl, fun _ => rfl, fun _ => rfl⟩, KL_gp rfl rfl⟩
theorem imgW_i (w : x_W) (r : Int32) : x_i (imgW w r) 7 0 = nI 1 ∧ x_i (imgW w r) 7 1 = r ∧ x_i (imgW w r) 7 3 = x_i w 23 1 ∧ x_i (imgW w r) 7 5 = x_i w 22 4 ∧ x_i (imgW w r) 8 = va_cpy (x_i w 24) (x_i w 8) 0 0 20 ∧ x_i (imgW w r) 9 = va_cpy (x_i w 30) (x_i w 9) 0 0 6 := by
  unfold imgW
  refine ⟨?_, ?_, ?_, ?_, ?_, ?_⟩
  · rw [x_i_si, upd_o (by decide), x_i_sIn _ _ _ (by decide), x_i_si, upd_o (by decide), x_i_sIn _ _ _ (by decide), x_i_si, upd_o (by decide), x_i_si, upd_s]
  · rw [x_i_si, upd_o (by decide), x_i_sIn _ _ _ (by decide), x_i_si, upd_o (by decide), x_i_sIn _ _ _ (by decide), x_i_si, upd_s]
  · rw [x_i_si, upd_o (by decide), x_i_sIn _ _ _ (by decide), x_i_si, upd_s]
  · rw [x_i_si, upd_s]
  · rw [x_i_sin _ _ _ _ (by decide), x_i_sIn _ _ _ (by decide), x_i_sin _ _ _ _ (by decide), x_i_sI]
  · rw [x_i_sin _ _ _ _ (by decide), x_i_sI]
theorem imgM_i (w : x_W) : x_i (imgM w) 41 13 = nI 1 ∧ x_i (imgM w) 41 14 = x_i w 41 2 ∧ x_i (imgM w) 41 15 = x_i w 41 1 ∧ x_i (imgM w) 41 16 = x_i w 41 12 ∧ x_i (imgM w) 50 = x_fn 20 (x_i w 42) (x_i w 50) ∧ x_i (imgM w) 51 = x_fn 6 (x_i w 46) (x_i w 51) := by
  unfold imgM
  refine ⟨?_, ?_, ?_, ?_, ?_, ?_⟩
  · rw [x_i_sIn _ _ _ (by decide), x_i_sIn _ _ _ (by decide), x_i_si, upd_o (by decide), x_i_si, upd_o (by decide), x_i_si, upd_o (by decide), x_i_si, upd_s]
  · rw [x_i_sIn _ _ _ (by decide), x_i_sIn _ _ _ (by decide), x_i_si, upd_o (by decide), x_i_si, upd_o (by decide), x_i_si, upd_s]
  · rw [x_i_sIn _ _ _ (by decide), x_i_sIn _ _ _ (by decide), x_i_si, upd_o (by decide), x_i_si, upd_s]
  · rw [x_i_sIn _ _ _ (by decide), x_i_sIn _ _ _ (by decide), x_i_si, upd_s]
  · rw [x_i_sIn _ _ _ (by decide), x_i_sI]
  · rw [x_i_sI]
theorem CdM_cg {C C' : Nat → Int32} (h : CdM C) (e : ∀ k, k < 20 → C' k = C k) : CdM C' := fun k hk => by rw [e k hk]; exact h k hk
theorem Sy_cg {C C' : Nat → Int32} (h : Sy C) (e : ∀ k, k < 20 → C' k = C k) : Sy C' := fun k o hk ho => by rw [e k hk, e o ho]; exact h k o hk ho
theorem CA_image (hJ : J w S kd td mo kt nt r tls tks so sz) : CA L xs (d + 12) 44 224 [.ref 0] [.ref 41, x_junk] w := by
  have hs := hJ.sh
  obtain ⟨hG, hT, hTM, hR, hRM, hr⟩ := hJ.1
  have hRM' : x_i w 41 12 = nI r := hRM
  have e76 := fun (Q' : Option Value → x_W → Prop) => S76 (L := L) (xs := xs) (d := d + 11) (Q := Q') (r := nI r) hs
  obtain ⟨i1, i2, i3, i4, i5, i6⟩ := imgW_i w (nI r)
  have c1 : Ch pI w (imgW w (nI r)) := (Ch_si rfl).trans ((Ch_si rfl).trans ((Ch_sI (fun _ => rfl)).trans ((Ch_si rfl).trans ((Ch_sI (fun _ => rfl)).trans (Ch_si rfl)))))
  have hs1 := c1.sh hs
  generalize imgW w (nI r) = w1 at *
  have e224 := fun (Q' : Option Value → x_W → Prop) => S224 (L := L) (xs := xs) (d := d + 12) (Q := Q') hs1
  obtain ⟨m1, m2, m3, m4, m5, m6⟩ := imgM_i w1
  have c2 : Ch pI w1 (imgM w1) := (Ch_si rfl).trans ((Ch_si rfl).trans ((Ch_si rfl).trans ((Ch_si rfl).trans ((Ch_sI (fun _ => rfl)).trans (Ch_sI (fun _ => rfl))))))
  have f412 : x_i w1 41 2 = x_i w 41 2 := c1.2.2 41 2 rfl
  have f411 : x_i w1 41 1 = x_i w 41 1 := c1.2.2 41 1 rfl
  have f4112 : x_i w1 41 12 = x_i w 41 12 := c1.2.2 41 12 rfl
  have f42 : x_i w1 42 = x_i w 42 := c1.i (fun _ => rfl)
  have f46 : x_i w1 46 = x_i w 46 := c1.i (fun _ => rfl)
  have c2m : Ch (gp [50, 51] [(41, 13), (41, 14), (41, 15), (41, 16)]) w1 (imgM w1) := (Ch_si rfl).trans ((Ch_si rfl).trans ((Ch_si rfl).trans ((Ch_si rfl).trans ((Ch_sI (fun _ => rfl)).trans (Ch_sI (fun _ => rfl))))))
  have g7 : x_i (imgM w1) 7 = x_i w1 7 := c2m.i (fun _ => rfl)
  have g8 : x_i (imgM w1) 8 = x_i w1 8 := c2m.i (fun _ => rfl)
  have g9 : x_i (imgM w1) 9 = x_i w1 9 := c2m.i (fun _ => rfl)
  rw [f412] at e224
  generalize imgM w1 = w2 at *
  have cc := c1.trans c2
  have eS : x_i w 41 2 = nI S := hG.2.1.1.hS
  refine ⟨.int (nI S), w1, w2, ⟨S, kd, td, mo, kt, nt, r, tls, tks, so, sz, hJ.1.gen cc KA_I (hG.1.2.2.of (cc.2.2 23 6 rfl) (cc.i (fun _ => rfl)) (cc.i (fun _ => rfl))), hJ.2.1.gen cc (four ⟨fun _ => ⟨rfl, rfl⟩, fun _ => ⟨rfl, rfl⟩, fun _ => ⟨rfl, rfl⟩, fun _ => ⟨rfl, rfl⟩⟩) (fun _ => ⟨rfl, rfl, rfl⟩), hJ.2.2.1.gen cc rfl rfl (fun _ => ⟨rfl, rfl, rfl⟩), Or.inr ⟨by rw [g7]; exact i1, m1, S, r, kt, Nat.le_refl _, hr, ⟨by rw [g7, i4]; exact hG.1.1.hS, by rw [m2, f412, eS]⟩, ⟨by rw [g7]; exact i2, by rw [m4, f4112, hRM']⟩, by rw [g7, i3, m3, f411]; exact hG.2.2.1.2, fun k hk => ?_, fun q hq => ⟨?_, ?_, (hG.1.1.bd q hq).2.2.2⟩, ?_, ?_⟩, cc.len hJ.2.2.2.2⟩, fun Q => ?_, fun Q => ?_⟩
  · rw [g8, i5, m5, cpy_in hk, x_fn_in hk, f42]
    exact hG.2.2.1.1 k hk
  · rw [g9, i6, cpy_in hq]
    exact (hG.1.1.X.1 q hq).2.2.2
  · rw [m6, x_fn_in hq, f46]
    exact (hG.2.1.1.M q hq).2.2.2.1
  · rw [g8, i5]
    exact CdM_cg hG.2.2.2.1 (fun k hk => cpy_in hk)
  · rw [g8, i5]
    exact Sy_cg hG.2.2.2.2 (fun k hk => cpy_in hk)
  · have e22 : x_i w1 22 4 = nI S := (c1.2.2 22 4 rfl).trans hG.1.1.hS
    simp only [X44_0, X44_1, X44_4, X44_5, X44_8, X44_9, X44_12, X44_13, X44_16, X44_19, X44_20, X44_23, X44_26, Nat.zero_le, and_true, true_and, x_nb0, x_nb1, x_nbp, x_isL_int, x_isL_ref, x_isL_junk, x_isR_ref, x_cat_nil, x_cat_int, x_cat_ref, x_cat_long, Option.toList_some, Option.toList_none, List.cons_append, List.nil_append, Nat.reduceAdd, Nat.reduceLeDiff, Nat.reduceLT, t_tag_si, t_tag_sr, t_tag_sI, x_r_si, x_i_sr, t_r_sI, x_ia_si, x_ia_sI, x_ia_sr, x_ra_si, x_ra_sI, x_ra_sr, g_t0 hs, g_r0_7 hs, g_t7 hs, g_r0_5 hs, g_r0_4 hs, hR.1, e76, g_t0 hs1, g_r0_4 hs1, g_t22 hs1, e22]
  · rw [e224 Q, eS]
theorem bakW_i (w : x_W) : x_i (bakW w) 24 = va_cpy (x_i w 8) (x_i w 24) 0 0 20 ∧ x_i (bakW w) 23 6 = nI 0 ∧ x_i (bakW w) 23 1 = x_i w 7 3 ∧ x_i (bakW w) 30 = va_cpy (x_i w 9) (x_i w 30) 0 0 6 ∧ x_i (bakW w) 22 4 = x_i w 7 5 := by
  unfold bakW
  refine ⟨?_, ?_, ?_, ?_, ?_⟩
  · rw [x_i_sin _ _ _ _ (by decide), x_i_sIn _ _ _ (by decide), x_i_sin _ _ _ _ (by decide), x_i_sin _ _ _ _ (by decide), x_i_sI]
  · rw [x_i_sin _ _ _ _ (by decide), x_i_sIn _ _ _ (by decide), x_i_si, upd_o (by decide), x_i_si, upd_s]
  · rw [x_i_sin _ _ _ _ (by decide), x_i_sIn _ _ _ (by decide), x_i_si, upd_s]
  · rw [x_i_sin _ _ _ _ (by decide), x_i_sI]
  · rw [x_i_si, upd_s]
theorem bakM_i (w : x_W) : x_i (bakM w) 41 2 = x_i w 41 14 ∧ x_i (bakM w) 41 1 = x_i w 41 15 ∧ x_i (bakM w) 41 12 = x_i w 41 16 ∧ x_i (bakM w) 42 = x_fn 20 (x_i w 50) (x_i w 42) ∧ x_i (bakM w) 46 = x_fn 6 (x_i w 51) (x_i w 46) := by
  unfold bakM
  refine ⟨?_, ?_, ?_, ?_, ?_⟩
  · rw [x_i_sIn _ _ _ (by decide), x_i_sIn _ _ _ (by decide), x_i_si, upd_o (by decide), x_i_si, upd_o (by decide), x_i_si, upd_s]
  · rw [x_i_sIn _ _ _ (by decide), x_i_sIn _ _ _ (by decide), x_i_si, upd_o (by decide), x_i_si, upd_s]
  · rw [x_i_sIn _ _ _ (by decide), x_i_sIn _ _ _ (by decide), x_i_si, upd_s]
  · rw [x_i_sIn _ _ _ (by decide), x_i_sI]
  · rw [x_i_sI]
def pB : Nat → Nat → Bool := gp [24, 30, 42, 46] [(23, 6), (23, 1), (22, 4), (0, 3), (41, 2), (41, 1), (41, 12)]
theorem CA_back (hJ : J w S kd td mo kt nt r tls tks so sz) : CA L xs (d + 12) 45 225 [.ref 0] [.ref 41, x_junk] w := by
  have hs := hJ.sh
  rcases hJ.2.2.2.1 with ⟨h0, h1⟩ | ⟨h0, h1, S', r', kt', hSS, hr', ⟨a1, a2⟩, ⟨b1, b2⟩, a3, a4, a5, a6, a7⟩
  · refine CA_no (v := .int (-3)) hJ (fun Q => ?_) (fun Q => ?_)
    · simp only [X45_0, X45_1, X45_4, X45_7, X45_10, X45_12, Nat.zero_le, and_true, true_and, x_nb0, x_nb1, x_nbp, x_isL_int, x_isL_ref, x_isL_junk, x_isR_ref, x_cat_nil, x_cat_int, x_cat_ref, x_cat_long, Option.toList_some, Option.toList_none, List.cons_append, List.nil_append, Nat.reduceAdd, Nat.reduceLeDiff, Nat.reduceLT, t_tag_si, t_tag_sr, t_tag_sI, x_r_si, x_i_sr, t_r_sI, x_ia_si, x_ia_sI, x_ia_sr, x_ra_si, x_ra_sI, x_ra_sr, g_t0 hs, g_r0_7 hs, g_t7 hs, h0, if_true]
    · simp only [X225_0, X225_1, X225_4, X225_7, X225_9, Nat.zero_le, and_true, true_and, x_nb0, x_nb1, x_nbp, x_isL_int, x_isL_ref, x_isL_junk, x_isR_ref, x_cat_nil, x_cat_int, x_cat_ref, x_cat_long, Option.toList_some, Option.toList_none, List.cons_append, List.nil_append, Nat.reduceAdd, Nat.reduceLeDiff, Nat.reduceLT, t_tag_si, t_tag_sr, t_tag_sI, x_r_si, x_i_sr, t_r_sI, x_ia_si, x_ia_sI, x_ia_sr, x_ra_si, x_ra_sI, x_ra_sr, g_t41 hs, h1, if_true]
  · obtain ⟨hG, hT, hTM, hR, hRM, hr⟩ := hJ.1
    have e77 := fun (Q' : Option Value → x_W → Prop) => S77 (L := L) (xs := xs) (d := d + 10) (Q := Q') hs
    obtain ⟨i1, i2, i3, i4, i5⟩ := bakW_i w
    have c1 : Ch pB w (bakW w) := (Ch_sI (fun _ => rfl)).trans ((Ch_si rfl).trans ((Ch_si rfl).trans ((Ch_sI (fun _ => rfl)).trans (Ch_si rfl))))
    have c1x : Ch (gp [24, 30] [(23, 6), (23, 1), (22, 4)]) w (bakW w) := (Ch_sI (fun _ => rfl)).trans ((Ch_si rfl).trans ((Ch_si rfl).trans ((Ch_sI (fun _ => rfl)).trans (Ch_si rfl))))
    have hs1 := c1.sh hs
    generalize bakW w = w1 at *
    have hT1 := hT.gen c1 rfl (KL_gp rfl rfl)
    have e13 := fun (Q' : Option Value → x_W → Prop) => S13 (L := L) (xs := xs) (d := d + 11) (Q := Q') hs1 hT1 hr'
    have e71 : x_i w1 7 1 = nI r' := by rw [c1.i (fun _ => rfl : ∀ k, pB 7 k = false)]; exact b1
    have c2 := ChR_obey (w := w1) (l := []) r'
    have o03 := obey_03 (w := w1) r'
    have o22 := obey_22 (w := w1) r'
    have ei : ∀ b, b ≠ 0 → x_i (obeyW w1 r') b = x_i w1 b := fun b hb => by unfold obeyW; rw [x_i_sr, x_i_sin _ _ _ _ hb]
    have hT2 := hT1.chR c2 rfl (fun a ha k => p03_law rfl ha k)
    have hs2 := c2.sh hs1
    have hd2 := c2.sd (c1.sd hG.1.1.sd)
    have hlen : (obeyW w1 r').1 = w1.1 := c2.1
    generalize obeyW w1 r' = w2 at *
    have f4113 : x_i w2 41 13 = nI 1 := by rw [ei 41 (by decide), c1x.2.2 41 13 rfl]; exact h1
    have e225 := fun (Q' : Option Value → x_W → Prop) => S225 (L := L) (xs := xs) (d := d + 12) (Q := Q') hs2 f4113
    obtain ⟨m1, m2, m3, m4, m5⟩ := bakM_i w2
    have c3 : Ch (gp [42, 46] [(41, 2), (41, 1), (41, 12)]) w2 (bakM w2) := (Ch_si rfl).trans ((Ch_si rfl).trans ((Ch_si rfl).trans ((Ch_sI (fun _ => rfl)).trans (Ch_sI (fun _ => rfl)))))
    have g4114 : x_i w2 41 14 = nI S' := by rw [ei 41 (by decide), c1x.2.2 41 14 rfl]; exact a2
    have g4115 : x_i w2 41 15 = x_i w 41 15 := by rw [ei 41 (by decide), c1x.2.2 41 15 rfl]
    have g4116 : x_i w2 41 16 = nI r' := by rw [ei 41 (by decide), c1x.2.2 41 16 rfl]; exact b2
    have g50 : x_i w2 50 = x_i w 50 := by rw [ei 50 (by decide), c1x.i (fun _ => rfl : ∀ k, gp [24, 30] [(23, 6), (23, 1), (22, 4)] 50 k = false)]
    have g51 : x_i w2 51 = x_i w 51 := by rw [ei 51 (by decide), c1x.i (fun _ => rfl : ∀ k, gp [24, 30] [(23, 6), (23, 1), (22, 4)] 51 k = false)]
    rw [g4114] at e225
    generalize hw3 : bakM w2 = w3 at *
    have ef : ∀ b, (∀ k, gp [42, 46] [(41, 2), (41, 1), (41, 12)] b k = false) → b ≠ 0 → (∀ k, gp [24, 30] [(23, 6), (23, 1), (22, 4)] b k = false) → x_i w3 b = x_i w b := fun b q1 q2 q3 => by rw [c3.i q1, ei b q2, c1x.i q3]
    have e24 : x_i w3 24 = va_cpy (x_i w 8) (x_i w 24) 0 0 20 := by rw [c3.i (fun _ => rfl : ∀ k, gp [42, 46] [(41, 2), (41, 1), (41, 12)] 24 k = false), ei 24 (by decide), i1]
    have e236 : x_i w3 23 6 = nI 0 := by rw [c3.2.2 23 6 rfl, ei 23 (by decide), i2]
    have e231 : x_i w3 23 1 = x_i w 7 3 := by rw [c3.2.2 23 1 rfl, ei 23 (by decide), i3]
    have e30 : x_i w3 30 = va_cpy (x_i w 9) (x_i w 30) 0 0 6 := by rw [c3.i (fun _ => rfl : ∀ k, gp [42, 46] [(41, 2), (41, 1), (41, 12)] 30 k = false), ei 30 (by decide), i4]
    have e224 : x_i w3 22 4 = nI S' := by rw [c3.2.2 22 4 rfl, ei 22 (by decide), i5, a1]
    have e35 : ∀ s, s < 6 → x_i w3 (35 + s) = x_i w (35 + s) := fun s hs' => ef _ (six (p := fun s => ∀ k, gp [42, 46] [(41, 2), (41, 1), (41, 12)] (35 + s) k = false) ⟨fun _ => rfl, fun _ => rfl, fun _ => rfl, fun _ => rfl, fun _ => rfl, fun _ => rfl⟩ s hs') (by omega) (six (p := fun s => ∀ k, gp [24, 30] [(23, 6), (23, 1), (22, 4)] (35 + s) k = false) ⟨fun _ => rfl, fun _ => rfl, fun _ => rfl, fun _ => rfl, fun _ => rfl, fun _ => rfl⟩ s hs')
    have hC3 : CdM (x_i w3 24) := by rw [e24]; exact CdM_cg a6 (fun k hk => cpy_in hk)
    have hS3 : Sy (x_i w3 24) := by rw [e24]; exact Sy_cg a7 (fun k hk => cpy_in hk)
    have hs3 := c3.sh hs2
    have h6 := hG.1.1.S6
    have hX3 : CX w3 S' kd td mo kt' := by
      refine ⟨hs3, c3.sd hd2, e224, by omega, ⟨fun s hs' => ?_, fun s hs' => ?_⟩, fun s hs' => ?_, CdM_nb hC3⟩
      · have q1 := hG.1.1.X.1 s hs'
        rw [e35 s hs', e30, cpy_in hs']
        exact ⟨q1.1, q1.2.1, q1.2.2.1, (a5 s hs').1⟩
      · rw [e35 s (by omega)]
        exact hG.1.1.X.2 s (by omega)
      · have q1 := hG.1.1.bd s hs'
        exact ⟨q1.1, q1.2.1, q1.2.2.1, (a5 s hs').2.2⟩
    have hM3 : CM w3 S' kd td mo kt' := by
      refine ⟨hs3, by rw [m1, g4114], by omega, fun s hs' => ?_⟩
      have q1 := hG.2.1.1.M s hs'
      rw [ef 43 (fun _ => rfl) (by decide) (fun _ => rfl), ef 44 (fun _ => rfl) (by decide) (fun _ => rfl), ef 45 (fun _ => rfl) (by decide) (fun _ => rfl), m5, x_fn_in hs', g51]
      exact ⟨q1.1, q1.2.1, q1.2.2.1, (a5 s hs').2⟩
    have hA3 : AgC w3 := ⟨fun k hk => by rw [e24, m4, cpy_in hk, x_fn_in hk, g50]; exact a4 k hk, by rw [e231, m2, g4115]; exact a3⟩
    have hT3 := hT2.gen c3 rfl (KL_gp rfl rfl)
    have hTM3 : TM w3 nt tls tks := by
      refine ⟨by rw [c3.2.2 41 11 rfl, ei 41 (by decide), c1x.2.2 41 11 rfl]; exact hTM.1, fun t tn p p3 => ?_⟩
      unfold PartM
      rw [ef 49 (fun _ => rfl) (by decide) (fun _ => rfl), ef 48 (fun _ => rfl) (by decide) (fun _ => rfl)]
      exact hTM.2 t tn p p3
    have hR3 : RX w3 r' := ⟨by rw [c3.2.2 0 3 rfl]; exact o03, by rw [c3.r]; exact o22⟩
    have hRM3 : RM w3 r' := by
      show x_i w3 41 12 = nI r'
      rw [m3, g4116]
    refine ⟨.int (nI S'), w2, w3, ⟨S', kd, td, mo, kt', nt, r', tls, tks, so, sz, AGT.mk' hX3 hM3 (Or.inl e236) hA3 hC3 hS3 hT3 hTM3 hR3 hRM3 hr', ?_, ?_, ?_, ?_⟩, fun Q => ?_, fun Q => ?_⟩
    · intro s h4
      rw [ef (14 + 2 * s) (four (p := fun s => ∀ k, gp [42, 46] [(41, 2), (41, 1), (41, 12)] (14 + 2 * s) k = false) ⟨fun _ => rfl, fun _ => rfl, fun _ => rfl, fun _ => rfl⟩ s h4) (by omega) (four (p := fun s => ∀ k, gp [24, 30] [(23, 6), (23, 1), (22, 4)] (14 + 2 * s) k = false) ⟨fun _ => rfl, fun _ => rfl, fun _ => rfl, fun _ => rfl⟩ s h4), ef (15 + 2 * s) (four (p := fun s => ∀ k, gp [42, 46] [(41, 2), (41, 1), (41, 12)] (15 + 2 * s) k = false) ⟨fun _ => rfl, fun _ => rfl, fun _ => rfl, fun _ => rfl⟩ s h4) (by omega) (four (p := fun s => ∀ k, gp [24, 30] [(23, 6), (23, 1), (22, 4)] (15 + 2 * s) k = false) ⟨fun _ => rfl, fun _ => rfl, fun _ => rfl, fun _ => rfl⟩ s h4), ef 52 (fun _ => rfl) (by decide) (fun _ => rfl), ef 53 (fun _ => rfl) (by decide) (fun _ => rfl), ef 54 (fun _ => rfl) (by decide) (fun _ => rfl)]
      exact hJ.2.1 s h4
    · unfold TPE WD
      rw [ef 1 (fun _ => rfl) (by decide) (fun _ => rfl), c3.2.2 41 8 rfl, ei 41 (by decide), c1x.2.2 41 8 rfl, ef 2 (fun _ => rfl) (by decide) (fun _ => rfl), ef 47 (fun _ => rfl) (by decide) (fun _ => rfl), ef 56 (fun _ => rfl) (by decide) (fun _ => rfl)]
      exact hJ.2.2.1
    · refine Or.inr ⟨?_, ?_, S', r', kt', Nat.le_refl _, hr', ⟨?_, ?_⟩, ⟨?_, ?_⟩, ?_, ?_, ?_, ?_, ?_⟩
      · rw [ef 7 (fun _ => rfl) (by decide) (fun _ => rfl)]; exact h0
      · rw [c3.2.2 41 13 rfl]; exact f4113
      · rw [ef 7 (fun _ => rfl) (by decide) (fun _ => rfl)]; exact a1
      · rw [c3.2.2 41 14 rfl]; exact g4114
      · rw [ef 7 (fun _ => rfl) (by decide) (fun _ => rfl)]; exact b1
      · rw [c3.2.2 41 16 rfl]; exact g4116
      · rw [ef 7 (fun _ => rfl) (by decide) (fun _ => rfl), c3.2.2 41 15 rfl, g4115]; exact a3
      · rw [ef 8 (fun _ => rfl) (by decide) (fun _ => rfl), ef 50 (fun _ => rfl) (by decide) (fun _ => rfl)]; exact a4
      · rw [ef 9 (fun _ => rfl) (by decide) (fun _ => rfl), ef 51 (fun _ => rfl) (by decide) (fun _ => rfl)]; exact a5
      · rw [ef 8 (fun _ => rfl) (by decide) (fun _ => rfl)]; exact a6
      · rw [ef 8 (fun _ => rfl) (by decide) (fun _ => rfl)]; exact a7
    · rw [c3.1, hlen, c1.1]; exact hJ.2.2.2.2
    · have e22w2 : x_i w2 22 4 = nI S' := by rw [ei 22 (by decide), i5, a1]
      simp only [X45_0, X45_1, X45_4, X45_7, X45_10, X45_12, X45_13, X45_14, X45_17, X45_18, X45_21, X45_22, X45_25, X45_28, X45_29, X45_30, X45_33, X45_36, X45_39, X45_40, X45_43, X45_46, Nat.zero_le, and_true, true_and, x_nb0, x_nb1, x_nbp, x_isL_int, x_isL_ref, x_isL_junk, x_isR_ref, x_cat_nil, x_cat_int, x_cat_ref, x_cat_long, Option.toList_some, Option.toList_none, List.cons_append, List.nil_append, Nat.reduceAdd, Nat.reduceLeDiff, Nat.reduceLT, t_tag_si, t_tag_sr, t_tag_sI, x_r_si, x_i_sr, t_r_sI, x_ia_si, x_ia_sI, x_ia_sr, x_ra_si, x_ra_sI, x_ra_sr, g_t0 hs, g_r0_7 hs, g_t7 hs, h0, n10, if_false, g_r0_5 hs, g_r0_4 hs, e77, g_t0 hs1, g_r0_7 hs1, g_t7 hs1, e71, e13, g_t0 hs2, g_r0_4 hs2, g_t22 hs2, e22w2]
    · exact e225 Q
end S9980
