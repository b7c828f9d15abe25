/-! ===== the call text is answered alike ===== -/
theorem T0_66 : T0.length = 66 := by decide
theorem R0_66 : ∀ q ∈ R0, q.1 < 66 ∧ q.1 ≠ 5 := by decide
theorem Sh.ext {w w' : x_W} (hs : Sh w) (ht : ∀ a, a < 66 → x_tag w' a = x_tag w a) (hr : ∀ b, b < 66 → b ≠ 5 → x_r w' b = x_r w b) : Sh w' := by
  refine ⟨fun a t h => ?_, fun q hq => ?_⟩
  · have h66 : a < 66 := by
      have := (List.getElem?_eq_some_iff.mp h).1
      rw [T0_66] at this
      exact this
    exact (ht a h66).trans (hs.1 a t h)
  · obtain ⟨h1, h2⟩ := R0_66 q hq
    exact (congrFun (hr q.1 h1 h2) q.2.1).trans (hs.2 q hq)
section S999992
variable {L : Nat} {xs : Nat → Int32} {d : Nat} {w : x_W} {S nt r : Nat} {kd td mo kt : Nat → Nat} {tls : Nat → Nat → Nat} {tks : Nat → Nat → Nat → Nat} {so : Nat → Int32} {sz : Nat → Nat}
theorem CA_text (hJ : J w S kd td mo kt nt r tls tks so sz) : CA L xs (d + 60) 11 140 [.ref 0, x_junk] [.ref 41, x_junk, x_junk] w := by
  have hJ0 := hJ
  obtain ⟨⟨hG, hT, hTM, hR, hRM, hr⟩, hSH, ⟨n, h160, e11, e418, hb, hWD⟩, hI, hlen⟩ := hJ
  have hs := hG.1.sh
  have h1 := hT.1
  have h6 := hT.2.1
  have h02 := hT.2.2.1
  have h4111 : x_i w 41 11 = nI nt := hTM.1
  by_cases n6 : nt = 6
  · refine CA_no (v := .int (-4)) hJ0 (fun Q => ?_) (fun Q => ?_)
    · simp only [X11_0, X11_1, X11_4, X11_6, X11_9, X11_11, Nat.zero_le, and_true, true_and, x_nb0, x_nb1, x_nbp, x_isL_int, x_isL_ref, x_isL_junk, x_isR_ref, x_cat_nil, x_cat_int, x_cat_ref, x_cat_long, Option.toList_some, Option.toList_none, List.cons_append, List.nil_append, Nat.reduceAdd, Nat.reduceLeDiff, Nat.reduceLT, t_tag_si, t_tag_sr, t_tag_sI, x_r_si, x_i_sr, t_r_sI, x_ia_si, x_ia_sI, x_ia_sr, x_ra_si, x_ra_sI, x_ra_sr, g_t0 hs, h02, nI_ltF (show 6 ≤ nt by omega) (show nt < 2 ^ 31 by omega), if_false]
    · simp only [X140_0, X140_1, X140_4, X140_6, X140_9, X140_11, Nat.zero_le, and_true, true_and, x_nb0, x_nb1, x_nbp, x_isL_int, x_isL_ref, x_isL_junk, x_isR_ref, x_cat_nil, x_cat_int, x_cat_ref, x_cat_long, Option.toList_some, Option.toList_none, List.cons_append, List.nil_append, Nat.reduceAdd, Nat.reduceLeDiff, Nat.reduceLT, t_tag_si, t_tag_sr, t_tag_sI, x_r_si, x_i_sr, t_r_sI, x_ia_si, x_ia_sI, x_ia_sr, x_ra_si, x_ra_sI, x_ra_sr, g_t41 hs, h4111, eq_true (congrArg nI n6), ne_eq, not_true_eq_false, if_false, if_true]
  have lt6 := nI_ltT (show nt < 6 by omega) (show 6 < 2 ^ 31 by decide)
  have hbb : ∀ k, k < n → (x_i w 2 k = nI (x_i w 2 k).toNatClampNeg ∧ (x_i w 2 k).toNatClampNeg ≤ 255) ∧ x_i w 47 k = nI (x_i w 2 k).toNatClampNeg := by
    intro k hk
    obtain ⟨b', hb', e1, e2⟩ := hb k hk
    have tc := nI_cl (show b' < 2 ^ 31 by omega)
    rw [e1, tc]
    exact ⟨⟨rfl, hb'⟩, e2⟩
  obtain ⟨b, hbd⟩ : ∃ b : Nat → Nat, b = fun k => (x_i w 2 k).toNatClampNeg := ⟨_, rfl⟩
  have hTP : TPx w b n := ⟨h160, e11, fun k hk => by rw [hbd]; exact (hbb k hk).1⟩
  have hTPm : TPm w b n := ⟨h160, e418, fun k hk => by rw [hbd]; exact ⟨(hbb k hk).2, (hbb k hk).1.2⟩, hWD⟩
  obtain ⟨w2, c2, hr2⟩ := S113 (L := L) (xs := xs) (d' := d + 11) hs.toT hTP
  have c2X : Ch (pX nt) w w2 := pX_R c2
  have hs2 := c2.sh hs
  rcases hr2 with ⟨f, hf, hF, e2⟩ | ⟨x0, x1, x2, hO, hl, h13, h3, h40, h41, h42, e2⟩
  · have e2' : ∀ Q, X_R L xs (d + 59) 113 0 [.ref 1, x_junk] [] w Q = Q (some (.int (nI f))) w2 := e2
    have c3 : Ch (gp [] [(1, 1)]) w2 (x_si w2 1 1 (nI 0)) := Ch_si rfl
    have c3X : Ch (pX nt) w2 (x_si w2 1 1 (nI 0)) := Ch_si rfl
    have hs3 := c3.sh hs2
    have hTM3 := (hTPm.ch c2 rfl (fun _ => rfl) (fun _ => rfl)).ch c3 rfl (fun _ => rfl) (fun _ => rfl)
    obtain ⟨w4, c4, h48, h411, e4⟩ := S140F (L := L) (xs := xs) (d := d + 56) hs3 hTM3 ((c3.2.2 41 11 rfl).trans ((c2.2.2 41 11 rfl).trans h4111)) (by omega) hF
    have cX := (c2X.trans c3X).trans (pX_T c4)
    obtain ⟨q1, q2, q3, q4, q5, q6, q7, q8, q9, q10, q11, q12, q13⟩ := hJ0.left cX
    have h02' : x_i w4 0 2 = nI nt := (c4.2.2 0 2 rfl).trans ((c3.2.2 0 2 rfl).trans ((c2.2.2 0 2 rfl).trans h02))
    have h11' : x_i w4 1 1 = nI 0 := (c4.2.2 1 1 rfl).trans si_s
    refine ⟨.int ((-100) - nI f), x_si w2 1 1 (nI 0), w4, ?_, fun Q => ?_, e4⟩
    · exact ⟨S, kd, td, mo, kt, nt, r, tls, tks, so, sz, AGT.mk' q1 q2 q3 q4 q5 q6 ⟨h1, h6, h02', q13⟩ ⟨h411, q12⟩ q7 q8 hr, q9, ⟨0, Nat.zero_le _, h11', h48, fun k hk => absurd hk (Nat.not_lt_zero k), q11⟩, q10, cX.len hlen⟩
    · simp only [X11_0, X11_1, X11_4, X11_6, X11_12, X11_13, X11_16, X11_19, X11_20, X11_21, X11_24, X11_25, X11_28, X11_31, X11_33, X11_34, X11_35, X133_0, X133_1, X133_2, X133_5, Nat.zero_le, and_true, true_and, x_nb0, x_nb1, x_nbp, x_isL_int, x_isL_ref, x_isL_junk, x_isR_ref, x_cat_nil, x_cat_int, x_cat_ref, x_cat_long, Option.toList_some, Option.toList_none, List.cons_append, List.nil_append, Nat.reduceAdd, Nat.reduceLeDiff, Nat.reduceLT, t_tag_si, t_tag_sr, t_tag_sI, x_r_si, x_i_sr, t_r_sI, x_ia_si, x_ia_sI, x_ia_sr, x_ra_si, x_ra_sI, x_ra_sr, g_t0 hs, g_t1 hs, g_r0_0 hs, h02, lt6, if_true, e2', nI_ltF (Nat.zero_le f) (show f < 2 ^ 31 by omega), if_false, g_t0 hs2, g_t1 hs2, g_r0_0 hs2]
  · have e2' : ∀ Q, X_R L xs (d + 59) 113 0 [.ref 1, x_junk] [] w Q = Q (some (.int (-1))) w2 := e2
    have hlen2 := c2.len hlen
    obtain ⟨w3, t3, i3, r3, hL, hA, hE, e3⟩ := S132 (L := L) (xs := xs) (d := d + 58) hs2.toT h13 hl (by omega) (by omega) (by omega)
    rw [hlen2] at i3 r3 hL hA hE e3
    generalize hN : 62 + 4 * nt = N at *
    have tg3 : ∀ a, a < N → x_tag w3 a = x_tag w2 a := fun a ha => by
      unfold x_tag
      rw [t3, List.getElem?_append_left (by omega)]
    have hs3 : Sh w3 := hs2.ext (fun a ha => tg3 a (by omega)) (fun b hb _ => r3 b (by omega))
    have hs4 : Sh (x_sr w3 5 nt (.ref N)) := hs3.ext (fun _ _ => rfl) (fun b _ h5 => x_r_srn _ _ _ _ h5)
    have hs5 : Sh (x_si (x_sr w3 5 nt (.ref N)) 1 1 (nI 0)) := hs4
    have hs6 : Sh (x_si (x_si (x_sr w3 5 nt (.ref N)) 1 1 (nI 0)) 0 2 (nI (nt + 1))) := hs4
    have i6 : ∀ b k, b < N → ¬ (b = 0 ∧ k = 2) → ¬ (b = 1 ∧ k = 1) → x_i (x_si (x_si (x_sr w3 5 nt (.ref N)) 1 1 (nI 0)) 0 2 (nI (nt + 1))) b k = x_i w2 b k := by
      intro b k hb h0 h11
      have q1 : x_i (x_si (x_si (x_sr w3 5 nt (.ref N)) 1 1 (nI 0)) 0 2 (nI (nt + 1))) b k = x_i (x_si (x_sr w3 5 nt (.ref N)) 1 1 (nI 0)) b k := by
        by_cases z : b = 0
        · subst z; exact si_o (fun q => h0 ⟨rfl, q⟩)
        · rw [x_i_sin _ _ _ _ z]
      have q2 : x_i (x_si (x_sr w3 5 nt (.ref N)) 1 1 (nI 0)) b k = x_i w3 b k := by
        by_cases z : b = 1
        · subst z; rw [si_o (fun q => h11 ⟨rfl, q⟩), x_i_sr]
        · rw [x_i_sin _ _ _ _ z, x_i_sr]
      rw [q1, q2, i3 b hb]
    have i6f : ∀ b, b < N → b ≠ 0 → b ≠ 1 → x_i (x_si (x_si (x_sr w3 5 nt (.ref N)) 1 1 (nI 0)) 0 2 (nI (nt + 1))) b = x_i w2 b := fun b hb h0 h11 => funext fun k => i6 b k hb (fun z => h0 z.1) (fun z => h11 z.1)
    have r6 : ∀ b, b ≠ 5 → x_r (x_si (x_si (x_sr w3 5 nt (.ref N)) 1 1 (nI 0)) 0 2 (nI (nt + 1))) b = x_r w3 b := fun b hb => x_r_srn _ _ _ _ hb
    have r65 : ∀ k, x_r (x_si (x_si (x_sr w3 5 nt (.ref N)) 1 1 (nI 0)) 0 2 (nI (nt + 1))) 5 k = if k = nt then .ref N else x_r w3 5 k := fun k => by
      show x_r (x_sr w3 5 nt (.ref N)) 5 k = _
      by_cases z : k = nt
      · rw [if_pos z, z, x_r_sr]
      · rw [if_neg z, x_r_srk _ _ _ _ z]
    have v02 : x_i (x_si (x_si (x_sr w3 5 nt (.ref N)) 1 1 (nI 0)) 0 2 (nI (nt + 1))) 0 2 = nI (nt + 1) := si_s
    have v11 : x_i (x_si (x_si (x_sr w3 5 nt (.ref N)) 1 1 (nI 0)) 0 2 (nI (nt + 1))) 1 1 = nI 0 := by rw [x_i_sin _ _ _ _ (by decide), si_s]
    have t6 : ∀ a, x_tag (x_si (x_si (x_sr w3 5 nt (.ref N)) 1 1 (nI 0)) 0 2 (nI (nt + 1))) a = x_tag w3 a := fun _ => rfl
    have l6 : (x_si (x_si (x_sr w3 5 nt (.ref N)) 1 1 (nI 0)) 0 2 (nI (nt + 1))).1.length = N + 4 := by
      show w3.1.length = _
      rw [t3, List.length_append, hlen2]
      rfl
    have e02 : x_i w2 0 2 = nI nt := (c2.2.2 0 2 rfl).trans h02
    have e023 : x_i w3 0 2 = nI nt := by rw [i3 0 (by omega)]; exact e02
    have e024 : x_i (x_si (x_sr w3 5 nt (.ref N)) 1 1 (nI 0)) 0 2 = nI nt := by rw [x_i_sin _ _ _ _ (by decide), x_i_sr]; exact e023
    have eX : ∀ Q, X_R L xs (d + 60) 11 0 [.ref 0, x_junk] [] w Q = Q (some (.int (nI nt))) (x_si (x_si (x_sr w3 5 nt (.ref N)) 1 1 (nI 0)) 0 2 (nI (nt + 1))) := by
      intro Q
      have tx := x_ix_nI (show nt < 6 by omega) (show 6 < 2 ^ 31 by decide)
      have tc := nI_cl (show nt < 2 ^ 31 by omega)
      have tk5 : x_tk w3 5 = 2 := by unfold x_tk; rw [g_t5 hs3]; rfl
      have h51 := fun (Q' : Option Value → x_W → Prop) (al st : List Value) => X11_51 (L := L) (xs := xs) (d := d + 60) (al := al) (st := st) (w := w3) (Q := Q') (a := 5) (b := N) (i := nI nt) (by rw [g_a5 hs3]; exact tx) (by rw [tk5]; exact hL.1)
      rw [tc] at h51
      have e3' : ∀ Q, X_R L xs (d + 59) 132 0 [.ref 1] [] w2 Q = Q (some (.ref N)) w3 := e3
      simp only [X11_0, X11_1, X11_4, X11_6, X11_12, X11_13, X11_16, X11_19, X11_20, X11_21, X11_36, X11_37, X11_40, X11_41, X11_44, X11_45, X11_48, X133_0, X133_1, X133_2, X133_5, Nat.zero_le, and_true, true_and, x_nb0, x_nb1, x_nbp, x_isL_int, x_isL_ref, x_isL_junk, x_isR_ref, x_cat_nil, x_cat_int, x_cat_ref, x_cat_long, Option.toList_some, Option.toList_none, List.cons_append, List.nil_append, Nat.reduceAdd, Nat.reduceLeDiff, Nat.reduceLT, t_tag_si, t_tag_sr, t_tag_sI, x_r_si, x_i_sr, t_r_sI, x_ia_si, x_ia_sI, x_ia_sr, x_ra_si, x_ra_sI, x_ra_sr, g_t0 hs, g_t1 hs, g_r0_0 hs, h02, lt6, if_true, e2', eq_true (show (-1 : Int32) < nI 0 by decide), g_t0 hs2, g_t1 hs2, g_r0_0 hs2, g_r0_1 hs2, e02, e3', h51, X11_52, X11_53, X11_56, X11_59, X11_60i, X11_60, X11_61, X11_64, X11_65, X11_66, X11_69, X11_70, X11_73, X11_74, X11_75, g_t0 hs4, g_t1 hs4, g_r0_0 hs4, g_t0 hs5, e024, nI_add, g_t0 hs6, v02, nI_sub (show 1 ≤ nt + 1 by omega), Nat.add_sub_cancel]
    generalize hw6 : x_si (x_si (x_sr w3 5 nt (.ref N)) 1 1 (nI 0)) 0 2 (nI (nt + 1)) = w6 at *
    have hT6 : TPm w6 b n := by
      have h2 := hTPm.ch c2 rfl (fun _ => rfl) (fun _ => rfl)
      unfold TPm WD at *
      rw [i6f 41 (by omega) (by decide) (by decide), i6f 47 (by omega) (by decide) (by decide), i6f 56 (by omega) (by decide) (by decide)]
      exact h2
    obtain ⟨w7, c7, h78, h711, _, s0, s1, s2, s3, hc, e7⟩ := S140O (L := L) (xs := xs) (d := d + 56) hs6 hT6 (by rw [i6f 41 (by omega) (by decide) (by decide)]; exact (c2.2.2 41 11 rfl).trans h4111) (by omega) hO
    have hs7 := c7.sh hs6
    have cX : Ch (pX nt) w (w.1, w7.2.1, w.2.2) := by
      refine ⟨rfl, rfl, fun b' k hb' => ?_⟩
      show x_i w7 b' k = x_i w b' k
      have hb2 := hb'
      unfold pX at hb2
      rw [Bool.or_eq_false_iff, Bool.or_eq_false_iff] at hb2
      obtain ⟨⟨g1, g2⟩, g3⟩ := hb2
      have hbN : b' < N := by
        have := of_decide_eq_false g3
        omega
      rw [c7.2.2 b' k g2, i6 b' k hbN ?_ ?_, c2.2.2 b' k (gp_sub rfl rfl g1)]
      · rintro ⟨rfl, rfl⟩; exact absurd g1 (by decide)
      · rintro ⟨rfl, rfl⟩; exact absurd g1 (by decide)
    obtain ⟨q1, q2, q3, q4, q5, q6, q7, q8, q9, q10, q11, q12, q13⟩ := hJ0.left cX
    have r7 : ∀ b, b < N → b ≠ 5 → x_r w7 b = x_r w b := fun b hb h5 => by rw [c7.r, r6 b h5, r3 b hb, c2.r]
    have t7 : ∀ a, a < N → x_tag w7 a = x_tag w a := fun a ha => by rw [c7.t, t6, tg3 a ha, c2.t]
    have t7N : ∀ a, x_tag w7 a = x_tag w3 a := fun a => by rw [c7.t, t6]
    have hsd7 : Sd w7 := ⟨by rw [r7 23 (by omega) (by decide)]; exact hG.1.1.sd.1, by rw [r7 23 (by omega) (by decide)]; exact hG.1.1.sd.2⟩
    have hX7 : CX w7 S kd td mo kt := ⟨hs7, hsd7, q1.2.2⟩
    have hM7 : CM w7 S kd td mo kt := ⟨hs7, q2.2⟩
    have hi7 : ∀ a, N ≤ a → x_i w7 a = x_i w3 a := by
      intro a ha
      have hpt : ∀ k, pT nt a k = false := by
        intro k
        have n1 : ∀ j, j < 66 → (a == j) = false := fun j hj => beq_false_of_ne (by omega)
        unfold pT pV pQ gp
        simp only [List.elem, List.any, n1 57 (by decide), n1 41 (by decide), n1 48 (by decide), n1 49 (by decide), Bool.false_and, Bool.or_false]
      rw [c7.i hpt, ← hw6, x_i_sin _ _ _ _ (by omega), x_i_sin _ _ _ _ (by omega), x_i_sr]
    have hlaN : lawA nt = N := by unfold lawA; rw [if_neg (by omega)]; exact hN
    obtain ⟨o0, o1, o2⟩ := xl_off x0 x1 x2
    have hend : ∀ p, p < 3 → offT (fun p => (xl x0 x1 x2 p).length) p + (xl x0 x1 x2 p).length = (if p = 0 then x0.length else if p = 1 then (x0 ++ x1).length else (x0 ++ x1 ++ x2).length) := by
      intro p hp
      rcases p3 hp with rfl | rfl | rfl
      · rw [o0, Nat.zero_add]; rfl
      · rw [o1, if_neg (by decide), if_pos rfl, List.length_append]; rfl
      · rw [o2, if_neg (by decide), if_neg (by decide), List.length_append (as := x0 ++ x1)]; rfl
    have hle : ∀ p, p < 3 → offT (fun p => (xl x0 x1 x2 p).length) p + (xl x0 x1 x2 p).length ≤ (x0 ++ x1 ++ x2).length := by
      intro p hp
      rw [hend p hp]
      simp only [List.length_append]
      split
      · omega
      · split <;> omega
    have hLawN : LawX w7 N (N + 1) (N + 2) (N + 3) (x0 ++ x1 ++ x2).length := by
      have h := hL
      unfold LawX at *
      rw [t7N, t7N, t7N, t7N, c7.r, r6 N (by omega)]
      exact h
    have hPX : ∀ p, p < 3 → PartX w7 (N + 1) (N + 2) (x0 ++ x1 ++ x2).length p (offT (fun p => (xl x0 x1 x2 p).length) p) (offT (fun p => (xl x0 x1 x2 p).length) p + (xl x0 x1 x2 p).length) (fun m => (xl x0 x1 x2 p).getD m 0) := by
      intro p hp
      unfold PartX
      rw [hi7 (N + 1) (by omega), hi7 (N + 2) (by omega)]
      refine ⟨?_, ?_, Nat.le_add_right _ _, hle p hp, fun m hm => ?_⟩
      · rw [hend p hp, hE p hp]
        rcases p3 hp with rfl | rfl | rfl
        · exact h40
        · exact h41
        · exact h42
      · rcases p3 hp with rfl | rfl | rfl
        · exact o0
        · show x_i w3 (N + 2) 0 = _
          rw [hE 0 (by decide), o1]; exact h40
        · show x_i w3 (N + 2) 1 = _
          rw [hE 1 (by decide), o2]; exact h41
      · rw [Nat.add_sub_cancel_left] at hm
        obtain ⟨g1, g2⟩ := xl_get x0 x1 x2 hp hm
        rw [hA _ g1, h3 _ g1, g2]
        exact ⟨rfl, (xl_wf hO p).1 m hm⟩
    have hPM : ∀ p, p < 3 → PartM w7 nt p (offT (fun p => (xl x0 x1 x2 p).length) p) (offT (fun p => (xl x0 x1 x2 p).length) p + (xl x0 x1 x2 p).length) (fun m => (xl x0 x1 x2 p).getD m 0) := by
      intro p hp
      refine ⟨?_, ?_, Nat.le_add_right _ _, Nat.le_trans (hle p hp) hl, fun m hm => ?_⟩
      · rcases p3 hp with rfl | rfl | rfl
        · rw [o0]; exact s0
        · rw [o1]; exact s1
        · rw [o2]; exact s2
      · rw [hend p hp]
        rcases p3 hp with rfl | rfl | rfl
        · exact s1
        · exact s2
        · exact s3
      · rw [Nat.add_sub_cancel_left] at hm
        obtain ⟨g1, g2⟩ := xl_get x0 x1 x2 hp hm
        rw [hc _ g1, g2]
        exact ⟨rfl, (xl_wf hO p).1 m hm⟩
    refine ⟨.int (nI nt), w6, w7, ?_, eX, e7⟩
    refine ⟨S, kd, td, mo, kt, nt + 1, r, fun t => if t = nt then (fun p => (xl x0 x1 x2 p).length) else tls t, fun t => if t = nt then (fun p m => (xl x0 x1 x2 p).getD m 0) else tks t, so, sz, AGT.mk' hX7 hM7 q3 q4 q5 q6 ⟨by omega, by omega, (c7.2.2 0 2 rfl).trans v02, fun t ht => ?_⟩ ⟨h711, fun t ht p hp => ?_⟩ ⟨q7.1, ?_⟩ q8 (by omega), q9, ⟨0, Nat.zero_le _, (c7.2.2 1 1 rfl).trans v11, h78, fun k hk => absurd hk (Nat.not_lt_zero k), q11⟩, IMG.up q10 (Nat.le_refl _) (Nat.le_succ _), ?_⟩
    · by_cases z : t = nt
      · subst z
        simp only [if_true]
        refine ⟨?_, _, by rw [hlaN]; exact hLawN, fun p hp => ⟨by rw [hlaN]; exact hPX p hp, xl_wf hO p⟩⟩
        rw [c7.r, r65, if_pos rfl, hlaN]
      · simp only [z, if_false]
        obtain ⟨g1, n', g2, g3⟩ := q13 t (by omega)
        have hla : lawA t + 3 < N ∧ lawA t ≠ 5 := by unfold lawA; split <;> omega
        refine ⟨?_, n', ?_, g3⟩
        · rw [c7.r, r65, if_neg z, r3 5 (by omega), c2.r]; exact g1
        · unfold LawX at *
          rw [t7 _ (by omega), t7 _ (by omega), t7 _ (by omega), t7 _ (by omega), r7 _ (by omega) hla.2]
          exact g2
    · by_cases z : t = nt
      · subst z
        simp only [if_true]
        exact ⟨hPM p hp, xl_wf hO p⟩
      · simp only [z, if_false]
        exact q12 t (by omega) p hp
    · rw [r7 22 (by omega) (by decide)]; exact hR.2
    · rw [c7.len l6, ← hN]; omega
end S999992
