/-! ===== both fresh: all stands ===== -/
theorem T0_take : T0.take 66 = T0 := by decide
theorem R0_split : R0 = R0.take 38 ++ [(41, 0, 42), (41, 3, 43), (41, 4, 44), (41, 5, 45), (41, 6, 46), (41, 7, 47), (41, 9, 48), (41, 10, 49), (41, 17, 50), (41, 18, 51), (41, 19, 52), (41, 20, 53), (41, 21, 54), (41, 22, 55), (41, 27, 56), (41, 28, 57), (41, 32, 58), (41, 33, 59), (41, 34, 60), (41, 35, 61), (41, 36, 62), (41, 37, 63), (41, 38, 64), (41, 39, 65)] := rfl
theorem f20_0 : ∀ k, k < 20 → mskA 20 0 (fun _ => 0) k = mskA 20 0 (fun _ => 0) k := fun _ _ => rfl
section S9999938
variable {L : Nat} {xs : Nat → Int32} {d : Nat} {w : x_W}
theorem S135 (h : NewX w) (hO : TxO tb 50 tbX0 [2] [60]) : ∃ w', JJ w' ∧ ∀ Q, X_R L xs (d + 4 + 1) 135 0 [.ref 41, x_junk, x_junk] [] (x_new w (0, 8) (fun _ => 0)) Q = Q none w' := by
  obtain ⟨hT, hR, ⟨r50, r221, r233, r234⟩, ⟨hs11, hs120, hs121, hs122⟩, ⟨i02, i03, i11, i70, i224, i231, i236, i24, i30⟩, hSh, hSl⟩ := h
  have hl : w.1.length = 41 := by rw [hT]; rfl
  obtain ⟨p0, p1, p2, p3', p4, p5⟩ := m0_1 hT
  obtain ⟨lr, li⟩ := m0_low hl
  have mr := m0_r hl
  obtain ⟨j41, j42, j43, j44, j45, j46, j52, j53, j54, j55, j56⟩ := m0_i hl
  have e1 := fun Q => S135a (L := L) (xs := xs) (d := d + 5) (w := x_new w (0, 8) (fun _ => 0)) (Q := Q) (by rw [p0]; rfl) ((tg_of p0 41).trans rfl)
  have e2 := fun Q => S135b (L := L) (xs := xs) (d := d + 5) (w := mA (x_new w (0, 8) (fun _ => 0))) (Q := Q) (by rw [p1]; rfl) ((tg_of p1 41).trans rfl)
  have e3 := fun Q => S135d (L := L) (xs := xs) (d := d + 5) (w := mB (mA (x_new w (0, 8) (fun _ => 0)))) (Q := Q) (by rw [p2]; rfl) ((tg_of p2 41).trans rfl)
  have e4 := fun Q => S135e (L := L) (xs := xs) (d := d + 5) (w := mD (mB (mA (x_new w (0, 8) (fun _ => 0))))) (Q := Q) (by rw [p3']; rfl) ((tg_of p3' 41).trans rfl)
  have e5 := fun Q => S135f (L := L) (xs := xs) (d := d + 5) (w := mE (mD (mB (mA (x_new w (0, 8) (fun _ => 0)))))) (Q := Q) (by rw [p4]; rfl) ((tg_of p4 41).trans rfl)
  have eM : ∀ Q, X_R L xs (d + 5) 135 0 [.ref 41, x_junk, x_junk] [] (x_new w (0, 8) (fun _ => 0)) Q = X_R L xs (d + 5) 135 1081 [.ref 41, .int (nI 0), x_junk] [] (m0 w) Q := fun Q => (e1 Q).trans ((e2 Q).trans ((e3 Q).trans ((e4 Q).trans (e5 Q))))
  have tg : ∀ a, x_tag (m0 w) a = T0[a]? := tg_of p5
  generalize hm : m0 w = m at *
  obtain ⟨v2, hv2, eC⟩ := S135o (L := L) (xs := xs) (d := d + 2) (w := m) ⟨(tg 41).trans rfl, (tg 42).trans rfl, mr.1⟩ 20 0 (by decide) x_junk rfl (fun _ => 0) (funext fun k => j42 k)
  have g47 : ∀ b, b ≠ 42 → b ≠ 41 → x_i (x_si (x_sI m 42 (mskA 20 0 (fun _ => 0))) 41 1 (nI 557073)) b = x_i m b := fun b h2 h1 => by rw [x_i_sin _ _ _ _ h1, x_i_sIn _ _ _ h2]
  have g41 : ∀ j, j ≠ 1 → x_i (x_si (x_sI m 42 (mskA 20 0 (fun _ => 0))) 41 1 (nI 557073)) 41 j = 0 := fun j hj => by rw [si_o hj, x_i_sIn _ _ _ (by decide)]; exact j41 j
  have g411 : x_i (x_si (x_sI m 42 (mskA 20 0 (fun _ => 0))) 41 1 (nI 557073)) 41 1 = nI 557073 := si_s
  have g42 : x_i (x_si (x_sI m 42 (mskA 20 0 (fun _ => 0))) 41 1 (nI 557073)) 42 = mskA 20 0 (fun _ => 0) := by rw [x_i_sin _ _ _ _ (by decide), x_i_sI]
  have gt : ∀ a, x_tag (x_si (x_sI m 42 (mskA 20 0 (fun _ => 0))) 41 1 (nI 557073)) a = T0[a]? := tg
  have gr : ∀ a, x_r (x_si (x_sI m 42 (mskA 20 0 (fun _ => 0))) 41 1 (nI 557073)) a = x_r m a := fun a => rfl
  have g1 : (x_si (x_sI m 42 (mskA 20 0 (fun _ => 0))) 41 1 (nI 557073)).1 = T0 := p5
  have eG : ∀ Q, X_R L xs (d + 5) 135 1138 [.ref 41, .int (nI 20), v2] [] (x_sI m 42 (mskA 20 0 (fun _ => 0))) Q = X_R L xs (d + 5) 135 1146 [.ref 41, .int (nI 0), v2] [] (x_si (x_sI m 42 (mskA 20 0 (fun _ => 0))) 41 1 (nI 557073)) Q := fun Q => by
    have t : x_tag (x_sI m 42 (mskA 20 0 (fun _ => 0))) 41 = some (0, 8) := (tg 41).trans rfl
    simp only [X135_1138, X135_1139, X135_1141, X135_1144, X135_1145, Nat.zero_le, and_true, true_and, x_nb0, x_nb1, x_nbp, x_isL_int, x_isL_ref, x_isL_junk, x_isR_ref, x_cat_nil, x_cat_int, x_cat_ref, x_cat_long, Option.toList_some, Option.toList_none, List.cons_append, List.nil_append, Nat.reduceAdd, Nat.reduceLeDiff, Nat.reduceLT, t_tag_si, t_tag_sr, t_tag_sI, x_r_si, x_i_sr, t_r_sI, x_ia_si, x_ia_sI, x_ia_sr, x_ra_si, x_ra_sI, x_ra_sr, t]
  generalize hg : x_si (x_sI m 42 (mskA 20 0 (fun _ => 0))) 41 1 (nI 557073) = g at *
  obtain ⟨t, ct, kt, eT⟩ := S135t (L := L) (xs := xs) (d := d + 5) (w := g) ⟨(gt 41).trans rfl, (gt 47).trans rfl, (gt 55).trans rfl, by rw [gr]; exact mr.2.2.2.2.2.1, by rw [gr]; exact mr.2.2.2.2.2.2.2.2.2.2.2.2.2.1⟩ (by rw [g47 55 (by decide) (by decide)]; exact funext j55) 50 0 (by decide) v2 hv2 g Ch.refl (fun k hk => absurd hk (Nat.not_lt_zero k))
  have c8 : Ch (gp [47] [(41, 8)]) g (x_si t 41 8 (nI 50)) := (gp_up ct rfl rfl).trans (Ch_si rfl)
  have u8 : x_i (x_si t 41 8 (nI 50)) 41 8 = nI 50 := si_s
  have u47 : ∀ k, k < 50 → x_i (x_si t 41 8 (nI 50)) 47 k = nI (tb k) := fun k hk => by rw [x_i_sin _ _ _ _ (by decide)]; exact kt k hk
  have tt : x_tag t 41 = some (0, 8) := (ct.t 41).trans ((gt 41).trans rfl)
  generalize hu : x_si t 41 8 (nI 50) = u at *
  have hu1 : u.1 = T0 := c8.1.trans g1
  have hur : ∀ b, x_r u b = x_r m b := fun b => (c8.r b).trans (gr b)
  have hsu : Sh u := by
    refine ⟨fun a t h => by rw [hu1]; exact h, fun q hq => ?_⟩
    show x_r u q.1 q.2.1 = _
    rw [hur]
    rw [R0_split, List.mem_append] at hq
    rcases hq with hq | hq
    · have hb : q.1 < 41 := (by decide : ∀ q ∈ R0.take 38, q.1 < 41) q hq
      rw [lr q.1 hb]
      exact hR q hq
    · revert q
      simp only [List.forall_mem_cons, List.not_mem_nil, false_implies, implies_true, and_true]
      exact mr
  have hW : WD u := fun r i hr hi => by
    rw [c8.2.2 56 _ rfl, g47 56 (by decide) (by decide), j56]
    exact wdsF_WD r hr i hi
  have hTu : TPm u tb 50 := ⟨by decide, u8, fun k hk => ⟨u47 k hk, tb_le k hk⟩, hW⟩
  have h4111 : x_i u 41 11 = nI 0 := (c8.2.2 41 11 rfl).trans (g41 11 (by decide))
  obtain ⟨w', cw, w8, w11, hl160, s0, s1, s2, s3, hc, eX⟩ := S140O (L := L) (xs := xs) (d := d) (nt := 0) hsu hTu h4111 (by decide) hO
  have hsw := cw.sh hsu
  have hw1 : w'.1 = T0 := cw.1.trans hu1
  have wr : ∀ b, x_r w' b = x_r m b := fun b => (cw.r b).trans (hur b)
  -- cells below the reference's
  have wl : ∀ b, b < 41 → x_i w' b = x_i w b := fun b hb => by
    have hp : ∀ k, pT 0 b k = false := fun k => by
      have n1 : ∀ j, 41 ≤ j → (b == j) = false := fun j hj => beq_false_of_ne (by omega)
      unfold pT pV pQ gp
      simp only [List.elem, List.any, n1 57 (by decide), n1 41 (by decide), n1 48 (by decide), n1 49 (by decide), Bool.false_and, Bool.or_false]
    have hp2 : ∀ k, gp [47] [(41, 8)] b k = false := fun k => by
      have n1 : ∀ j, 41 ≤ j → (b == j) = false := fun j hj => beq_false_of_ne (by omega)
      unfold gp
      simp only [List.elem, List.any, n1 47 (by decide), n1 41 (by decide), Bool.false_and, Bool.or_false]
    rw [cw.i hp, c8.i hp2, g47 b (by omega) (by omega), li b hb]
  have wm : ∀ b, b ≠ 42 → b ≠ 41 → (∀ k, pT 0 b k = false) → (∀ k, gp [47] [(41, 8)] b k = false) → x_i w' b = x_i m b := fun b h1 h2 h3 h4 => by rw [cw.i h3, c8.i h4, g47 b h1 h2]
  have w42 : x_i w' 42 = mskA 20 0 (fun _ => 0) := by rw [cw.i (fun _ => rfl), c8.i (fun _ => rfl)]; exact g42
  have w24 : x_i w' 24 = tab0 := by rw [wl 24 (by decide)]; exact i24
  have w41 : ∀ j, pT 0 41 j = false → gp [47] [(41, 8)] 41 j = false → j ≠ 1 → x_i w' 41 j = 0 := fun j h1 h2 h3 => by rw [cw.2.2 41 j h1, c8.2.2 41 j h2]; exact g41 j h3
  have wrl : ∀ b, b < 41 → x_r w' b = x_r w b := fun b hb => (wr b).trans (lr b hb)
  have hLaw : LawX w' 10 11 12 13 11 := by
    have tw : ∀ a, x_tag w' a = T0[a]? := tg_of hw1
    refine ⟨(tw 10).trans rfl, hsw.2 (10, 0, 11) (by decide), hsw.2 (10, 1, 12) (by decide), hsw.2 (10, 2, 13) (by decide), (tw 11).trans rfl, (tw 12).trans rfl, (tw 13).trans rfl, ⟨by decide, by decide, by decide, by decide⟩, ⟨by decide, by decide, by decide⟩⟩
  have hPX : ∀ p, p < 3 → PartX w' 11 12 11 p (offT (fun p => (xl tbX0 [2] [60] p).length) p) (offT (fun p => (xl tbX0 [2] [60] p).length) p + (xl tbX0 [2] [60] p).length) (fun m => (xl tbX0 [2] [60] p).getD m 0) := by
    intro p hp
    unfold PartX
    rw [wl 11 (by decide), wl 12 (by decide)]
    refine ⟨?_, ?_, Nat.le_add_right _ _, ?_, fun m hm => ?_⟩
    · rcases p3 hp with rfl | rfl | rfl
      · exact hs120
      · exact hs121
      · exact hs122
    · rcases p3 hp with rfl | rfl | rfl
      · rfl
      · exact hs120
      · exact hs121
    · rcases p3 hp with rfl | rfl | rfl <;> decide
    · rw [Nat.add_sub_cancel_left] at hm
      obtain ⟨q1, q2⟩ := xl_get tbX0 [2] [60] hp hm
      rw [hs11 _ q1, q2]
      exact ⟨rfl, (xl_wf hO p).1 m hm⟩
  have hPM : ∀ p, p < 3 → PartM w' 0 p (offT (fun p => (xl tbX0 [2] [60] p).length) p) (offT (fun p => (xl tbX0 [2] [60] p).length) p + (xl tbX0 [2] [60] p).length) (fun m => (xl tbX0 [2] [60] p).getD m 0) := by
    intro p hp
    refine ⟨?_, ?_, Nat.le_add_right _ _, ?_, fun m hm => ?_⟩
    · rcases p3 hp with rfl | rfl | rfl
      · exact s0
      · exact s1
      · exact s2
    · rcases p3 hp with rfl | rfl | rfl
      · exact s1
      · exact s2
      · exact s3
    · rcases p3 hp with rfl | rfl | rfl <;> decide
    · rw [Nat.add_sub_cancel_left] at hm
      obtain ⟨q1, q2⟩ := xl_get tbX0 [2] [60] hp hm
      rw [hc _ q1, q2]
      exact ⟨rfl, (xl_wf hO p).1 m hm⟩
  refine ⟨w', ?_, fun Q => ?_⟩
  · refine ⟨0, fun _ => 0, fun _ => 0, fun _ => 0, fun _ => 0, 1, 0, fun _ p => (xl tbX0 [2] [60] p).length, fun _ p m => (xl tbX0 [2] [60] p).getD m 0, fun _ => -1, fun _ => 0, AGT.mk' ⟨hsw, ⟨?_, ?_⟩, ?_, by decide, ⟨fun s hs => ?_, fun s hs => absurd hs (Nat.not_lt_zero s)⟩, fun s _ => ⟨Nat.zero_le _, Nat.zero_le _, Nat.zero_le _, show 0 < 20 by decide⟩, ?_⟩ ⟨hsw, ?_, by decide, fun s hs => ⟨⟨?_, Nat.zero_le _⟩, ⟨?_, Nat.zero_le _⟩, ⟨?_, Nat.zero_le _⟩, ⟨?_, show 0 < 20 by decide⟩⟩⟩ (Or.inl ?_) ⟨fun k hk => ?_, ?_⟩ ?_ ?_ ⟨by decide, by decide, ?_, fun t ht => ?_⟩ ⟨w11, fun t ht p hp => ?_⟩ ⟨?_, ?_⟩ ?_ (by decide), fun s hs => ?_, ⟨0, Nat.zero_le _, ?_, w8, fun k hk => absurd hk (Nat.not_lt_zero k), ?_⟩, Or.inl ⟨?_, ?_⟩, ?_⟩
    · rw [wrl 23 (by decide)]; exact r233
    · rw [wrl 23 (by decide)]; exact r234
    · rw [wl 22 (by decide)]; exact i224
    · rw [wl (35 + s) (by omega), wl 30 (by decide), i30]
      exact ⟨(hSl s hs).1, (hSl s hs).2.1, (hSl s hs).2.2, rfl⟩
    · rw [w24]; exact tab_nb
    · exact w41 2 rfl rfl (by decide)
    · rw [wm 43 (by decide) (by decide) (fun _ => rfl) (fun _ => rfl)]; exact j43 s
    · rw [wm 44 (by decide) (by decide) (fun _ => rfl) (fun _ => rfl)]; exact j44 s
    · rw [wm 45 (by decide) (by decide) (fun _ => rfl) (fun _ => rfl)]; exact j45 s
    · rw [wm 46 (by decide) (by decide) (fun _ => rfl) (fun _ => rfl)]; exact j46 s
    · rw [wl 23 (by decide)]; exact i236
    · rw [w24, w42]; exact tab_eq k hk
    · rw [wl 23 (by decide), i231, cw.2.2 41 1 rfl, c8.2.2 41 1 rfl]; exact g411.symm
    · rw [w24]; exact tab_cd
    · rw [w24]; exact tab_sy
    · rw [wl 0 (by decide)]; exact i02
    · obtain rfl : t = 0 := by omega
      exact ⟨by rw [wrl 5 (by decide)]; exact r50, 11, hLaw, fun p hp => ⟨hPX p hp, xl_wf hO p⟩⟩
    · obtain rfl : t = 0 := by omega
      exact ⟨hPM p hp, xl_wf hO p⟩
    · rw [wl 0 (by decide)]; exact i03
    · rw [wrl 22 (by decide)]; exact r221
    · exact w41 12 rfl rfl (by decide)
    · rw [wl (14 + 2 * s) (by omega), wl (15 + 2 * s) (by omega), wm 52 (by decide) (by decide) (fun _ => rfl) (fun _ => rfl), wm 53 (by decide) (by decide) (fun _ => rfl) (fun _ => rfl), wm 54 (by decide) (by decide) (fun _ => rfl) (fun _ => rfl)]
      obtain ⟨q1, q2, q3⟩ := hSh s hs
      exact ⟨⟨q1, q2, (j52 s).trans (m52 s hs), j53 s⟩, Nat.zero_le _, Or.inl rfl, fun k _ => by rw [q3, j54]⟩
    · rw [wl 1 (by decide)]; exact i11
    · unfold WD
      rw [cw.i (fun _ => rfl : ∀ k, pT 0 56 k = false)]
      exact hW
    · rw [wl 7 (by decide)]; exact i70
    · exact w41 13 rfl rfl (by decide)
    · rw [hw1]; rfl
  · have eX' : ∀ Q, X_R L xs (d + 4) 140 0 [.ref 41, x_junk, x_junk] [] u Q = Q (some (.int (nI 0))) w' := eX
    have eM' : X_R L xs (d + 4 + 1) 135 0 [.ref 41, x_junk, x_junk] [] (x_new w (0, 8) (fun _ => 0)) Q = X_R L xs (d + 5) 135 1081 [.ref 41, .int (nI 0), x_junk] [] m Q := eM Q
    have eC' : X_R L xs (d + 5) 135 1081 [.ref 41, .int (nI 0), x_junk] [] m Q = X_R L xs (d + 5) 135 1138 [.ref 41, .int (nI 20), v2] [] (x_sI m 42 (mskA 20 0 (fun _ => 0))) Q := eC Q
    have tu : x_tag u 41 = some (0, 8) := (tg_of hu1 41).trans rfl
    rw [eM', eC', eG, eT]
    simp only [X135_1170, X135_1171, X135_1173, X135_1176, X135_1177, X135_1180, X135_1180r, X135_1181, Nat.zero_le, and_true, true_and, x_nb0, x_nb1, x_nbp, x_isL_int, x_isL_ref, x_isL_junk, x_isR_ref, x_cat_nil, x_cat_int, x_cat_ref, x_cat_long, Option.toList_some, Option.toList_none, List.cons_append, List.nil_append, Nat.reduceAdd, Nat.reduceLeDiff, Nat.reduceLT, t_tag_si, t_tag_sr, t_tag_sI, x_r_si, x_i_sr, t_r_sI, x_ia_si, x_ia_sI, x_ia_sr, x_ra_si, x_ra_sI, x_ra_sr, tt, hu, tu, eX']
end S9999938
