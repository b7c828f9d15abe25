/-! ===== the class is made: all of it ===== -/
theorem prt_x {p s s1 s2 : Nat} {l x : List Nat} (h2 : mrun tb 50 40 ([], [], tN tb 50 s, 2) = .inr (.inr (l, s1))) (hP : Prt tb 50 p s s2 x) : x = l := by
  obtain ⟨_, _, q, _, _, hs, hR⟩ := hP
  have h := mrun_dt (hR []) ⟨40, h2⟩
  injection h with h
  injection h with h _
theorem tbO {x0 x1 x2 : List Nat} (h : TxO tb 50 x0 x1 x2) : x0 = tbX0 ∧ x1 = [2] ∧ x2 = [60] := by
  obtain ⟨s1, s2, s3, h0, h1, h2, _⟩ := h
  have a := prt_x tb_p0.2.1 h0
  have e1 := prt_s tb_p0.2.1 tb_p0.2.2 h0
  subst e1
  have b := prt_x tb_p1.2.1 h1
  have e2 := prt_s tb_p1.2.1 tb_p1.2.2 h1
  subst e2
  exact ⟨a, b, prt_x tb_p2.2.1 h2⟩
def wSh (w : x_W) (s : Nat) : x_W := x_sr (x_sr (x_new (x_si (x_si (x_new w (0, 4) (fun _ => 0)) (14 + 2 * s) 0 (-1)) (14 + 2 * s) 1 (nI 0)) (1, 40) (fun _ => 0)) (14 + 2 * s) 2 (.ref (14 + 2 * s + 1))) 6 s (.ref (14 + 2 * s))
def wSl (w : x_W) (s : Nat) : x_W := x_sr (x_si (x_si (x_si (x_si (x_si (x_new w (0, 5) (fun _ => 0)) (35 + s) 0 (nI 0)) (35 + s) 1 (nI 0)) (35 + s) 2 (nI 0)) (35 + s) 3 (nI 0)) (35 + s) 4 (nI 0)) 29 s (.ref (35 + s))
theorem wSh_1 (w : x_W) (s : Nat) : (wSh w s).1 = w.1 ++ [(0, 4)] ++ [(1, 40)] := Eq.trans rfl rfl
theorem wSl_1 (w : x_W) (s : Nat) : (wSl w s).1 = w.1 ++ [(0, 5)] := Eq.trans rfl rfl
theorem wNt_1 (w : x_W) : (wNt w).1 = w.1 ++ [(1, 20)] ++ [(1, 20)] ++ [(1, 20)] ++ [(1, 20)] ++ [(1, 400)] := Eq.trans rfl rfl
theorem wCr_1 (w : x_W) : (wCr w).1 = w.1 ++ [(4, 6)] ++ [(1, 6)] ++ [(1, 6)] ++ [(1, 6)] ++ [(1, 6)] ++ [(1, 6)] := Eq.trans rfl rfl
theorem nw_1 (w : x_W) (t : Nat × Nat) (f : Nat → Int32) : (x_new w t f).1 = w.1 ++ [t] := Eq.trans rfl rfl
theorem tg_of {w : x_W} {l : List (Nat × Nat)} (h : w.1 = l) (a : Nat) : x_tag w a = l[a]? := by unfold x_tag; rw [h]
def wX0 : x_W := x_new x_w0 (0, 7) (fun _ => 0)
/-- the class's part of the world, freshly made -/
def NewX (w : x_W) : Prop := w.1 = T0.take 41 ∧ (∀ q ∈ R0.take 38, x_r w q.1 q.2.1 = .ref q.2.2) ∧ (x_r w 5 0 = .ref 10 ∧ x_r w 22 1 = .ref 10 ∧ x_r w 23 3 = .ref 26 ∧ x_r w 23 4 = .ref 27) ∧ ((∀ k, k < 11 → x_i w 11 k = sxT ((tbX0 ++ [2] ++ [60]).getD k 0)) ∧ x_i w 12 0 = nI 9 ∧ x_i w 12 1 = nI 10 ∧ x_i w 12 2 = nI 11) ∧ (x_i w 0 2 = nI 1 ∧ x_i w 0 3 = nI 0 ∧ x_i w 1 1 = nI 0 ∧ x_i w 7 0 = nI 0 ∧ x_i w 22 4 = nI 0 ∧ x_i w 23 1 = nI 557073 ∧ x_i w 23 6 = nI 0 ∧ x_i w 24 = tab0 ∧ x_i w 30 = fun _ => 0) ∧ (∀ s, s < 4 → x_i w (14 + 2 * s) 0 = -1 ∧ x_i w (14 + 2 * s) 1 = nI 0 ∧ x_i w (15 + 2 * s) = fun _ => 0) ∧ ∀ s, s < 6 → x_i w (35 + s) 0 = nI 0 ∧ x_i w (35 + s) 1 = nI 0 ∧ x_i w (35 + s) 2 = nI 0
section S9999935
variable {L : Nat} {xs : Nat → Int32} {d : Nat}
/-- up to the sheets -/
theorem S1g : ∃ g, TxO tb 50 tbX0 [2] [60] ∧ g.1 = T0.take 14 ∧ (x_r g 0 0 = .ref 1 ∧ x_r g 0 1 = .ref 5 ∧ x_r g 0 6 = .ref 6 ∧ x_r g 0 7 = .ref 7 ∧ x_r g 1 0 = .ref 2 ∧ x_r g 1 2 = .ref 3 ∧ x_r g 1 4 = .ref 4 ∧ x_r g 7 2 = .ref 8 ∧ x_r g 7 4 = .ref 9 ∧ x_r g 10 0 = .ref 11 ∧ x_r g 10 1 = .ref 12 ∧ x_r g 10 2 = .ref 13 ∧ x_r g 5 0 = .ref 10) ∧ ((∀ k, k < 11 → x_i g 11 k = sxT ((tbX0 ++ [2] ++ [60]).getD k 0)) ∧ x_i g 12 0 = nI 9 ∧ x_i g 12 1 = nI 10 ∧ x_i g 12 2 = nI 11) ∧ (x_i g 0 2 = nI 1 ∧ x_i g 0 3 = nI 0 ∧ x_i g 1 1 = nI 0 ∧ x_i g 7 0 = nI 0) ∧ ∀ Q, X_R L xs (d + 60) 1 0 [.ref 0, x_junk, x_junk] [] wX0 Q = X_R L xs (d + 60) 1 129 [.ref 0, .ref 10, .int (nI 0)] [] g Q := by
  have eA := fun Q => S1a (L := L) (xs := xs) (d := d + 59) (w := wX0) (Q := Q) rfl rfl
  have hsA : ShT (wA wX0) := ⟨rfl, rfl, rfl, rfl, rfl, rfl, rfl⟩
  obtain ⟨b, cb, b11, b2, eB⟩ := S1b (L := L) (xs := xs) (d := d + 56) hsA rfl rfl 50 0 (by decide) (wA wX0) Ch.refl rfl (fun k hk => absurd hk (Nat.not_lt_zero k))
  have hsB := cb.shT hsA
  have hTP : TPx b tb 50 := ⟨by decide, b11, fun k hk => ⟨b2 k hk, tb_le k hk⟩⟩
  obtain ⟨c, cc, hr⟩ := S113 (L := L) (xs := xs) (d' := d + 11) hsB hTP
  rcases hr with ⟨f, hf, hF, _⟩ | ⟨x0, x1, x2, hO, hl, h13, h3, h40, h41, h42, eC⟩
  · exact absurd hF (noF f)
  obtain ⟨rfl, rfl, rfl⟩ := tbO hO
  have hsC := cc.shT hsB
  have hc1 : c.1 = T0.take 10 := cc.1.trans (cb.1.trans rfl)
  have hcl : c.1.length = 10 := by rw [hc1]; rfl
  have rc : ∀ j, x_r c j = x_r (wA wX0) j := fun j => (cc.r j).trans (cb.r j)
  obtain ⟨e, e1, ei, er, eL, eA3, eE, eD⟩ := S132 (L := L) (xs := xs) (d := d + 58) (n := 11) hsC h13 (by decide) (by omega) (by omega) (by omega)
  rw [hcl] at ei er eL eA3 eE eD
  have he1 : e.1 = T0.take 14 := by rw [e1, hc1]; rfl
  have te : ∀ a, x_tag e a = (T0.take 14)[a]? := tg_of he1
  obtain ⟨g, g1, g2, g3, g5, eG⟩ := S1t (L := L) (xs := xs) (d := d + 59) 6 0 (by decide) (x_si e 1 1 (nI 0)) ((te 0).trans rfl) ((te 5).trans rfl) ((te 10).trans rfl) (by show x_r e 0 1 = _; rw [er 0 (by decide), rc]; rfl) (Or.inl rfl)
  have gr : ∀ j, j ≠ 5 → j < 10 → x_r g j = x_r (wA wX0) j := fun j h5 hj => (g3 j h5).trans ((er j hj).trans (rc j))
  have gi : ∀ j, x_i g j = x_i (x_si e 1 1 (nI 0)) j := fun j => congrFun g2 j
  have gi2 : ∀ j, j ≠ 1 → x_i g j = x_i e j := fun j hj => (gi j).trans (x_i_sin _ _ _ _ hj)
  have gi3 : ∀ j k, j ≠ 1 → j < 10 → pR j k = false → gp [2] [(1, 1)] j k = false → x_i g j k = x_i (wA wX0) j k := fun j k h1 hj h2 h3 => by rw [gi2 j h1, ei j hj, cc.2.2 j k h2, cb.2.2 j k h3]
  refine ⟨g, hO, g1.trans he1, ⟨by rw [gr 0 (by decide) (by decide)]; rfl, by rw [gr 0 (by decide) (by decide)]; rfl, by rw [gr 0 (by decide) (by decide)]; rfl, by rw [gr 0 (by decide) (by decide)]; rfl, by rw [gr 1 (by decide) (by decide)]; rfl, by rw [gr 1 (by decide) (by decide)]; rfl, by rw [gr 1 (by decide) (by decide)]; rfl, by rw [gr 7 (by decide) (by decide)]; rfl, by rw [gr 7 (by decide) (by decide)]; rfl, by rw [g3 10 (by decide)]; exact eL.2.1, by rw [g3 10 (by decide)]; exact eL.2.2.1, by rw [g3 10 (by decide)]; exact eL.2.2.2.1, g5⟩, ⟨fun k hk => by rw [gi2 11 (by decide), eA3 k hk, h3 k hk], by rw [gi2 12 (by decide), eE 0 (by decide)]; exact h40, by rw [gi2 12 (by decide), eE 1 (by decide)]; exact h41, by rw [gi2 12 (by decide), eE 2 (by decide)]; exact h42⟩, ⟨gi3 0 2 (by decide) (by decide) rfl rfl, gi3 0 3 (by decide) (by decide) rfl rfl, by rw [gi 1, si_s], gi3 7 0 (by decide) (by decide) rfl rfl⟩, fun Q => ?_⟩
  have eA' : X_R L xs (d + 60) 1 0 [.ref 0, x_junk, x_junk] [] wX0 Q = X_R L xs (d + 60) 1 55 [.ref 0, .int (nI 0), x_junk] [] (wA wX0) Q := eA Q
  have eB' : X_R L xs (d + 60) 1 55 [.ref 0, .int (nI 0), x_junk] [] (wA wX0) Q = X_R L xs (d + 60) 1 83 [.ref 0, .int (nI 50), x_junk] [] b Q := eB Q
  have eC' : ∀ Q, X_R L xs (d + 59) 113 0 [.ref 1, x_junk] [] b Q = Q (some (.int (-1))) c := eC
  have eD' : ∀ Q, X_R L xs (d + 59) 132 0 [.ref 1] [] c Q = Q (some (.ref 10)) e := eD
  have eG' : X_R L xs (d + 60) 1 108 [.ref 0, .ref 10, .int (nI 0)] [] (x_si e 1 1 (nI 0)) Q = X_R L xs (d + 60) 1 127 [.ref 0, .ref 10, .int (nI 6)] [] g Q := eG Q
  have tb0 : x_tag b 0 = some (0, 7) := (cb.t 0).trans rfl
  have rb0 : x_r b 0 0 = .ref 1 := by rw [cb.r]; rfl
  have tc0 : x_tag c 0 = some (0, 7) := (cc.t 0).trans tb0
  have rc0 : x_r c 0 0 = .ref 1 := by rw [rc]; rfl
  have te0 : x_tag e 0 = some (0, 7) := (te 0).trans rfl
  have te1 : x_tag e 1 = some (0, 6) := (te 1).trans rfl
  have re0 : x_r e 0 0 = .ref 1 := by rw [er 0 (by decide)]; exact rc0
  rw [eA', eB']
  simp only [X1_83, X1_84, X1_87, X1_90, X1_90r, X1_91, X1_92, X1_95, X1_98, X1_99, X1_100, X1_103, X1_106, X1_107, X133_0, X133_1, X133_2, X133_5, Nat.zero_le, and_true, true_and, x_nb0, x_nb1, x_nbp, x_isL_int, x_isL_ref, x_isL_junk, x_isR_ref, x_cat_nil, x_cat_int, x_cat_ref, x_cat_long, Option.toList_some, Option.toList_none, List.cons_append, List.nil_append, Nat.reduceAdd, Nat.reduceLeDiff, Nat.reduceLT, t_tag_si, t_tag_sr, t_tag_sI, x_r_si, x_i_sr, t_r_sI, x_ia_si, x_ia_sI, x_ia_sr, x_ra_si, x_ra_sI, x_ra_sr, tb0, rb0, k_t1 hsB, eC', tc0, rc0, k_t1 hsC, eD', te0, re0, te1, eG', X1_127, X1_128]
theorem S1 : ∃ w', TxO tb 50 tbX0 [2] [60] ∧ NewX w' ∧ ∀ Q, X_R L xs (d + 60) 1 0 [.ref 0, x_junk, x_junk] [] wX0 Q = Q none w' := by
  obtain ⟨g, hO, g1, ⟨r00, r01, r06, r07, r10, r12, r14, r72, r74, ra0, ra1, ra2, r50⟩, hlaw, ⟨i02, i03, i11, i70⟩, eG⟩ := S1g (L := L) (xs := xs) (d := d)
  have gl : g.1.length = 14 := by rw [g1]; rfl
  have tg : ∀ a, x_tag g a = (T0.take 14)[a]? := tg_of g1
  have h1 : (wSh g 0).1 = T0.take 16 := by rw [wSh_1, g1]; rfl
  have h2 : (wSh (wSh g 0) 1).1 = T0.take 18 := by rw [wSh_1, h1]; rfl
  have h3 : (wSh (wSh (wSh g 0) 1) 2).1 = T0.take 20 := by rw [wSh_1, h2]; rfl
  have h4 : (wSh (wSh (wSh (wSh g 0) 1) 2) 3).1 = T0.take 22 := by rw [wSh_1, h3]; rfl
  have rS : ∀ w s, x_r (wSh w s) 0 6 = if 0 = w.1.length + 1 then .null else if 0 = w.1.length then .null else x_r w 0 6 := fun w s => by
    unfold wSh
    rw [xr_sr, if_neg (fun z => absurd z.1 (by decide)), xr_sr, if_neg (fun z => absurd z.1 (by omega)), xr_new]
    show (if 0 = (x_new w (0, 4) (fun _ => 0)).1.length then (fun _ => Value.null) else x_r (x_new w (0, 4) (fun _ => 0)) 0) 6 = _
    rw [nw_len, xr_new]
    by_cases q : 0 = w.1.length + 1
    · omega
    · rw [if_neg q, if_neg q]
      by_cases q2 : 0 = w.1.length
      · rw [if_pos q2, if_pos q2]
      · rw [if_neg q2, if_neg q2]
  have l1 : (wSh g 0).1.length = 16 := by rw [h1]; rfl
  have l2 : (wSh (wSh g 0) 1).1.length = 18 := by rw [h2]; rfl
  have l3 : (wSh (wSh (wSh g 0) 1) 2).1.length = 20 := by rw [h3]; rfl
  have l4 : (wSh (wSh (wSh (wSh g 0) 1) 2) 3).1.length = 22 := by rw [h4]; rfl
  have s1 : x_r (wSh g 0) 0 6 = .ref 6 := by rw [rS, gl]; exact r06
  have s2 : x_r (wSh (wSh g 0) 1) 0 6 = .ref 6 := by rw [rS, l1]; exact s1
  have s3 : x_r (wSh (wSh (wSh g 0) 1) 2) 0 6 = .ref 6 := by rw [rS, l2]; exact s2
  have e1 := fun Q => S1s (L := L) (xs := xs) (d := d + 59) (w := g) (Q := Q) (s := 0) (by decide) gl ((tg 0).trans rfl) ((tg 6).trans rfl) r06
  have e2 := fun Q => S1s (L := L) (xs := xs) (d := d + 59) (w := wSh g 0) (Q := Q) (s := 1) (by decide) l1 ((tg_of h1 0).trans rfl) ((tg_of h1 6).trans rfl) s1
  have e3 := fun Q => S1s (L := L) (xs := xs) (d := d + 59) (w := wSh (wSh g 0) 1) (Q := Q) (s := 2) (by decide) l2 ((tg_of h2 0).trans rfl) ((tg_of h2 6).trans rfl) s2
  have e4 := fun Q => S1s (L := L) (xs := xs) (d := d + 59) (w := wSh (wSh (wSh g 0) 1) 2) (Q := Q) (s := 3) (by decide) l3 ((tg_of h3 0).trans rfl) ((tg_of h3 6).trans rfl) s3
  have eS : ∀ Q, X_R L xs (d + 60) 1 129 [.ref 0, .ref 10, .int (nI 0)] [] g Q = X_R L xs (d + 60) 1 129 [.ref 0, .ref 10, .int (nI 4)] [] (wSh (wSh (wSh (wSh g 0) 1) 2) 3) Q := fun Q => (e1 Q).trans ((e2 Q).trans ((e3 Q).trans (e4 Q)))
  generalize hh : wSh (wSh (wSh (wSh g 0) 1) 2) 3 = h at *
  have hv1 : (x_new (x_new h (0, 0) (fun _ => 0)) (0, 3) (fun _ => 0)).1 = T0.take 24 := by rw [nw_1, nw_1, h4]; rfl
  have hv2 : (x_new (x_new h (0, 0) (fun _ => 0)) (0, 3) (fun _ => 0)).1.length = 24 := by rw [hv1]; rfl
  have e85 := fun Q => S85a (L := L) (xs := xs) (d := d + 58) (w := x_new (x_new h (0, 0) (fun _ => 0)) (0, 3) (fun _ => 0)) (Q := Q) hv2 ((tg_of hv1 23).trans rfl)
  have hn1 : (wNt (x_new (x_new h (0, 0) (fun _ => 0)) (0, 3) (fun _ => 0))).1 = T0.take 29 := by rw [wNt_1, hv1]; rfl
  have hn2 : x_r (wNt (x_new (x_new h (0, 0) (fun _ => 0)) (0, 3) (fun _ => 0))) 23 0 = .ref 24 := by unfold wNt; simp only [Nat.zero_le, and_true, true_and, x_nb0, x_nb1, x_nbp, x_isL_int, x_isL_ref, x_isL_junk, x_isR_ref, x_cat_nil, x_cat_int, x_cat_ref, x_cat_long, Option.toList_some, Option.toList_none, List.cons_append, List.nil_append, Nat.reduceAdd, Nat.reduceLeDiff, Nat.reduceLT, t_tag_si, t_tag_sr, t_tag_sI, x_r_si, x_i_sr, t_r_sI, x_ia_si, x_ia_sI, x_ia_sr, x_ra_si, x_ra_sI, x_ra_sr, nw_len, len_si, len_sr, len_sI, tg_new, xr_new, xr_sr, xi_new, xi_si, nI_cl, lD, ltD, nI_n0, Nat.reduceEqDiff, Nat.reducePow, if_true, if_false, and_false, false_and, and_self, or_false, false_or, not_false_eq_true, not_true_eq_false, ne_eq, l4]
  have hn24 : x_i (wNt (x_new (x_new h (0, 0) (fun _ => 0)) (0, 3) (fun _ => 0))) 24 = fun _ => 0 := by unfold wNt; funext k; simp only [Nat.zero_le, and_true, true_and, x_nb0, x_nb1, x_nbp, x_isL_int, x_isL_ref, x_isL_junk, x_isR_ref, x_cat_nil, x_cat_int, x_cat_ref, x_cat_long, Option.toList_some, Option.toList_none, List.cons_append, List.nil_append, Nat.reduceAdd, Nat.reduceLeDiff, Nat.reduceLT, t_tag_si, t_tag_sr, t_tag_sI, x_r_si, x_i_sr, t_r_sI, x_ia_si, x_ia_sI, x_ia_sr, x_ra_si, x_ra_sI, x_ra_sr, nw_len, len_si, len_sr, len_sI, tg_new, xr_new, xr_sr, xi_new, xi_si, nI_cl, lD, ltD, nI_n0, Nat.reduceEqDiff, Nat.reducePow, if_true, if_false, and_false, false_and, and_self, or_false, false_or, not_false_eq_true, not_true_eq_false, ne_eq, l4]
  have hn6 : x_i (wNt (x_new (x_new h (0, 0) (fun _ => 0)) (0, 3) (fun _ => 0))) 23 6 = nI 0 := by unfold wNt; simp only [Nat.zero_le, and_true, true_and, x_nb0, x_nb1, x_nbp, x_isL_int, x_isL_ref, x_isL_junk, x_isR_ref, x_cat_nil, x_cat_int, x_cat_ref, x_cat_long, Option.toList_some, Option.toList_none, List.cons_append, List.nil_append, Nat.reduceAdd, Nat.reduceLeDiff, Nat.reduceLT, t_tag_si, t_tag_sr, t_tag_sI, x_r_si, x_i_sr, t_r_sI, x_ia_si, x_ia_sI, x_ia_sr, x_ra_si, x_ra_sI, x_ra_sr, nw_len, len_si, len_sr, len_sI, tg_new, xr_new, xr_sr, xi_new, xi_si, nI_cl, lD, ltD, nI_n0, Nat.reduceEqDiff, Nat.reducePow, if_true, if_false, and_false, false_and, and_self, or_false, false_or, not_false_eq_true, not_true_eq_false, ne_eq, l4]
  obtain ⟨N, cN, N6, N24, eN⟩ := S85o (L := L) (xs := xs) (d := d + 56) (w := wNt (x_new (x_new h (0, 0) (fun _ => 0)) (0, 3) (fun _ => 0))) ⟨(tg_of hn1 23).trans rfl, (tg_of hn1 24).trans rfl, hn2⟩ 20 0 (by decide) _ x_junk rfl Ch.refl hn6
  rw [hn24] at N24
  have N1 : N.1 = T0.take 29 := cN.1.trans hn1
  have Nl : N.1.length = 29 := by rw [N1]; rfl
  have e51 := fun Q => S51c (L := L) (xs := xs) (d := d + 59) (w := N) (Q := Q) Nl ((tg_of N1 22).trans rfl)
  have k0 : (wCr N).1 = T0.take 35 := by rw [wCr_1, N1]; rfl
  have k1 : (wSl (wCr N) 0).1 = T0.take 36 := by rw [wSl_1, k0]; rfl
  have k2 : (wSl (wSl (wCr N) 0) 1).1 = T0.take 37 := by rw [wSl_1, k1]; rfl
  have k3 : (wSl (wSl (wSl (wCr N) 0) 1) 2).1 = T0.take 38 := by rw [wSl_1, k2]; rfl
  have k4 : (wSl (wSl (wSl (wSl (wCr N) 0) 1) 2) 3).1 = T0.take 39 := by rw [wSl_1, k3]; rfl
  have k5 : (wSl (wSl (wSl (wSl (wSl (wCr N) 0) 1) 2) 3) 4).1 = T0.take 40 := by rw [wSl_1, k4]; rfl
  have k6 : (wSl (wSl (wSl (wSl (wSl (wSl (wCr N) 0) 1) 2) 3) 4) 5).1 = T0.take 41 := by rw [wSl_1, k5]; rfl
  have len : ∀ {w : x_W} {n : Nat}, w.1 = T0.take n → n ≤ 66 → w.1.length = n := fun {w n} h hn => by rw [h, List.length_take, T0_66]; omega
  have rL : ∀ w s, 35 ≤ w.1.length → x_r (wSl w s) 22 2 = x_r w 22 2 := fun w s hw => by
    unfold wSl
    rw [xr_sr, if_neg (fun z => absurd z.1 (by decide))]
    show x_r (x_new w (0, 5) (fun _ => 0)) 22 2 = _
    rw [xr_new, if_neg (by omega)]
  have q0 : x_r (wCr N) 22 2 = .ref 29 := by unfold wCr; simp only [Nat.zero_le, and_true, true_and, x_nb0, x_nb1, x_nbp, x_isL_int, x_isL_ref, x_isL_junk, x_isR_ref, x_cat_nil, x_cat_int, x_cat_ref, x_cat_long, Option.toList_some, Option.toList_none, List.cons_append, List.nil_append, Nat.reduceAdd, Nat.reduceLeDiff, Nat.reduceLT, t_tag_si, t_tag_sr, t_tag_sI, x_r_si, x_i_sr, t_r_sI, x_ia_si, x_ia_sI, x_ia_sr, x_ra_si, x_ra_sI, x_ra_sr, nw_len, len_si, len_sr, len_sI, tg_new, xr_new, xr_sr, xi_new, xi_si, nI_cl, lD, ltD, nI_n0, Nat.reduceEqDiff, Nat.reducePow, if_true, if_false, and_false, false_and, and_self, or_false, false_or, not_false_eq_true, not_true_eq_false, ne_eq, Nl]
  have q1 : x_r (wSl (wCr N) 0) 22 2 = .ref 29 := by rw [rL _ _ (by rw [len k0 (by decide)]; decide)]; exact q0
  have q2 : x_r (wSl (wSl (wCr N) 0) 1) 22 2 = .ref 29 := by rw [rL _ _ (by rw [len k1 (by decide)]; decide)]; exact q1
  have q3 : x_r (wSl (wSl (wSl (wCr N) 0) 1) 2) 22 2 = .ref 29 := by rw [rL _ _ (by rw [len k2 (by decide)]; decide)]; exact q2
  have q4 : x_r (wSl (wSl (wSl (wSl (wCr N) 0) 1) 2) 3) 22 2 = .ref 29 := by rw [rL _ _ (by rw [len k3 (by decide)]; decide)]; exact q3
  have q5 : x_r (wSl (wSl (wSl (wSl (wSl (wCr N) 0) 1) 2) 3) 4) 22 2 = .ref 29 := by rw [rL _ _ (by rw [len k4 (by decide)]; decide)]; exact q4
  have f0 := fun Q => S51s (L := L) (xs := xs) (d := d + 58) (Q := Q) (s := 0) (by decide) (len k0 (by decide)) ((tg_of k0 22).trans rfl) ((tg_of k0 29).trans rfl) q0 (.ref 10) rfl
  have f1 := fun Q => S51s (L := L) (xs := xs) (d := d + 58) (Q := Q) (s := 1) (by decide) (len k1 (by decide)) ((tg_of k1 22).trans rfl) ((tg_of k1 29).trans rfl) q1 (.ref 10) rfl
  have f2 := fun Q => S51s (L := L) (xs := xs) (d := d + 58) (Q := Q) (s := 2) (by decide) (len k2 (by decide)) ((tg_of k2 22).trans rfl) ((tg_of k2 29).trans rfl) q2 (.ref 10) rfl
  have f3 := fun Q => S51s (L := L) (xs := xs) (d := d + 58) (Q := Q) (s := 3) (by decide) (len k3 (by decide)) ((tg_of k3 22).trans rfl) ((tg_of k3 29).trans rfl) q3 (.ref 10) rfl
  have f4 := fun Q => S51s (L := L) (xs := xs) (d := d + 58) (Q := Q) (s := 4) (by decide) (len k4 (by decide)) ((tg_of k4 22).trans rfl) ((tg_of k4 29).trans rfl) q4 (.ref 10) rfl
  have f5 := fun Q => S51s (L := L) (xs := xs) (d := d + 58) (Q := Q) (s := 5) (by decide) (len k5 (by decide)) ((tg_of k5 22).trans rfl) ((tg_of k5 29).trans rfl) q5 (.ref 10) rfl
  have eK : ∀ Q, X_R L xs (d + 59) 51 76 [.ref 22, .ref 10, .int (nI 0)] [] (wCr N) Q = X_R L xs (d + 59) 51 76 [.ref 22, .ref 10, .int (nI 6)] [] (wSl (wSl (wSl (wSl (wSl (wSl (wCr N) 0) 1) 2) 3) 4) 5) Q := fun Q => (f0 Q).trans ((f1 Q).trans ((f2 Q).trans ((f3 Q).trans ((f4 Q).trans (f5 Q)))))
  have Nr : ∀ b, x_r N b = x_r (wNt (x_new (x_new h (0, 0) (fun _ => 0)) (0, 3) (fun _ => 0))) b := cN.r
  have Ni : ∀ b, b ≠ 23 → b ≠ 24 → x_i N b = x_i (wNt (x_new (x_new h (0, 0) (fun _ => 0)) (0, 3) (fun _ => 0))) b := fun b h1 h2 => funext fun k => cN.2.2 b k (by
    unfold pNt gp
    have a1 : (b == 23) = false := beq_false_of_ne h1
    have a2 : (b == 24) = false := beq_false_of_ne h2
    simp only [List.elem, List.any, a1, a2, Bool.false_and, Bool.or_false])
  have N231 : x_i N 23 1 = nI 557073 := by
    rw [cN.2.2 23 1 rfl]
    unfold wNt
    simp only [Nat.zero_le, and_true, true_and, x_nb0, x_nb1, x_nbp, x_isL_int, x_isL_ref, x_isL_junk, x_isR_ref, x_cat_nil, x_cat_int, x_cat_ref, x_cat_long, Option.toList_some, Option.toList_none, List.cons_append, List.nil_append, Nat.reduceAdd, Nat.reduceLeDiff, Nat.reduceLT, t_tag_si, t_tag_sr, t_tag_sI, x_r_si, x_i_sr, t_r_sI, x_ia_si, x_ia_sI, x_ia_sr, x_ra_si, x_ra_sI, x_ra_sr, nw_len, len_si, len_sr, len_sI, tg_new, xr_new, xr_sr, xi_new, xi_si, nI_cl, lD, ltD, nI_n0, Nat.reduceEqDiff, Nat.reducePow, if_true, if_false, and_false, false_and, and_self, or_false, false_or, not_false_eq_true, not_true_eq_false, ne_eq, l4]
  have hr : ∀ b k, b < 22 → x_r N b k = x_r h b k := fun b k hb => by
    rw [Nr]
    unfold wNt
    simp only [Nat.zero_le, and_true, true_and, x_nb0, x_nb1, x_nbp, x_isL_int, x_isL_ref, x_isL_junk, x_isR_ref, x_cat_nil, x_cat_int, x_cat_ref, x_cat_long, Option.toList_some, Option.toList_none, List.cons_append, List.nil_append, Nat.reduceAdd, Nat.reduceLeDiff, Nat.reduceLT, t_tag_si, t_tag_sr, t_tag_sI, x_r_si, x_i_sr, t_r_sI, x_ia_si, x_ia_sI, x_ia_sr, x_ra_si, x_ra_sI, x_ra_sr, nw_len, len_si, len_sr, len_sI, tg_new, xr_new, xr_sr, xi_new, xi_si, nI_cl, lD, ltD, nI_n0, Nat.reduceEqDiff, Nat.reducePow, if_true, if_false, and_false, false_and, and_self, or_false, false_or, not_false_eq_true, not_true_eq_false, ne_eq, l4, show ¬ b = 22 by omega, show ¬ b = 23 by omega, show ¬ b = 24 by omega, show ¬ b = 25 by omega, show ¬ b = 26 by omega, show ¬ b = 27 by omega, show ¬ b = 28 by omega]
  have hi : ∀ b k, b < 22 → x_i N b k = x_i h b k := fun b k hb => by
    rw [Ni b (by omega) (by omega)]
    unfold wNt
    simp only [Nat.zero_le, and_true, true_and, x_nb0, x_nb1, x_nbp, x_isL_int, x_isL_ref, x_isL_junk, x_isR_ref, x_cat_nil, x_cat_int, x_cat_ref, x_cat_long, Option.toList_some, Option.toList_none, List.cons_append, List.nil_append, Nat.reduceAdd, Nat.reduceLeDiff, Nat.reduceLT, t_tag_si, t_tag_sr, t_tag_sI, x_r_si, x_i_sr, t_r_sI, x_ia_si, x_ia_sI, x_ia_sr, x_ra_si, x_ra_sI, x_ra_sr, nw_len, len_si, len_sr, len_sI, tg_new, xr_new, xr_sr, xi_new, xi_si, nI_cl, lD, ltD, nI_n0, Nat.reduceEqDiff, Nat.reducePow, if_true, if_false, and_false, false_and, and_self, or_false, false_or, not_false_eq_true, not_true_eq_false, ne_eq, l4, show ¬ b = 22 by omega, show ¬ b = 23 by omega, show ¬ b = 24 by omega, show ¬ b = 25 by omega, show ¬ b = 26 by omega, show ¬ b = 27 by omega, show ¬ b = 28 by omega]
  have n23 : x_r N 23 0 = .ref 24 ∧ x_r N 23 2 = .ref 25 ∧ x_r N 23 3 = .ref 26 ∧ x_r N 23 4 = .ref 27 ∧ x_r N 23 5 = .ref 28 := by
    rw [Nr]
    unfold wNt
    simp only [Nat.zero_le, and_true, true_and, x_nb0, x_nb1, x_nbp, x_isL_int, x_isL_ref, x_isL_junk, x_isR_ref, x_cat_nil, x_cat_int, x_cat_ref, x_cat_long, Option.toList_some, Option.toList_none, List.cons_append, List.nil_append, Nat.reduceAdd, Nat.reduceLeDiff, Nat.reduceLT, t_tag_si, t_tag_sr, t_tag_sI, x_r_si, x_i_sr, t_r_sI, x_ia_si, x_ia_sI, x_ia_sr, x_ra_si, x_ra_sI, x_ra_sr, nw_len, len_si, len_sr, len_sI, tg_new, xr_new, xr_sr, xi_new, xi_si, nI_cl, lD, ltD, nI_n0, Nat.reduceEqDiff, Nat.reducePow, if_true, if_false, and_false, false_and, and_self, or_false, false_or, not_false_eq_true, not_true_eq_false, ne_eq, l4]
  refine ⟨x_sr (x_sr (wSl (wSl (wSl (wSl (wSl (wSl (wCr N) 0) 1) 2) 3) 4) 5) 0 4 (.ref 22)) 0 5 (.ref 23), hO, ?_, fun Q => ?_⟩
  · have hw := hh.symm
    have hG : ∀ b k, b < 14 → b ≠ 6 → x_r h b k = x_r g b k := fun b k hb h6 => by
      rw [hw]
      unfold wSh
      simp only [Nat.zero_le, and_true, true_and, x_nb0, x_nb1, x_nbp, x_isL_int, x_isL_ref, x_isL_junk, x_isR_ref, x_cat_nil, x_cat_int, x_cat_ref, x_cat_long, Option.toList_some, Option.toList_none, List.cons_append, List.nil_append, Nat.reduceAdd, Nat.reduceLeDiff, Nat.reduceLT, t_tag_si, t_tag_sr, t_tag_sI, x_r_si, x_i_sr, t_r_sI, x_ia_si, x_ia_sI, x_ia_sr, x_ra_si, x_ra_sI, x_ra_sr, Nat.reduceMul, nw_len, len_si, len_sr, len_sI, tg_new, xr_new, xr_sr, xi_new, xi_si, nI_cl, lD, ltD, nI_n0, Nat.reduceEqDiff, Nat.reducePow, if_true, if_false, and_false, false_and, and_self, or_false, false_or, not_false_eq_true, not_true_eq_false, ne_eq, gl, h6, show ¬ b = 14 by omega, show ¬ b = 15 by omega, show ¬ b = 16 by omega, show ¬ b = 17 by omega, show ¬ b = 18 by omega, show ¬ b = 19 by omega, show ¬ b = 20 by omega, show ¬ b = 21 by omega]
    have hGi : ∀ b k, b < 14 → x_i h b k = x_i g b k := fun b k hb => by
      rw [hw]
      unfold wSh
      simp only [Nat.zero_le, and_true, true_and, x_nb0, x_nb1, x_nbp, x_isL_int, x_isL_ref, x_isL_junk, x_isR_ref, x_cat_nil, x_cat_int, x_cat_ref, x_cat_long, Option.toList_some, Option.toList_none, List.cons_append, List.nil_append, Nat.reduceAdd, Nat.reduceLeDiff, Nat.reduceLT, t_tag_si, t_tag_sr, t_tag_sI, x_r_si, x_i_sr, t_r_sI, x_ia_si, x_ia_sI, x_ia_sr, x_ra_si, x_ra_sI, x_ra_sr, Nat.reduceMul, nw_len, len_si, len_sr, len_sI, tg_new, xr_new, xr_sr, xi_new, xi_si, nI_cl, lD, ltD, nI_n0, Nat.reduceEqDiff, Nat.reducePow, if_true, if_false, and_false, false_and, and_self, or_false, false_or, not_false_eq_true, not_true_eq_false, ne_eq, gl, show ¬ b = 14 by omega, show ¬ b = 15 by omega, show ¬ b = 16 by omega, show ¬ b = 17 by omega, show ¬ b = 18 by omega, show ¬ b = 19 by omega, show ¬ b = 20 by omega, show ¬ b = 21 by omega]
    have hS : (x_r h 6 0 = .ref 14 ∧ x_r h 6 1 = .ref 16 ∧ x_r h 6 2 = .ref 18 ∧ x_r h 6 3 = .ref 20) ∧ x_r h 14 2 = .ref 15 ∧ x_r h 16 2 = .ref 17 ∧ x_r h 18 2 = .ref 19 ∧ x_r h 20 2 = .ref 21 := by
      rw [hw]
      unfold wSh
      simp only [Nat.zero_le, and_true, true_and, x_nb0, x_nb1, x_nbp, x_isL_int, x_isL_ref, x_isL_junk, x_isR_ref, x_cat_nil, x_cat_int, x_cat_ref, x_cat_long, Option.toList_some, Option.toList_none, List.cons_append, List.nil_append, Nat.reduceAdd, Nat.reduceLeDiff, Nat.reduceLT, t_tag_si, t_tag_sr, t_tag_sI, x_r_si, x_i_sr, t_r_sI, x_ia_si, x_ia_sI, x_ia_sr, x_ra_si, x_ra_sI, x_ra_sr, Nat.reduceMul, nw_len, len_si, len_sr, len_sI, tg_new, xr_new, xr_sr, xi_new, xi_si, nI_cl, lD, ltD, nI_n0, Nat.reduceEqDiff, Nat.reducePow, if_true, if_false, and_false, false_and, and_self, or_false, false_or, not_false_eq_true, not_true_eq_false, ne_eq, gl]
    have hSi : ∀ s, s < 4 → x_i h (14 + 2 * s) 0 = -1 ∧ x_i h (14 + 2 * s) 1 = nI 0 ∧ ∀ k, x_i h (15 + 2 * s) k = 0 := by
      rw [hw]
      unfold wSh
      refine four ⟨⟨?_, ?_, fun k => ?_⟩, ⟨?_, ?_, fun k => ?_⟩, ⟨?_, ?_, fun k => ?_⟩, ⟨?_, ?_, fun k => ?_⟩⟩ <;> simp only [Nat.zero_le, and_true, true_and, x_nb0, x_nb1, x_nbp, x_isL_int, x_isL_ref, x_isL_junk, x_isR_ref, x_cat_nil, x_cat_int, x_cat_ref, x_cat_long, Option.toList_some, Option.toList_none, List.cons_append, List.nil_append, Nat.reduceAdd, Nat.reduceLeDiff, Nat.reduceLT, t_tag_si, t_tag_sr, t_tag_sI, x_r_si, x_i_sr, t_r_sI, x_ia_si, x_ia_sI, x_ia_sr, x_ra_si, x_ra_sI, x_ra_sr, Nat.reduceMul, nw_len, len_si, len_sr, len_sI, tg_new, xr_new, xr_sr, xi_new, xi_si, nI_cl, lD, ltD, nI_n0, Nat.reduceEqDiff, Nat.reducePow, if_true, if_false, and_false, false_and, and_self, or_false, false_or, not_false_eq_true, not_true_eq_false, ne_eq, gl]
    have KG : ∀ b k, b < 29 → b ≠ 22 → x_r (wSl (wSl (wSl (wSl (wSl (wSl (wCr N) 0) 1) 2) 3) 4) 5) b k = x_r N b k := fun b k hb h22 => by
      unfold wSl wCr
      simp only [Nat.zero_le, and_true, true_and, x_nb0, x_nb1, x_nbp, x_isL_int, x_isL_ref, x_isL_junk, x_isR_ref, x_cat_nil, x_cat_int, x_cat_ref, x_cat_long, Option.toList_some, Option.toList_none, List.cons_append, List.nil_append, Nat.reduceAdd, Nat.reduceLeDiff, Nat.reduceLT, t_tag_si, t_tag_sr, t_tag_sI, x_r_si, x_i_sr, t_r_sI, x_ia_si, x_ia_sI, x_ia_sr, x_ra_si, x_ra_sI, x_ra_sr, nw_len, len_si, len_sr, len_sI, tg_new, xr_new, xr_sr, xi_new, xi_si, nI_cl, lD, ltD, nI_n0, Nat.reduceEqDiff, Nat.reducePow, if_true, if_false, and_false, false_and, and_self, or_false, false_or, not_false_eq_true, not_true_eq_false, ne_eq, Nl, h22, show ¬ b = 29 by omega, show ¬ b = 30 by omega, show ¬ b = 31 by omega, show ¬ b = 32 by omega, show ¬ b = 33 by omega, show ¬ b = 34 by omega, show ¬ b = 35 by omega, show ¬ b = 36 by omega, show ¬ b = 37 by omega, show ¬ b = 38 by omega, show ¬ b = 39 by omega, show ¬ b = 40 by omega]
    have KGi : ∀ b k, b < 29 → b ≠ 22 → x_i (wSl (wSl (wSl (wSl (wSl (wSl (wCr N) 0) 1) 2) 3) 4) 5) b k = x_i N b k := fun b k hb h22 => by
      unfold wSl wCr
      simp only [Nat.zero_le, and_true, true_and, x_nb0, x_nb1, x_nbp, x_isL_int, x_isL_ref, x_isL_junk, x_isR_ref, x_cat_nil, x_cat_int, x_cat_ref, x_cat_long, Option.toList_some, Option.toList_none, List.cons_append, List.nil_append, Nat.reduceAdd, Nat.reduceLeDiff, Nat.reduceLT, t_tag_si, t_tag_sr, t_tag_sI, x_r_si, x_i_sr, t_r_sI, x_ia_si, x_ia_sI, x_ia_sr, x_ra_si, x_ra_sI, x_ra_sr, nw_len, len_si, len_sr, len_sI, tg_new, xr_new, xr_sr, xi_new, xi_si, nI_cl, lD, ltD, nI_n0, Nat.reduceEqDiff, Nat.reducePow, if_true, if_false, and_false, false_and, and_self, or_false, false_or, not_false_eq_true, not_true_eq_false, ne_eq, Nl, h22, show ¬ b = 29 by omega, show ¬ b = 30 by omega, show ¬ b = 31 by omega, show ¬ b = 32 by omega, show ¬ b = 33 by omega, show ¬ b = 34 by omega, show ¬ b = 35 by omega, show ¬ b = 36 by omega, show ¬ b = 37 by omega, show ¬ b = 38 by omega, show ¬ b = 39 by omega, show ¬ b = 40 by omega]
    have K22 : (x_r (wSl (wSl (wSl (wSl (wSl (wSl (wCr N) 0) 1) 2) 3) 4) 5) 22 0 = .ref 23 ∧ x_r (wSl (wSl (wSl (wSl (wSl (wSl (wCr N) 0) 1) 2) 3) 4) 5) 22 1 = .ref 10 ∧ x_r (wSl (wSl (wSl (wSl (wSl (wSl (wCr N) 0) 1) 2) 3) 4) 5) 22 2 = .ref 29 ∧ x_r (wSl (wSl (wSl (wSl (wSl (wSl (wCr N) 0) 1) 2) 3) 4) 5) 22 3 = .ref 30 ∧ x_r (wSl (wSl (wSl (wSl (wSl (wSl (wCr N) 0) 1) 2) 3) 4) 5) 22 5 = .ref 31 ∧ x_r (wSl (wSl (wSl (wSl (wSl (wSl (wCr N) 0) 1) 2) 3) 4) 5) 22 6 = .ref 32 ∧ x_r (wSl (wSl (wSl (wSl (wSl (wSl (wCr N) 0) 1) 2) 3) 4) 5) 22 7 = .ref 33 ∧ x_r (wSl (wSl (wSl (wSl (wSl (wSl (wCr N) 0) 1) 2) 3) 4) 5) 22 8 = .ref 34) ∧ x_i (wSl (wSl (wSl (wSl (wSl (wSl (wCr N) 0) 1) 2) 3) 4) 5) 22 4 = nI 0 ∧ ∀ k, x_i (wSl (wSl (wSl (wSl (wSl (wSl (wCr N) 0) 1) 2) 3) 4) 5) 30 k = 0 := by
      unfold wSl wCr
      simp only [Nat.zero_le, and_true, true_and, x_nb0, x_nb1, x_nbp, x_isL_int, x_isL_ref, x_isL_junk, x_isR_ref, x_cat_nil, x_cat_int, x_cat_ref, x_cat_long, Option.toList_some, Option.toList_none, List.cons_append, List.nil_append, Nat.reduceAdd, Nat.reduceLeDiff, Nat.reduceLT, t_tag_si, t_tag_sr, t_tag_sI, x_r_si, x_i_sr, t_r_sI, x_ia_si, x_ia_sI, x_ia_sr, x_ra_si, x_ra_sI, x_ra_sr, nw_len, len_si, len_sr, len_sI, tg_new, xr_new, xr_sr, xi_new, xi_si, nI_cl, lD, ltD, nI_n0, Nat.reduceEqDiff, Nat.reducePow, if_true, if_false, and_false, false_and, and_self, or_false, false_or, not_false_eq_true, not_true_eq_false, ne_eq, Nl, implies_true]
    have K29 : x_r (wSl (wSl (wSl (wSl (wSl (wSl (wCr N) 0) 1) 2) 3) 4) 5) 29 0 = .ref 35 ∧ x_r (wSl (wSl (wSl (wSl (wSl (wSl (wCr N) 0) 1) 2) 3) 4) 5) 29 1 = .ref 36 ∧ x_r (wSl (wSl (wSl (wSl (wSl (wSl (wCr N) 0) 1) 2) 3) 4) 5) 29 2 = .ref 37 ∧ x_r (wSl (wSl (wSl (wSl (wSl (wSl (wCr N) 0) 1) 2) 3) 4) 5) 29 3 = .ref 38 ∧ x_r (wSl (wSl (wSl (wSl (wSl (wSl (wCr N) 0) 1) 2) 3) 4) 5) 29 4 = .ref 39 ∧ x_r (wSl (wSl (wSl (wSl (wSl (wSl (wCr N) 0) 1) 2) 3) 4) 5) 29 5 = .ref 40 := by
      unfold wSl wCr
      simp only [Nat.zero_le, and_true, true_and, x_nb0, x_nb1, x_nbp, x_isL_int, x_isL_ref, x_isL_junk, x_isR_ref, x_cat_nil, x_cat_int, x_cat_ref, x_cat_long, Option.toList_some, Option.toList_none, List.cons_append, List.nil_append, Nat.reduceAdd, Nat.reduceLeDiff, Nat.reduceLT, t_tag_si, t_tag_sr, t_tag_sI, x_r_si, x_i_sr, t_r_sI, x_ia_si, x_ia_sI, x_ia_sr, x_ra_si, x_ra_sI, x_ra_sr, nw_len, len_si, len_sr, len_sI, tg_new, xr_new, xr_sr, xi_new, xi_si, nI_cl, lD, ltD, nI_n0, Nat.reduceEqDiff, Nat.reducePow, if_true, if_false, and_false, false_and, and_self, or_false, false_or, not_false_eq_true, not_true_eq_false, ne_eq, Nl]
    have KSi : ∀ s, s < 6 → x_i (wSl (wSl (wSl (wSl (wSl (wSl (wCr N) 0) 1) 2) 3) 4) 5) (35 + s) 0 = nI 0 ∧ x_i (wSl (wSl (wSl (wSl (wSl (wSl (wCr N) 0) 1) 2) 3) 4) 5) (35 + s) 1 = nI 0 ∧ x_i (wSl (wSl (wSl (wSl (wSl (wSl (wCr N) 0) 1) 2) 3) 4) 5) (35 + s) 2 = nI 0 := by
      unfold wSl wCr
      refine six ⟨⟨?_, ?_, ?_⟩, ⟨?_, ?_, ?_⟩, ⟨?_, ?_, ?_⟩, ⟨?_, ?_, ?_⟩, ⟨?_, ?_, ?_⟩, ⟨?_, ?_, ?_⟩⟩ <;> simp only [Nat.zero_le, and_true, true_and, x_nb0, x_nb1, x_nbp, x_isL_int, x_isL_ref, x_isL_junk, x_isR_ref, x_cat_nil, x_cat_int, x_cat_ref, x_cat_long, Option.toList_some, Option.toList_none, List.cons_append, List.nil_append, Nat.reduceAdd, Nat.reduceLeDiff, Nat.reduceLT, t_tag_si, t_tag_sr, t_tag_sI, x_r_si, x_i_sr, t_r_sI, x_ia_si, x_ia_sI, x_ia_sr, x_ra_si, x_ra_sI, x_ra_sr, nw_len, len_si, len_sr, len_sI, tg_new, xr_new, xr_sr, xi_new, xi_si, nI_cl, lD, ltD, nI_n0, Nat.reduceEqDiff, Nat.reducePow, if_true, if_false, and_false, false_and, and_self, or_false, false_or, not_false_eq_true, not_true_eq_false, ne_eq, Nl]
    generalize hK : wSl (wSl (wSl (wSl (wSl (wSl (wCr N) 0) 1) 2) 3) 4) 5 = K at *
    have hWi : ∀ b, x_i (x_sr (x_sr K 0 4 (.ref 22)) 0 5 (.ref 23)) b = x_i K b := fun b => rfl
    have hg : ∀ b k, b < 14 → b ≠ 6 → x_r K b k = x_r g b k := fun b k hb h6 => (KG b k (by omega) (by omega)).trans ((hr b k (by omega)).trans (hG b k hb h6))
    have hgi : ∀ b k, b < 14 → x_i K b k = x_i g b k := fun b k hb => (KGi b k (by omega) (by omega)).trans ((hi b k (by omega)).trans (hGi b k hb))
    have hhr : ∀ b k, b < 22 → x_r K b k = x_r h b k := fun b k hb => (KG b k (by omega) (by omega)).trans (hr b k hb)
    have hhi : ∀ b k, b < 22 → x_i K b k = x_i h b k := fun b k hb => (KGi b k (by omega) (by omega)).trans (hi b k hb)
    have h23 : ∀ k, x_r K 23 k = x_r N 23 k := fun k => KG 23 k (by decide) (by decide)
    have hWr : ∀ b k, b ≠ 0 → x_r (x_sr (x_sr K 0 4 (.ref 22)) 0 5 (.ref 23)) b k = x_r K b k := fun b k hb => by rw [x_r_srn _ _ _ _ hb, x_r_srn _ _ _ _ hb]
    refine ⟨k6, ?_, ⟨?_, ?_, ?_, ?_⟩, ⟨fun k hk => ?_, ?_, ?_, ?_⟩, ⟨?_, ?_, ?_, ?_, ?_, ?_, ?_, ?_, ?_⟩, fun s hs => ?_, fun s hs => ?_⟩
    · have eR : R0.take 38 = [(0, 0, 1), (0, 1, 5), (0, 4, 22), (0, 5, 23), (0, 6, 6), (0, 7, 7), (1, 0, 2), (1, 2, 3), (1, 4, 4), (6, 0, 14), (6, 1, 16), (6, 2, 18), (6, 3, 20), (7, 2, 8), (7, 4, 9), (10, 0, 11), (10, 1, 12), (10, 2, 13), (14, 2, 15), (16, 2, 17), (18, 2, 19), (20, 2, 21), (22, 0, 23), (22, 2, 29), (22, 3, 30), (22, 5, 31), (22, 6, 32), (22, 7, 33), (22, 8, 34), (23, 0, 24), (23, 2, 25), (23, 5, 28), (29, 0, 35), (29, 1, 36), (29, 2, 37), (29, 3, 38), (29, 4, 39), (29, 5, 40)] := rfl
      rw [eR]
      simp only [List.forall_mem_cons, List.not_mem_nil, false_implies, implies_true, and_true]
      refine ⟨?_, ?_, ?_, ?_, ?_, ?_, ?_, ?_, ?_, ?_, ?_, ?_, ?_, ?_, ?_, ?_, ?_, ?_, ?_, ?_, ?_, ?_, ?_, ?_, ?_, ?_, ?_, ?_, ?_, ?_, ?_, ?_, ?_, ?_, ?_, ?_, ?_, ?_⟩
      · simp only [xr_sr, and_false, if_false, Nat.reduceEqDiff]; exact (hg 0 0 (by decide) (by decide)).trans r00
      · simp only [xr_sr, and_false, if_false, Nat.reduceEqDiff]; exact (hg 0 1 (by decide) (by decide)).trans r01
      · simp only [xr_sr, and_self, and_false, if_true, if_false, Nat.reduceEqDiff]
      · simp only [xr_sr, and_self, and_false, if_true, if_false, Nat.reduceEqDiff]
      · simp only [xr_sr, and_false, if_false, Nat.reduceEqDiff]; exact (hg 0 6 (by decide) (by decide)).trans r06
      · simp only [xr_sr, and_false, if_false, Nat.reduceEqDiff]; exact (hg 0 7 (by decide) (by decide)).trans r07
      · exact (hWr 1 0 (by decide)).trans ((hg 1 0 (by decide) (by decide)).trans r10)
      · exact (hWr 1 2 (by decide)).trans ((hg 1 2 (by decide) (by decide)).trans r12)
      · exact (hWr 1 4 (by decide)).trans ((hg 1 4 (by decide) (by decide)).trans r14)
      · exact (hWr 6 0 (by decide)).trans ((hhr 6 0 (by decide)).trans hS.1.1)
      · exact (hWr 6 1 (by decide)).trans ((hhr 6 1 (by decide)).trans hS.1.2.1)
      · exact (hWr 6 2 (by decide)).trans ((hhr 6 2 (by decide)).trans hS.1.2.2.1)
      · exact (hWr 6 3 (by decide)).trans ((hhr 6 3 (by decide)).trans hS.1.2.2.2)
      · exact (hWr 7 2 (by decide)).trans ((hg 7 2 (by decide) (by decide)).trans r72)
      · exact (hWr 7 4 (by decide)).trans ((hg 7 4 (by decide) (by decide)).trans r74)
      · exact (hWr 10 0 (by decide)).trans ((hg 10 0 (by decide) (by decide)).trans ra0)
      · exact (hWr 10 1 (by decide)).trans ((hg 10 1 (by decide) (by decide)).trans ra1)
      · exact (hWr 10 2 (by decide)).trans ((hg 10 2 (by decide) (by decide)).trans ra2)
      · exact (hWr 14 2 (by decide)).trans ((hhr 14 2 (by decide)).trans hS.2.1)
      · exact (hWr 16 2 (by decide)).trans ((hhr 16 2 (by decide)).trans hS.2.2.1)
      · exact (hWr 18 2 (by decide)).trans ((hhr 18 2 (by decide)).trans hS.2.2.2.1)
      · exact (hWr 20 2 (by decide)).trans ((hhr 20 2 (by decide)).trans hS.2.2.2.2)
      · exact (hWr 22 0 (by decide)).trans K22.1.1
      · exact (hWr 22 2 (by decide)).trans K22.1.2.2.1
      · exact (hWr 22 3 (by decide)).trans K22.1.2.2.2.1
      · exact (hWr 22 5 (by decide)).trans K22.1.2.2.2.2.1
      · exact (hWr 22 6 (by decide)).trans K22.1.2.2.2.2.2.1
      · exact (hWr 22 7 (by decide)).trans K22.1.2.2.2.2.2.2.1
      · exact (hWr 22 8 (by decide)).trans K22.1.2.2.2.2.2.2.2
      · exact (hWr 23 0 (by decide)).trans ((h23 0).trans n23.1)
      · exact (hWr 23 2 (by decide)).trans ((h23 2).trans n23.2.1)
      · exact (hWr 23 5 (by decide)).trans ((h23 5).trans n23.2.2.2.2)
      · exact (hWr 29 0 (by decide)).trans K29.1
      · exact (hWr 29 1 (by decide)).trans K29.2.1
      · exact (hWr 29 2 (by decide)).trans K29.2.2.1
      · exact (hWr 29 3 (by decide)).trans K29.2.2.2.1
      · exact (hWr 29 4 (by decide)).trans K29.2.2.2.2.1
      · exact (hWr 29 5 (by decide)).trans K29.2.2.2.2.2
    · rw [hWr 5 _ (by decide), hg 5 _ (by decide) (by decide)]; exact r50
    · rw [hWr 22 _ (by decide)]; exact K22.1.2.1
    · rw [hWr 23 _ (by decide), h23]; exact n23.2.2.1
    · rw [hWr 23 _ (by decide), h23]; exact n23.2.2.2.1
    · rw [hWi, hgi 11 _ (by decide)]; exact hlaw.1 k hk
    · rw [hWi, hgi 12 _ (by decide)]; exact hlaw.2.1
    · rw [hWi, hgi 12 _ (by decide)]; exact hlaw.2.2.1
    · rw [hWi, hgi 12 _ (by decide)]; exact hlaw.2.2.2
    · rw [hWi, hgi 0 _ (by decide)]; exact i02
    · rw [hWi, hgi 0 _ (by decide)]; exact i03
    · rw [hWi, hgi 1 _ (by decide)]; exact i11
    · rw [hWi, hgi 7 _ (by decide)]; exact i70
    · rw [hWi]; exact K22.2.1
    · rw [hWi, KGi 23 _ (by decide) (by decide)]; exact N231
    · rw [hWi, KGi 23 _ (by decide) (by decide)]; exact N6
    · rw [hWi]; funext k; rw [KGi 24 _ (by decide) (by decide), N24]; rfl
    · rw [hWi]; funext k; exact K22.2.2 k
    · rw [hWi, hWi, hhi _ _ (by omega), hhi _ _ (by omega)]
      exact ⟨(hSi s hs).1, (hSi s hs).2.1, funext fun k => by rw [hhi _ _ (by omega)]; exact (hSi s hs).2.2 k⟩
    · rw [hWi]; exact KSi s hs
  · have t59 : x_tag (x_new h (0, 0) (fun _ => 0)) 22 = some (0, 0) := nw_tn l4.symm
    have e85' : ∀ Q, X_R L xs (d + 58) 85 0 [.ref 23, x_junk, x_junk] [] (x_new (x_new h (0, 0) (fun _ => 0)) (0, 3) (fun _ => 0)) Q = Q none N := fun Q => (e85 Q).trans (eN Q)
    have lv : (x_new h (0, 0) (fun _ => 0)).1.length = 23 := by rw [nw_len, l4]
    rw [eG, eS]
    have K22 : x_r (wSl (wSl (wSl (wSl (wSl (wSl (wCr N) 0) 1) 2) 3) 4) 5) 22 0 = .ref 23 := by
      unfold wSl wCr
      simp only [Nat.zero_le, and_true, true_and, x_nb0, x_nb1, x_nbp, x_isL_int, x_isL_ref, x_isL_junk, x_isR_ref, x_cat_nil, x_cat_int, x_cat_ref, x_cat_long, Option.toList_some, Option.toList_none, List.cons_append, List.nil_append, Nat.reduceAdd, Nat.reduceLeDiff, Nat.reduceLT, t_tag_si, t_tag_sr, t_tag_sI, x_r_si, x_i_sr, t_r_sI, x_ia_si, x_ia_sI, x_ia_sr, x_ra_si, x_ra_sI, x_ra_sr, nw_len, len_si, len_sr, len_sI, tg_new, xr_new, xr_sr, xi_new, xi_si, nI_cl, lD, ltD, nI_n0, Nat.reduceEqDiff, Nat.reducePow, if_true, if_false, and_false, false_and, and_self, or_false, false_or, not_false_eq_true, not_true_eq_false, ne_eq, Nl]
    have tK0 := (tg_of k6 0).trans (show (T0.take 41)[0]? = some (0, 7) from rfl)
    have tK22 := (tg_of k6 22).trans (show (T0.take 41)[22]? = some (0, 0) from rfl)
    generalize hK : wSl (wSl (wSl (wSl (wSl (wSl (wCr N) 0) 1) 2) 3) 4) 5 = K at *
    have le4 : h.1.length ≤ 899 := by omega
    have lev : (x_new h (0, 0) (fun _ => 0)).1.length ≤ 899 := by omega
    simp only [X1_129, X1_130, X1_131, X1_153, X1_154, X1_157i, X1_157, X1_158, X1_159, X51_0, X51_1, X51_4, X51_5, X51_8i, X51_8, X51_9, Nat.zero_le, and_true, true_and, x_nb0, x_nb1, x_nbp, x_isL_int, x_isL_ref, x_isL_junk, x_isR_ref, x_cat_nil, x_cat_int, x_cat_ref, x_cat_long, Option.toList_some, Option.toList_none, List.cons_append, List.nil_append, Nat.reduceAdd, Nat.reduceLeDiff, Nat.reduceLT, t_tag_si, t_tag_sr, t_tag_sI, x_r_si, x_i_sr, t_r_sI, x_ia_si, x_ia_sI, x_ia_sr, x_ra_si, x_ra_sI, x_ra_sr, nI_leT (Nat.le_refl 4) (show 4 < 2 ^ 31 by decide), if_true, le4, l4, lev, lv, e85', e51, eK, X51_76, X51_77, X51_79, X51_101, nI_leT (Nat.le_refl 6) (show 6 < 2 ^ 31 by decide), X1_162, X1_165, X1_166, X1_167, X1_170, X1_173, X1_176, tK0, tK22, xr_sr, Nat.reduceEqDiff, and_self, and_false, false_and, if_false, K22]
end S9999935
