/-! ===== the class puts a law together ===== -/
theorem nw_t {w : x_W} {t : Nat × Nat} {f : Nat → Int32} {a : Nat} (h : a < w.1.length) : x_tag (x_new w t f) a = x_tag w a := List.getElem?_append_left h
theorem nw_tn {w : x_W} {t : Nat × Nat} {f : Nat → Int32} {a : Nat} (h : a = w.1.length) : x_tag (x_new w t f) a = some t := by
  subst h
  show (w.1 ++ [t])[w.1.length]? = some t
  rw [List.getElem?_append_right (Nat.le_refl _), Nat.sub_self]
  rfl
theorem nw_i {w : x_W} {t : Nat × Nat} {f : Nat → Int32} {b : Nat} (h : b ≠ w.1.length) : x_i (x_new w t f) b = x_i w b := if_neg h
theorem nw_in {w : x_W} {t : Nat × Nat} {f : Nat → Int32} {b : Nat} (h : b = w.1.length) : x_i (x_new w t f) b = f := if_pos h
theorem nw_r {w : x_W} {t : Nat × Nat} {f : Nat → Int32} {b : Nat} (h : b ≠ w.1.length) : x_r (x_new w t f) b = x_r w b := if_neg h
theorem nw_len {w : x_W} {t : Nat × Nat} {f : Nat → Int32} : (x_new w t f).1.length = w.1.length + 1 := List.length_append
theorem sI_new {w : x_W} {t : Nat × Nat} {f g : Nat → Int32} : x_sI (x_new w t f) w.1.length g = x_new w t g := by
  unfold x_sI x_new
  refine Prod.ext rfl (Prod.ext (funext fun b => ?_) rfl)
  show (if b = w.1.length then g else if b = w.1.length then f else w.2.1 b) = if b = w.1.length then g else w.2.1 b
  split <;> rfl
theorem tnOf {w : x_W} {a : Nat} {t : Nat × Nat} (h : x_tag w a = some t) : x_tn w a = t.2 := by
  unfold x_tn
  rw [h]
  rfl
theorem wfL_st (st : Nat → Nat) : ∀ (l : List Nat) (pre h' : Nat), (∀ k, k < l.length → st (pre + k) = l.getD k 0) → wfL l (topN st pre) h' → (∀ m, m < l.length → wfT (st (pre + m)) (topN st (pre + m))) ∧ topN st (pre + l.length) = h' := by
  intro l
  induction l with
  | nil => intro pre h' _ hw; exact ⟨fun m hm => absurd hm (Nat.not_lt_zero m), (show h' = topN st pre from hw).symm⟩
  | cons t l ih =>
    intro pre h' hk hw
    have h0 : st pre = t := hk 0 (Nat.succ_pos _)
    obtain ⟨hw1, hw2⟩ := hw
    have e1 : topN st (pre + 1) = top1 t (topN st pre) := by
      show top1 (st pre) (topN st pre) = _
      rw [h0]
    rw [← e1] at hw2
    obtain ⟨q1, q2⟩ := ih (pre + 1) h' (fun k hk2 => by
      rw [show pre + 1 + k = pre + (k + 1) by omega]
      exact hk (k + 1) (Nat.succ_lt_succ hk2)) hw2
    refine ⟨fun m hm => ?_, ?_⟩
    · cases m with
      | zero => rw [Nat.add_zero, h0]; exact hw1
      | succ m =>
        rw [show pre + (m + 1) = pre + 1 + m by omega]
        exact q1 m (Nat.lt_of_succ_lt_succ hm)
    · rw [← q2, List.length_cons]
      exact congrArg (topN st) (by omega)
theorem WfP_of {l : List Nat} (h : ∀ h, wfL l h (h + 1)) : WfP (fun m => l.getD m 0) l.length := by
  obtain ⟨q1, q2⟩ := wfL_st (fun m => l.getD m 0) l 0 1 (fun k _ => by rw [Nat.zero_add]) (h 0)
  rw [Nat.zero_add] at q2
  refine ⟨fun m hm => ?_, by rw [q2]; decide⟩
  have := q1 m hm
  rw [Nat.zero_add] at this
  exact this
section S999990
variable {L : Nat} {xs : Nat → Int32} {d : Nat} {w : x_W} {Q : Option Value → x_W → Prop}
theorem S243 {a m c : Nat} (ht : x_tag w a = some (1, m)) (ha : a < 900) (hm : m ≤ 2000) (hc : c ≤ m) (h9 : w.1.length ≤ 899) (hal : a < w.1.length) : ∃ f : Nat → Int32, (∀ k, k < c → f k = x_i w a k) ∧ ∀ Q, X_R L xs d 243 0 [.ref a, .int (nI c), x_junk] [] w Q = Q (some (.ref w.1.length)) (x_new w (1, c) f) := by
  have etn : x_tn w a = m := tnOf ht
  have ht' : x_tag w a = some (1, x_tn w a) := by rw [etn]; exact ht
  have tc := nI_cl (show c < 2 ^ 31 by omega)
  by_cases hcm : c = m
  · subst hcm
    refine ⟨x_i w a, fun _ _ => rfl, fun Q => ?_⟩
    have ht2 : x_tag (x_new w (1, c) (x_i w a)) w.1.length = some (1, x_tn (x_new w (1, c) (x_i w a)) w.1.length) := by
      have h1 := nw_tn (w := w) (t := (1, c)) (f := x_i w a) rfl
      rw [tnOf h1]
      exact h1
    have h7 := fun (Q' : Option Value → x_W → Prop) (al st : List Value) (h8 : x_cat st ≤ 8) => X243_7 (L := L) (xs := xs) (d := d) (al := al) (st := st) (w := w) (Q := Q') ht' (by omega) h9 h8
    have h10 := fun (Q' : Option Value → x_W → Prop) (al st : List Value) => X243_10 (L := L) (xs := xs) (d := d) (al := al) (st := st) (Q := Q') ht2
    simp only [etn] at h7
    simp only [X243_0, X243_1, X243_2 ht' ha, etn, X243_3, X243_6, Nat.zero_le, and_true, true_and, x_nb0, x_nb1, x_nbp, x_isL_int, x_isL_ref, x_isL_junk, x_isR_ref, x_cat_nil, x_cat_int, x_cat_ref, x_cat_long, Option.toList_some, Option.toList_none, List.cons_append, List.nil_append, Nat.reduceAdd, Nat.reduceLeDiff, Nat.reduceLT, t_tag_si, t_tag_sr, t_tag_sI, x_r_si, x_i_sr, t_r_sI, x_ia_si, x_ia_sI, x_ia_sr, x_ra_si, x_ra_sI, x_ra_sr, if_true, h7, h10, X243_13]
  · have n15 : ¬ (nI c < 0 ∨ 2000 < (nI c).toNatClampNeg) := by
      have h1 := x_ix_nI (show c < 2001 by omega) (show 2001 < 2 ^ 31 by decide)
      rw [tc]
      rintro (h2 | h2)
      · exact h1 (Or.inl h2)
      · omega
    have h15 := fun (Q' : Option Value → x_W → Prop) (al st : List Value) => X243_15 (L := L) (xs := xs) (d := d) (al := al) (st := st) (w := w) (Q := Q') n15 h9
    rw [tc] at h15
    have ne : a ≠ w.1.length := by omega
    have t1 : x_tag (x_new w (1, c) (fun _ => 0)) a = some (1, x_tn (x_new w (1, c) (fun _ => 0)) a) := by
      have h1 := nw_t (w := w) (t := (1, c)) (f := fun _ => 0) hal
      rw [ht] at h1
      rw [tnOf h1]
      exact h1
    have tn1 : x_tn (x_new w (1, c) (fun _ => 0)) a = m := by
      have h1 := nw_t (w := w) (t := (1, c)) (f := fun _ => 0) hal
      rw [ht] at h1
      exact tnOf h1
    have h2n := nw_tn (w := w) (t := (1, c)) (f := fun _ => 0) rfl
    have t2 : x_tag (x_new w (1, c) (fun _ => 0)) w.1.length = some (1, x_tn (x_new w (1, c) (fun _ => 0)) w.1.length) := by
      rw [tnOf h2n]
      exact h2n
    have tn2 : x_tn (x_new w (1, c) (fun _ => 0)) w.1.length = c := tnOf h2n
    have n28 : ¬ (nI c < 0 ∨ nI 0 < 0 ∨ nI 0 < 0) := by
      rintro (h2 | h2 | h2)
      · exact n15 (Or.inl h2)
      · exact absurd h2 (by decide)
      · exact absurd h2 (by decide)
    have z0 : (nI 0).toNatClampNeg = 0 := nI_cl (by decide)
    have h28 := fun (Q' : Option Value → x_W → Prop) (al st : List Value) (h8 : x_cat st ≤ 8) => X243_28 (L := L) (xs := xs) (d := d) (al := al) (st := st) (w := x_new w (1, c) (fun _ => 0)) (Q := Q') (n := nI c) (sp := nI 0) (dp := nI 0) t1 t2 n28 (by rw [tn1, tc, z0]; omega) (by rw [tn2, tc, z0]; omega) h8
    refine ⟨va_cpy (x_i (x_new w (1, c) (fun _ => 0)) a) (x_i (x_new w (1, c) (fun _ => 0)) w.1.length) 0 0 c, fun k hk => ?_, fun Q => ?_⟩
    · rw [pk_cpy_in (by omega) (by omega), nw_i ne]
      exact congrArg (x_i w a) (by omega)
    · have h23 := fun (Q' : Option Value → x_W → Prop) (al st : List Value) => X243_23 (L := L) (xs := xs) (d := d) (al := al) (st := st) (w := x_new w (1, c) (fun _ => 0)) (Q := Q') t1 ha
      rw [tn1] at h23
      rw [tc, z0, sI_new] at h28
      simp only [X243_0, X243_1, X243_2 ht' ha, etn, X243_3, Nat.zero_le, and_true, true_and, x_nb0, x_nb1, x_nbp, x_isL_int, x_isL_ref, x_isL_junk, x_isR_ref, x_cat_nil, x_cat_int, x_cat_ref, x_cat_long, Option.toList_some, Option.toList_none, List.cons_append, List.nil_append, Nat.reduceAdd, Nat.reduceLeDiff, Nat.reduceLT, t_tag_si, t_tag_sr, t_tag_sI, x_r_si, x_i_sr, t_r_sI, x_ia_si, x_ia_sI, x_ia_sr, x_ra_si, x_ra_sI, x_ra_sr, nI_eqF hcm (show c < 2 ^ 31 by omega) (show m < 2 ^ 31 by omega), if_false, X243_14, h15, X243_17, X243_18, X243_19, X243_20, X243_21, X243_22, h23, X243_24, X243_25, nI_ltT (show c < m by omega) (show m < 2 ^ 31 by omega), if_true, h28, X243_31, X243_32]
theorem S80 {a A E n : Nat} (ht : x_tag w a = some (0, 2)) (hA : x_tag w A = some (1, n)) (hA9 : A < 900) (hn : n ≤ 160) (h9 : w.1.length ≤ 899) (hal : a < w.1.length) : X_R L xs d 80 0 [.ref a, .ref A, .ref E] [] w Q = Q none (x_sr (x_new (x_sr (x_sr w a 0 (.ref A)) a 1 (.ref E)) (1, n + 1) (fun _ => 0)) a 2 (.ref w.1.length)) := by
  have ht1 : x_tag (x_sr w a 0 (.ref A)) a = some (0, 2) := ht
  have hA2 : x_tag (x_sr (x_sr w a 0 (.ref A)) a 1 (.ref E)) A = some (1, n) := hA
  have tn2 := tnOf hA2
  have hA3 : x_tag (x_sr (x_sr w a 0 (.ref A)) a 1 (.ref E)) A = some (1, x_tn (x_sr (x_sr w a 0 (.ref A)) a 1 (.ref E)) A) := by rw [tn2]; exact hA2
  have h16 := fun (Q' : Option Value → x_W → Prop) (al st : List Value) => X80_16 (L := L) (xs := xs) (d := d) (al := al) (st := st) (Q := Q') hA3 hA9
  rw [tn2] at h16
  have tc := nI_cl (show n + 1 < 2 ^ 31 by omega)
  have n19 : ¬ (nI (n + 1) < 0 ∨ 2000 < (nI (n + 1)).toNatClampNeg) := by
    have h1 := x_ix_nI (show n + 1 < 2001 by omega) (show 2001 < 2 ^ 31 by decide)
    rw [tc]
    rintro (h2 | h2)
    · exact h1 (Or.inl h2)
    · omega
  have h19 := fun (Q' : Option Value → x_W → Prop) (al st : List Value) => X80_19 (L := L) (xs := xs) (d := d) (al := al) (st := st) (w := x_sr (x_sr w a 0 (.ref A)) a 1 (.ref E)) (Q := Q') n19 h9
  rw [tc] at h19
  have ht3 : x_tag (x_new (x_sr (x_sr w a 0 (.ref A)) a 1 (.ref E)) (1, n + 1) (fun _ => 0)) a = some (0, 2) := (nw_t (w := x_sr (x_sr w a 0 (.ref A)) a 1 (.ref E)) (t := (1, n + 1)) (f := fun _ => 0) hal).trans ht
  have elen : (x_sr (x_sr w a 0 (.ref A)) a 1 (.ref E)).1.length = w.1.length := rfl
  rw [elen] at h19
  simp only [X80_0, X80_1, X80_4, X80_5, X80_6 ht, X80_9, X80_10, X80_11 ht1, X80_14, X80_15, Nat.zero_le, and_true, true_and, x_nb0, x_nb1, x_nbp, x_isL_int, x_isL_ref, x_isL_junk, x_isR_ref, x_cat_nil, x_cat_int, x_cat_ref, x_cat_long, Option.toList_some, Option.toList_none, List.cons_append, List.nil_append, Nat.reduceAdd, Nat.reduceLeDiff, Nat.reduceLT, t_tag_si, t_tag_sr, t_tag_sI, x_r_si, x_i_sr, t_r_sI, x_ia_si, x_ia_sI, x_ia_sr, x_ra_si, x_ra_sI, x_ra_sr, h16, X80_17, X80_18, nI_add, h19, X80_21 ht3, X80_24]
theorem S132 {n : Nat} (hs : ShT w) (h3 : x_i w 1 3 = nI n) (hn : n ≤ 160) (h9 : w.1.length ≤ 890) (h5 : 5 ≤ w.1.length) (h34 : w.1.length + 3 ≠ 34) : ∃ w2, w2.1 = w.1 ++ [(0, 2), (1, n), (1, 3), (1, n + 1)] ∧ (∀ b, b < w.1.length → x_i w2 b = x_i w b) ∧ (∀ b, b < w.1.length → x_r w2 b = x_r w b) ∧ LawX w2 w.1.length (w.1.length + 1) (w.1.length + 2) (w.1.length + 3) n ∧ (∀ k, k < n → x_i w2 (w.1.length + 1) k = x_i w 3 k) ∧ (∀ k, k < 3 → x_i w2 (w.1.length + 2) k = x_i w 4 k) ∧ ∀ Q, X_R L xs (d + 1) 132 0 [.ref 1] [] w Q = Q (some (.ref w.1.length)) w2 := by
  generalize hN : w.1.length = N at *
  have h132 := fun (Q' : Option Value → x_W → Prop) (al st : List Value) => X132_0 (L := L) (xs := xs) (d := d + 1) (al := al) (st := st) (w := w) (Q := Q') (by omega)
  rw [hN] at h132
  have la : (x_new w (0, 2) (fun _ => 0)).1.length = N + 1 := by rw [nw_len, hN]
  have ta : ∀ b, b < N → x_tag (x_new w (0, 2) (fun _ => 0)) b = x_tag w b := fun b hb => nw_t (by omega)
  have taN : x_tag (x_new w (0, 2) (fun _ => 0)) N = some (0, 2) := nw_tn hN.symm
  have ia : ∀ b, b < N → x_i (x_new w (0, 2) (fun _ => 0)) b = x_i w b := fun b hb => nw_i (by omega)
  have ra : ∀ b, b < N → x_r (x_new w (0, 2) (fun _ => 0)) b = x_r w b := fun b hb => nw_r (by omega)
  generalize hwa : x_new w (0, 2) (fun _ => 0) = wa at *
  obtain ⟨f, hf, ef⟩ := S243 (L := L) (xs := xs) (d := d) (w := wa) (a := 3) (m := 160) (c := n) (by rw [ta 3 (by omega)]; exact hs.2.2.1) (by decide) (by decide) hn (by omega) (by omega)
  rw [la] at ef
  have lb : (x_new wa (1, n) f).1.length = N + 2 := by rw [nw_len, la]
  have tb : ∀ b, b < N + 1 → x_tag (x_new wa (1, n) f) b = x_tag wa b := fun b hb => nw_t (by omega)
  have tbN : x_tag (x_new wa (1, n) f) (N + 1) = some (1, n) := nw_tn la.symm
  have ib : ∀ b, b < N + 1 → x_i (x_new wa (1, n) f) b = x_i wa b := fun b hb => nw_i (by omega)
  have ibN : x_i (x_new wa (1, n) f) (N + 1) = f := nw_in la.symm
  have rb : ∀ b, b < N + 1 → x_r (x_new wa (1, n) f) b = x_r wa b := fun b hb => nw_r (by omega)
  generalize hwb : x_new wa (1, n) f = wb at *
  obtain ⟨g, hg, eg⟩ := S243 (L := L) (xs := xs) (d := d) (w := wb) (a := 4) (m := 3) (c := 3) (by rw [tb 4 (by omega), ta 4 (by omega)]; exact hs.2.2.2.1) (by decide) (by decide) (Nat.le_refl _) (by omega) (by omega)
  rw [lb] at eg
  have lc : (x_new wb (1, 3) g).1.length = N + 3 := by rw [nw_len, lb]
  have tc : ∀ b, b < N + 2 → x_tag (x_new wb (1, 3) g) b = x_tag wb b := fun b hb => nw_t (by omega)
  have tcN : x_tag (x_new wb (1, 3) g) (N + 2) = some (1, 3) := nw_tn lb.symm
  have ic : ∀ b, b < N + 2 → x_i (x_new wb (1, 3) g) b = x_i wb b := fun b hb => nw_i (by omega)
  have icN : x_i (x_new wb (1, 3) g) (N + 2) = g := nw_in lb.symm
  have rc : ∀ b, b < N + 2 → x_r (x_new wb (1, 3) g) b = x_r wb b := fun b hb => nw_r (by omega)
  generalize hwc : x_new wb (1, 3) g = wc at *
  have e80 := fun (Q' : Option Value → x_W → Prop) => S80 (L := L) (xs := xs) (d := d) (w := wc) (a := N) (A := N + 1) (E := N + 2) (n := n) (Q := Q') (by rw [tc N (by omega), tb N (by omega)]; exact taN) (by rw [tc _ (by omega)]; exact tbN) (by omega) hn (by omega) (by omega)
  rw [lc] at e80
  have ld : (x_sr (x_sr wc N 0 (.ref (N + 1))) N 1 (.ref (N + 2))).1.length = N + 3 := lc
  have hlen : wc.1 = w.1 ++ [(0, 2), (1, n), (1, 3)] := by
    rw [← hwc, ← hwb, ← hwa]
    show ((w.1 ++ [(0, 2)]) ++ [(1, n)]) ++ [(1, 3)] = _
    rw [List.append_assoc, List.append_assoc]
    rfl
  have tag4 : ∀ b, b < N + 3 → x_tag (x_sr (x_new (x_sr (x_sr wc N 0 (.ref (N + 1))) N 1 (.ref (N + 2))) (1, n + 1) (fun _ => 0)) N 2 (.ref (N + 3))) b = x_tag wc b := fun b hb => nw_t (w := x_sr (x_sr wc N 0 (.ref (N + 1))) N 1 (.ref (N + 2))) (t := (1, n + 1)) (f := fun _ => 0) (by rw [ld]; omega)
  have int4 : ∀ b, b < N + 3 → x_i (x_sr (x_new (x_sr (x_sr wc N 0 (.ref (N + 1))) N 1 (.ref (N + 2))) (1, n + 1) (fun _ => 0)) N 2 (.ref (N + 3))) b = x_i wc b := fun b hb => nw_i (w := x_sr (x_sr wc N 0 (.ref (N + 1))) N 1 (.ref (N + 2))) (t := (1, n + 1)) (f := fun _ => 0) (by rw [ld]; omega)
  refine ⟨x_sr (x_new (x_sr (x_sr wc N 0 (.ref (N + 1))) N 1 (.ref (N + 2))) (1, n + 1) (fun _ => 0)) N 2 (.ref (N + 3)), ?_, fun b hb => ?_, fun b hb => ?_, ⟨?_, ?_, ?_, ?_, ?_, ?_, ?_, ⟨by omega, by omega, by omega, hn⟩, ⟨by omega, by omega, by omega⟩⟩, fun k hk => ?_, fun k hk => ?_, fun Q => ?_⟩
  · show wc.1 ++ [(1, n + 1)] = _
    rw [hlen, List.append_assoc]
    rfl
  · rw [int4 b (by omega), ic b (by omega), ib b (by omega), ia b hb]
  · rw [x_r_srn _ _ _ _ (by omega), nw_r (by rw [ld]; omega), x_r_srn _ _ _ _ (by omega), x_r_srn _ _ _ _ (by omega), rc b (by omega), rb b (by omega), ra b hb]
  · rw [tag4 N (by omega), tc N (by omega), tb N (by omega)]; exact taN
  · rw [x_r_srk _ _ _ _ (by decide), nw_r (by rw [ld]; omega), x_r_srk _ _ _ _ (by decide), x_r_sr]
  · rw [x_r_srk _ _ _ _ (by decide), nw_r (by rw [ld]; omega), x_r_sr]
  · rw [x_r_sr]
  · rw [tag4 _ (by omega), tc _ (by omega)]; exact tbN
  · rw [tag4 _ (by omega)]; exact tcN
  · exact nw_tn (w := x_sr (x_sr wc N 0 (.ref (N + 1))) N 1 (.ref (N + 2))) (t := (1, n + 1)) (f := fun _ => 0) ld.symm
  · rw [int4 _ (by omega), ic _ (by omega), ibN, hf k hk, ia 3 (by omega)]
  · rw [int4 _ (by omega), icN, hg k hk, ib 4 (by omega), ia 4 (by omega)]
  · have e13 : x_i wa 1 3 = nI n := by rw [ia 1 (by omega)]; exact h3
    have q1 : x_tag wa 1 = some (0, 6) := by rw [ta 1 (by omega)]; exact hs.1
    have q2 : x_r wa 1 2 = .ref 3 := by rw [ra 1 (by omega)]; exact hs.2.2.2.2.2.1
    have q3 : x_tag wb 1 = some (0, 6) := by rw [tb 1 (by omega)]; exact q1
    have q4 : x_r wb 1 4 = .ref 4 := by rw [rb 1 (by omega), ra 1 (by omega)]; exact hs.2.2.2.2.2.2
    simp only [h132, X132_3i, X132_3, X132_4, X132_5, X132_8, X132_9, X132_12, X132_15, X132_16, X132_19, X132_20, X132_23, X132_26, Nat.zero_le, and_true, true_and, x_nb0, x_nb1, x_nbp, x_isL_int, x_isL_ref, x_isL_junk, x_isR_ref, x_cat_nil, x_cat_int, x_cat_ref, x_cat_long, Option.toList_some, Option.toList_none, List.cons_append, List.nil_append, Nat.reduceAdd, Nat.reduceLeDiff, Nat.reduceLT, t_tag_si, t_tag_sr, t_tag_sI, x_r_si, x_i_sr, t_r_sI, x_ia_si, x_ia_sI, x_ia_sr, x_ra_si, x_ra_sI, x_ra_sr, q1, q2, e13, ef, q3, q4, eg, e80]
end S999990
