/-! ===== the reference's reader: what it holds and puts down ===== -/
def pU (nt b k : Nat) : Bool := gp [57] [(41, 29), (41, 30), (41, 31)] b k || (b == 48 && decide (200 * nt ≤ k))
def pQ (nt b k : Nat) : Bool := gp [57] [(41, 23), (41, 24), (41, 25), (41, 26), (41, 29), (41, 30), (41, 31)] b k || (b == 48 && decide (200 * nt ≤ k))
def MH (w : x_W) (nt : Nat) (H out : List Nat) : Prop := nt < 6 ∧ x_i w 41 11 = nI nt ∧ x_i w 41 29 = nI H.length ∧ x_i w 41 30 = nI (cnt H) ∧ x_i w 41 31 = nI out.length ∧ (∀ k, k < H.length → x_i w 57 k = nI (H.reverse.getD k 0)) ∧ (∀ k, k < out.length → x_i w 48 (200 * nt + k) = smT (out.getD k 0)) ∧ (∀ c, c ∈ H → c ≤ 19) ∧ H.length + out.length ≤ 160
theorem pQ_gp {nt b k : Nat} (h : pQ nt b k = false) : gp [57] [(41, 23), (41, 24), (41, 25), (41, 26), (41, 29), (41, 30), (41, 31)] b k = false := by
  unfold pQ at h
  rw [Bool.or_eq_false_iff] at h
  exact h.1
theorem gp_sub {l m : List Nat} {ps qs : List (Nat × Nat)} (hl : (l.all fun x => m.elem x) = true) (hp : (ps.all fun q => qs.elem q) = true) {b k : Nat} (hb : gp m qs b k = false) : gp l ps b k = false := by
  cases hq : gp l ps b k with
  | false => rfl
  | true =>
    exfalso
    unfold gp at hb hq
    rw [Bool.or_eq_true] at hq
    rw [Bool.or_eq_false_iff] at hb
    rcases hq with hq | hq
    · exact absurd (elem_sub hl b hq) (by rw [hb.1]; decide)
    · obtain ⟨q, q1, q2⟩ := List.any_eq_true.mp hq
      have h1 := List.elem_iff.mp (List.all_eq_true.mp hp q q1)
      have h2 : qs.any (fun q => b == q.1 && k == q.2) = true := List.any_eq_true.mpr ⟨q, h1, q2⟩
      rw [hb.2] at h2
      exact absurd h2 (by decide)
theorem ChM {nt : Nat} {w w' : x_W} (h : Ch pM w w') : Ch (pQ nt) w w' := h.mono fun _ _ hb => gp_sub rfl rfl (pQ_gp hb)
theorem ChU {nt : Nat} {w w' : x_W} (h : Ch (pU nt) w w') : Ch (pQ nt) w w' := h.mono fun b k hb => by
  have h1 := pQ_gp hb
  unfold pQ at hb
  unfold pU
  rw [Bool.or_eq_false_iff] at hb ⊢
  exact ⟨gp_sub rfl rfl h1, hb.2⟩
theorem cnt_le : ∀ H : List Nat, cnt H ≤ H.length := by
  intro H
  induction H with
  | nil => exact Nat.le_refl _
  | cons c H ih =>
    unfold cnt
    rw [List.length_cons]
    split <;> omega
theorem rev_getD {H : List Nat} {c k : Nat} : (c :: H).reverse.getD k 0 = if k < H.length then H.reverse.getD k 0 else if k = H.length then c else 0 := by
  rw [List.reverse_cons, getD_snoc, List.length_reverse]
theorem unw_len : ∀ (r : Nat) (H out : List Nat), (unw r H out).1.length + (unw r H out).2.length = H.length + out.length := by
  intro r H
  induction H with
  | nil => intro out; rfl
  | cons c H ih =>
    intro out
    unfold unw
    split
    · rw [ih]; simp only [List.length_append, List.length_cons, List.length_nil]; omega
    · rfl
section S99996
variable {L : Nat} {xs : Nat → Int32} {b : Nat → Nat} {n : Nat} {d : Nat} {w : x_W} {Q : Option Value → x_W → Prop} {nt : Nat} {H out : List Nat}
theorem S146 {c : Nat} (hc : c < 2 ^ 31) : X_R L xs d 146 0 [.int (nI c)] [] w Q = Q (some (.int (nI (rk c)))) w := by
  unfold rk
  by_cases h0 : c = 0
  · rw [if_pos h0]
    simp only [X146_0, X146_1, X146_4, X146_5, X146_71, Nat.zero_le, and_true, true_and, x_nb0, x_nb1, x_nbp, x_isL_int, x_isL_ref, x_isL_junk, x_isR_ref, x_cat_nil, x_cat_int, x_cat_ref, x_cat_long, Option.toList_some, Option.toList_none, List.cons_append, List.nil_append, Nat.reduceAdd, Nat.reduceLeDiff, Nat.reduceLT, t_tag_si, t_tag_sr, t_tag_sI, x_r_si, x_i_sr, t_r_sI, x_ia_si, x_ia_sI, x_ia_sr, x_ra_si, x_ra_sI, x_ra_sr, eq_true (congrArg nI h0), ne_eq, not_true_eq_false, if_true, if_false]
  have f0 := nI_eqF h0 hc (show 0 < 2 ^ 31 by decide)
  rw [if_neg h0]
  by_cases h11 : c = 11
  · rw [if_pos h11]
    simp only [X146_0, X146_1, X146_8, X146_9, X146_11, X146_14, X146_15, X146_71, Nat.zero_le, and_true, true_and, x_nb0, x_nb1, x_nbp, x_isL_int, x_isL_ref, x_isL_junk, x_isR_ref, x_cat_nil, x_cat_int, x_cat_ref, x_cat_long, Option.toList_some, Option.toList_none, List.cons_append, List.nil_append, Nat.reduceAdd, Nat.reduceLeDiff, Nat.reduceLT, t_tag_si, t_tag_sr, t_tag_sI, x_r_si, x_i_sr, t_r_sI, x_ia_si, x_ia_sI, x_ia_sr, x_ra_si, x_ra_sI, x_ra_sr, f0, eq_true (congrArg nI h11), ne_eq, not_true_eq_false, not_false_eq_true, if_true, if_false]
  have f11 := nI_eqF h11 hc (show 11 < 2 ^ 31 by decide)
  rw [if_neg h11]
  by_cases h12 : c = 12
  · rw [if_pos h12]
    simp only [X146_0, X146_1, X146_8, X146_9, X146_11, X146_18, X146_19, X146_21, X146_24, X146_25, X146_71, Nat.zero_le, and_true, true_and, x_nb0, x_nb1, x_nbp, x_isL_int, x_isL_ref, x_isL_junk, x_isR_ref, x_cat_nil, x_cat_int, x_cat_ref, x_cat_long, Option.toList_some, Option.toList_none, List.cons_append, List.nil_append, Nat.reduceAdd, Nat.reduceLeDiff, Nat.reduceLT, t_tag_si, t_tag_sr, t_tag_sI, x_r_si, x_i_sr, t_r_sI, x_ia_si, x_ia_sI, x_ia_sr, x_ra_si, x_ra_sI, x_ra_sr, f0, f11, eq_true (congrArg nI h12), ne_eq, not_true_eq_false, not_false_eq_true, if_true, if_false]
  have f12 := nI_eqF h12 hc (show 12 < 2 ^ 31 by decide)
  rw [if_neg h12]
  by_cases h13 : c = 13
  · rw [if_pos h13]
    simp only [X146_0, X146_1, X146_8, X146_9, X146_11, X146_18, X146_19, X146_21, X146_28, X146_29, X146_31, X146_34, X146_35, X146_71, Nat.zero_le, and_true, true_and, x_nb0, x_nb1, x_nbp, x_isL_int, x_isL_ref, x_isL_junk, x_isR_ref, x_cat_nil, x_cat_int, x_cat_ref, x_cat_long, Option.toList_some, Option.toList_none, List.cons_append, List.nil_append, Nat.reduceAdd, Nat.reduceLeDiff, Nat.reduceLT, t_tag_si, t_tag_sr, t_tag_sI, x_r_si, x_i_sr, t_r_sI, x_ia_si, x_ia_sI, x_ia_sr, x_ra_si, x_ra_sI, x_ra_sr, f0, f11, f12, eq_true (congrArg nI h13), ne_eq, not_true_eq_false, not_false_eq_true, if_true, if_false]
  have f13 := nI_eqF h13 hc (show 13 < 2 ^ 31 by decide)
  rw [if_neg h13]
  by_cases h15 : c ≤ 15
  · rw [if_pos h15]
    simp only [X146_0, X146_1, X146_8, X146_9, X146_11, X146_18, X146_19, X146_21, X146_28, X146_29, X146_31, X146_38, X146_39, X146_41, X146_44, X146_45, X146_71, Nat.zero_le, and_true, true_and, x_nb0, x_nb1, x_nbp, x_isL_int, x_isL_ref, x_isL_junk, x_isR_ref, x_cat_nil, x_cat_int, x_cat_ref, x_cat_long, Option.toList_some, Option.toList_none, List.cons_append, List.nil_append, Nat.reduceAdd, Nat.reduceLeDiff, Nat.reduceLT, t_tag_si, t_tag_sr, t_tag_sI, x_r_si, x_i_sr, t_r_sI, x_ia_si, x_ia_sI, x_ia_sr, x_ra_si, x_ra_sI, x_ra_sr, f0, f11, f12, f13, nI_ltF h15 (show 15 < 2 ^ 31 by decide), ne_eq, not_true_eq_false, not_false_eq_true, if_true, if_false]
  have f15 := nI_ltT (Nat.not_le.mp h15) hc
  rw [if_neg h15]
  by_cases h17 : c ≤ 17
  · rw [if_pos h17]
    simp only [X146_0, X146_1, X146_8, X146_9, X146_11, X146_18, X146_19, X146_21, X146_28, X146_29, X146_31, X146_38, X146_39, X146_41, X146_48, X146_49, X146_51, X146_54, X146_55, X146_71, Nat.zero_le, and_true, true_and, x_nb0, x_nb1, x_nbp, x_isL_int, x_isL_ref, x_isL_junk, x_isR_ref, x_cat_nil, x_cat_int, x_cat_ref, x_cat_long, Option.toList_some, Option.toList_none, List.cons_append, List.nil_append, Nat.reduceAdd, Nat.reduceLeDiff, Nat.reduceLT, t_tag_si, t_tag_sr, t_tag_sI, x_r_si, x_i_sr, t_r_sI, x_ia_si, x_ia_sI, x_ia_sr, x_ra_si, x_ra_sI, x_ra_sr, f0, f11, f12, f13, f15, nI_ltF h17 (show 17 < 2 ^ 31 by decide), ne_eq, not_true_eq_false, not_false_eq_true, if_true, if_false]
  have f17 := nI_ltT (Nat.not_le.mp h17) hc
  rw [if_neg h17]
  by_cases h18 : c = 18
  · rw [if_pos h18]
    simp only [X146_0, X146_1, X146_8, X146_9, X146_11, X146_18, X146_19, X146_21, X146_28, X146_29, X146_31, X146_38, X146_39, X146_41, X146_48, X146_49, X146_51, X146_58, X146_59, X146_61, X146_64, X146_66, X146_71, Nat.zero_le, and_true, true_and, x_nb0, x_nb1, x_nbp, x_isL_int, x_isL_ref, x_isL_junk, x_isR_ref, x_cat_nil, x_cat_int, x_cat_ref, x_cat_long, Option.toList_some, Option.toList_none, List.cons_append, List.nil_append, Nat.reduceAdd, Nat.reduceLeDiff, Nat.reduceLT, t_tag_si, t_tag_sr, t_tag_sI, x_r_si, x_i_sr, t_r_sI, x_ia_si, x_ia_sI, x_ia_sr, x_ra_si, x_ra_sI, x_ra_sr, f0, f11, f12, f13, f15, f17, eq_true (congrArg nI h18), ne_eq, not_true_eq_false, not_false_eq_true, if_true, if_false]
  have f18 := nI_eqF h18 hc (show 18 < 2 ^ 31 by decide)
  rw [if_neg h18]
  simp only [X146_0, X146_1, X146_8, X146_9, X146_11, X146_18, X146_19, X146_21, X146_28, X146_29, X146_31, X146_38, X146_39, X146_41, X146_48, X146_49, X146_51, X146_58, X146_59, X146_61, X146_69, X146_71, Nat.zero_le, and_true, true_and, x_nb0, x_nb1, x_nbp, x_isL_int, x_isL_ref, x_isL_junk, x_isR_ref, x_cat_nil, x_cat_int, x_cat_ref, x_cat_long, Option.toList_some, Option.toList_none, List.cons_append, List.nil_append, Nat.reduceAdd, Nat.reduceLeDiff, Nat.reduceLT, t_tag_si, t_tag_sr, t_tag_sI, x_r_si, x_i_sr, t_r_sI, x_ia_si, x_ia_sI, x_ia_sr, x_ra_si, x_ra_sI, x_ra_sr, f0, f11, f12, f13, f15, f17, f18, ne_eq, not_true_eq_false, not_false_eq_true, if_true, if_false]
theorem S144 (hs : Sh w) (h11 : x_i w 41 11 = nI nt) (h31 : x_i w 41 31 = nI out.length) (hn : nt < 6) (ho : out.length < 200) {v : Int32} : X_R L xs d 144 0 [.ref 41, .int v] [] w Q = Q none (x_si (x_si w 48 (200 * nt + out.length) v) 41 31 (nI (out.length + 1))) := by
  have tx := x_ix_nI (show 200 * nt + out.length < 1200 by omega) (show 1200 < 2 ^ 31 by decide)
  have tc := nI_cl (show 200 * nt + out.length < 2 ^ 31 by omega)
  have e31 : x_i (x_si w 48 (200 * nt + out.length) v) 41 31 = nI out.length := by rw [x_i_sin _ _ _ _ (by decide)]; exact h31
  simp only [X144_0, X144_1, X144_4, X144_7, X144_8, X144_11, X144_12, X144_13, X144_16, X144_17, X144_18, X144_19, X144_20i, X144_20, X144_21, X144_24, X144_25, X144_26, X144_29, Nat.zero_le, and_true, true_and, x_nb0, x_nb1, x_nbp, x_isL_int, x_isL_ref, x_isL_junk, x_isR_ref, x_cat_nil, x_cat_int, x_cat_ref, x_cat_long, Option.toList_some, Option.toList_none, List.cons_append, List.nil_append, Nat.reduceAdd, Nat.reduceLeDiff, Nat.reduceLT, t_tag_si, t_tag_sr, t_tag_sI, x_r_si, x_i_sr, t_r_sI, x_ia_si, x_ia_sI, x_ia_sr, x_ra_si, x_ra_sI, x_ra_sr, g_t41 hs, g_r41_9 hs, g_a48 hs, h11, h31, nI_mul, nI_add, tx, tc, e31]
theorem MH.put (h : MH w nt H out) {t : Nat} (hl : H.length + (out.length + 1) ≤ 160) {v : Int32} (hv : v = smT t) : MH (x_si (x_si w 48 (200 * nt + out.length) v) 41 31 (nI (out.length + 1))) nt H (out ++ [t]) := by
  obtain ⟨hn, a11, a29, a30, a31, aH, aO, hc, hL⟩ := h
  have e : ∀ j, j ≠ 31 → x_i (x_si (x_si w 48 (200 * nt + out.length) v) 41 31 (nI (out.length + 1))) 41 j = x_i w 41 j := fun j hj => by rw [si_o hj, x_i_sin _ _ _ _ (by decide)]
  have hlen : (out ++ [t]).length = out.length + 1 := by rw [List.length_append]; rfl
  refine ⟨hn, (e 11 (by decide)).trans a11, (e 29 (by decide)).trans a29, (e 30 (by decide)).trans a30, by rw [si_s, hlen], fun k hk => ?_, fun k hk => ?_, hc, by rw [hlen]; exact hl⟩
  · rw [x_i_sin _ _ _ _ (by decide), x_i_sin _ _ _ _ (by decide)]; exact aH k hk
  · rw [hlen] at hk
    rw [x_i_sin _ _ _ _ (by decide), getD_snoc]
    by_cases hko : k < out.length
    · rw [if_pos hko, si_o (by omega)]; exact aO k hko
    · rw [if_neg hko, if_pos (by omega), show k = out.length by omega, si_s]; exact hv
theorem Ch_put {v v2 : Int32} {k : Nat} : Ch (pU nt) w (x_si (x_si w 48 (200 * nt + k) v) 41 31 v2) := by
  refine Ch.trans (Ch_si ?_) (Ch_si rfl)
  unfold pU
  rw [Bool.or_eq_true]
  refine Or.inr ?_
  rw [Bool.and_eq_true]
  exact ⟨rfl, decide_eq_true (by omega)⟩
theorem MH.chM {w1 : x_W} (h : MH w nt H out) (hc : Ch pM w w1) : MH w1 nt H out := by
  unfold MH at *
  rw [hc.2.2 41 11 rfl, hc.2.2 41 29 rfl, hc.2.2 41 30 rfl, hc.2.2 41 31 rfl, hc.i (fun _ => rfl : ∀ k, pM 57 k = false), hc.i (fun _ => rfl : ∀ k, pM 48 k = false)]
  exact h
theorem S148 (hs : Sh w) (h29 : x_i w 41 29 = nI H.length) (hH : H.length < 200) {v : Int32} : X_R L xs d 148 0 [.ref 41, .int v] [] w Q = Q none (x_si (x_si w 57 H.length v) 41 29 (nI (H.length + 1))) := by
  have tx := x_ix_nI (show H.length < 200 by omega) (show 200 < 2 ^ 31 by decide)
  have tc := nI_cl (show H.length < 2 ^ 31 by omega)
  have e29 : x_i (x_si w 57 H.length v) 41 29 = nI H.length := by rw [x_i_sin _ _ _ _ (by decide)]; exact h29
  simp only [X148_0, X148_1, X148_4, X148_5, X148_8, X148_9, X148_10, X148_11i, X148_11, X148_12, X148_15, X148_16, X148_17, X148_20, Nat.zero_le, and_true, true_and, x_nb0, x_nb1, x_nbp, x_isL_int, x_isL_ref, x_isL_junk, x_isR_ref, x_cat_nil, x_cat_int, x_cat_ref, x_cat_long, Option.toList_some, Option.toList_none, List.cons_append, List.nil_append, Nat.reduceAdd, Nat.reduceLeDiff, Nat.reduceLT, t_tag_si, t_tag_sr, t_tag_sI, x_r_si, x_i_sr, t_r_sI, x_ia_si, x_ia_sI, x_ia_sr, x_ra_si, x_ra_sI, x_ra_sr, g_t41 hs, g_r41_28 hs, g_a57 hs, h29, nI_add, tx, tc, e29]
theorem MH.hold (h : MH w nt H out) {c : Nat} (hc19 : c ≤ 19) (hc : ¬ (c = 0 ∨ c = 13 ∨ c = 19)) (hl : H.length + 1 + out.length ≤ 160) : MH (x_si (x_si w 57 H.length (nI c)) 41 29 (nI (H.length + 1))) nt (c :: H) out := by
  obtain ⟨hn, a11, a29, a30, a31, aH, aO, hc2, hL⟩ := h
  have e : ∀ j, j ≠ 29 → x_i (x_si (x_si w 57 H.length (nI c)) 41 29 (nI (H.length + 1))) 41 j = x_i w 41 j := fun j hj => by rw [si_o hj, x_i_sin _ _ _ _ (by decide)]
  refine ⟨hn, (e 11 (by decide)).trans a11, by rw [si_s]; rfl, ?_, (e 31 (by decide)).trans a31, fun k hk => ?_, fun k hk => ?_, fun x hx => ?_, hl⟩
  · rw [e 30 (by decide), a30]
    unfold cnt
    rw [if_neg hc, Nat.zero_add]
    cases H <;> rfl
  · have hk2 : k < H.length + 1 := hk
    rw [x_i_sin _ _ _ _ (by decide), rev_getD]
    by_cases hko : k < H.length
    · rw [if_pos hko, si_o (by omega)]; exact aH k hko
    · rw [if_neg hko, if_pos (by omega), show k = H.length by omega, si_s]
  · rw [x_i_sin _ _ _ _ (by decide), x_i_sin _ _ _ _ (by decide)]; exact aO k hk
  · rcases List.mem_cons.mp hx with rfl | hx
    · exact hc19
    · exact hc2 x hx
/-- another thing is opened -/
theorem S147 (hs : Sh w) (h : MH w nt H out) {c : Nat} (hc19 : c ≤ 19) (hc : c = 0 ∨ c = 13 ∨ c = 19) (hl : H.length + 1 + out.length ≤ 160) : if cnt H = 5 then ∀ Q, X_R L xs (d + 1) 147 0 [.ref 41, .int (nI c)] [] w Q = Q (some (.int (nI 0))) w else ∃ w2, Ch (pU nt) w w2 ∧ x_i w2 41 23 = x_i w 41 23 ∧ MH w2 nt (c :: H) out ∧ ∀ Q, X_R L xs (d + 1) 147 0 [.ref 41, .int (nI c)] [] w Q = Q (some (.int (nI 1))) w2 := by
  obtain ⟨hn, a11, a29, a30, a31, aH, aO, hc2, hL⟩ := h
  have hcn := cnt_le H
  by_cases h5 : cnt H = 5
  · rw [if_pos h5]
    intro Q
    simp only [X147_0, X147_1, X147_4, X147_5, X147_8, X147_9, Nat.zero_le, and_true, true_and, x_nb0, x_nb1, x_nbp, x_isL_int, x_isL_ref, x_isL_junk, x_isR_ref, x_cat_nil, x_cat_int, x_cat_ref, x_cat_long, Option.toList_some, Option.toList_none, List.cons_append, List.nil_append, Nat.reduceAdd, Nat.reduceLeDiff, Nat.reduceLT, t_tag_si, t_tag_sr, t_tag_sI, x_r_si, x_i_sr, t_r_sI, x_ia_si, x_ia_sI, x_ia_sr, x_ra_si, x_ra_sI, x_ra_sr, g_t41 hs, a30, eq_true (congrArg nI h5), ne_eq, not_true_eq_false, if_false, if_true]
  · rw [if_neg h5]
    have c1 : Ch (pU nt) w (x_si w 41 30 (nI (cnt H + 1))) := Ch_si rfl
    have hs1 := c1.sh hs
    have e1 : ∀ j, j ≠ 30 → x_i (x_si w 41 30 (nI (cnt H + 1))) 41 j = x_i w 41 j := fun j hj => si_o hj
    have e29 := (e1 29 (by decide)).trans a29
    refine ⟨x_si (x_si (x_si w 41 30 (nI (cnt H + 1))) 57 H.length (nI c)) 41 29 (nI (H.length + 1)), (c1.trans (Ch_si rfl)).trans (Ch_si rfl), ?_, ⟨hn, ?_, by rw [si_s]; rfl, ?_, ?_, fun k hk => ?_, fun k hk => ?_, fun x hx => ?_, hl⟩, fun Q => ?_⟩
    · rw [si_o (by decide), x_i_sin _ _ _ _ (by decide), si_o (by decide)]
    · rw [si_o (by decide), x_i_sin _ _ _ _ (by decide), si_o (by decide)]; exact a11
    · rw [si_o (by decide), x_i_sin _ _ _ _ (by decide), si_s]
      show nI (cnt H + 1) = nI ((if c = 0 ∨ c = 13 ∨ c = 19 then 1 else 0) + cnt H)
      rw [if_pos hc, Nat.add_comm]
    · rw [si_o (by decide), x_i_sin _ _ _ _ (by decide), si_o (by decide)]; exact a31
    · have hk2 : k < H.length + 1 := hk
      rw [x_i_sin _ _ _ _ (by decide), rev_getD]
      by_cases hko : k < H.length
      · rw [if_pos hko, si_o (by omega), x_i_sin _ _ _ _ (by decide)]; exact aH k hko
      · rw [if_neg hko, if_pos (by omega), show k = H.length by omega, si_s]
    · rw [x_i_sin _ _ _ _ (by decide), x_i_sin _ _ _ _ (by decide), x_i_sin _ _ _ _ (by decide)]; exact aO k hk
    · rcases List.mem_cons.mp hx with rfl | hx
      · exact hc19
      · exact hc2 x hx
    · have e148 := fun (Q' : Option Value → x_W → Prop) => S148 (L := L) (xs := xs) (d := d) (w := x_si w 41 30 (nI (cnt H + 1))) (H := H) (Q := Q') (v := nI c) hs1 e29 (by omega)
      simp only [X147_0, X147_1, X147_4, X147_5, X147_10, X147_11i, X147_11, X147_12, X147_15, X147_16, X147_17, X147_20, X147_21, X147_22, X147_25, X147_26, Nat.zero_le, and_true, true_and, x_nb0, x_nb1, x_nbp, x_isL_int, x_isL_ref, x_isL_junk, x_isR_ref, x_cat_nil, x_cat_int, x_cat_ref, x_cat_long, Option.toList_some, Option.toList_none, List.cons_append, List.nil_append, Nat.reduceAdd, Nat.reduceLeDiff, Nat.reduceLT, t_tag_si, t_tag_sr, t_tag_sI, x_r_si, x_i_sr, t_r_sI, x_ia_si, x_ia_sI, x_ia_sr, x_ra_si, x_ra_sI, x_ra_sr, g_t41 hs, g_t41 hs1, a30, nI_eqF h5 (show cnt H < 2 ^ 31 by omega) (by decide), ne_eq, not_false_eq_true, if_true, if_false, nI_add, e148]
/-- it unwinds -/
theorem S145 {r : Nat} (hr : 1 ≤ r) (hr8 : r < 8) : ∀ (H out : List Nat) (w : x_W) (v : Value), x_isL v = false → Sh w → MH w nt H out → ∃ w2, Ch (pU nt) w w2 ∧ x_i w2 41 23 = x_i w 41 23 ∧ MH w2 nt (unw r H out).1 (unw r H out).2 ∧ ∀ Q, X_R L xs (d + 1) 145 0 [.ref 41, .int (nI r), v] [] w Q = Q none w2 := by
  intro H
  induction H with
  | nil =>
    intro out w v hv hs h
    refine ⟨w, Ch.refl, rfl, h, fun Q => ?_⟩
    have a29 : x_i w 41 29 = nI 0 := h.2.2.1
    rw [X145_0]
    simp only [X145_1, X145_4, X145_79, Nat.zero_le, and_true, true_and, x_nb0, x_nb1, x_nbp, x_isL_int, x_isL_ref, x_isL_junk, x_isR_ref, x_cat_nil, x_cat_int, x_cat_ref, x_cat_long, Option.toList_some, Option.toList_none, List.cons_append, List.nil_append, Nat.reduceAdd, Nat.reduceLeDiff, Nat.reduceLT, t_tag_si, t_tag_sr, t_tag_sI, x_r_si, x_i_sr, t_r_sI, x_ia_si, x_ia_sI, x_ia_sr, x_ra_si, x_ra_sI, x_ra_sr, g_t41 hs, a29, nI_leT (Nat.le_refl 0) (show 0 < 2 ^ 31 by decide), if_true]
  | cons c H ih =>
    intro out w v hv hs h
    have h0 := h
    obtain ⟨hn, a11, a29, a30, a31, aH, aO, hc2, hL⟩ := h
    have hlc : (c :: H).length = H.length + 1 := rfl
    rw [hlc] at a29 hL
    have hc19 := hc2 c (List.mem_cons_self ..)
    have eT : x_i w 57 H.length = nI c := by
      rw [aH H.length (by rw [hlc]; omega), rev_getD, if_neg (Nat.lt_irrefl _), if_pos rfl]
    have tx := x_ix_nI (show H.length < 200 by omega) (show 200 < 2 ^ 31 by decide)
    have tc := nI_cl (show H.length < 2 ^ 31 by omega)
    have e146 := fun (Q' : Option Value → x_W → Prop) => S146 (L := L) (xs := xs) (d := d) (w := w) (Q := Q') (show c < 2 ^ 31 by omega)
    have l0 := nI_leF (show 0 < H.length + 1 by omega) (show H.length + 1 < 2 ^ 31 by omega)
    have esub : nI (H.length + 1) - nI 1 = nI H.length := nI_sub (show 1 ≤ H.length + 1 by omega)
    have hrk : rk c < 8 := (by decide : ∀ c, c < 20 → rk c < 8) c (by omega)
    unfold unw
    by_cases hrc : r ≤ rk c
    · rw [if_pos hrc]
      have c0 : c ≠ 0 := fun z => by rw [z] at hrc; exact absurd hrc (by show ¬ r ≤ 0; omega)
      have ca : Ch (pU nt) w (x_si w 41 29 (nI H.length)) := Ch_si rfl
      have hsa := ca.sh hs
      have ea : ∀ j, j ≠ 29 → x_i (x_si w 41 29 (nI H.length)) 41 j = x_i w 41 j := fun j hj => si_o hj
      have ea29 : x_i (x_si w 41 29 (nI H.length)) 41 29 = nI H.length := si_s
      have ea57 : x_i (x_si w 41 29 (nI H.length)) 57 H.length = nI c := by rw [x_i_sin _ _ _ _ (by decide)]; exact eT
      have ea30 := (ea 30 (by decide)).trans a30
      have cb : Ch (pU nt) w (x_si (x_si w 41 29 (nI H.length)) 41 30 (nI (cnt H))) := ca.trans (Ch_si rfl)
      have hsb := cb.sh hs
      have eb : ∀ j, j ≠ 29 → j ≠ 30 → x_i (x_si (x_si w 41 29 (nI H.length)) 41 30 (nI (cnt H))) 41 j = x_i w 41 j := fun j hj h2 => (si_o h2).trans (si_o hj)
      have hMb : MH (x_si (x_si w 41 29 (nI H.length)) 41 30 (nI (cnt H))) nt H out := by
        refine ⟨hn, (eb 11 (by decide) (by decide)).trans a11, (si_o (by decide)).trans si_s, si_s, (eb 31 (by decide) (by decide)).trans a31, fun k hk => ?_, fun k hk => ?_, fun x hx => hc2 x (List.mem_cons_of_mem _ hx), by omega⟩
        · rw [x_i_sin _ _ _ _ (by decide), x_i_sin _ _ _ _ (by decide), aH k (by rw [hlc]; omega), rev_getD, if_pos hk]
        · rw [x_i_sin _ _ _ _ (by decide), x_i_sin _ _ _ _ (by decide)]; exact aO k hk
      have hMc := hMb.put (t := 20000 + c) (v := nI c) (by omega) (by
        unfold smT
        rw [if_neg (by omega), if_neg (by omega), Nat.add_sub_cancel_left])
      have e144 := fun (Q' : Option Value → x_W → Prop) => S144 (L := L) (xs := xs) (d := d) (Q := Q') (v := nI c) (out := out) hsb hMb.2.1 hMb.2.2.2.2.1 hn (by omega)
      have cc : Ch (pU nt) w _ := cb.trans (Ch_put (v := nI c) (v2 := nI (out.length + 1)) (k := out.length))
      obtain ⟨w2, c2, h23, h2, e2⟩ := ih (out ++ [20000 + c]) _ (.int (nI c)) rfl (cc.sh hs) hMc
      refine ⟨w2, cc.trans c2, ?_, h2, fun Q => ?_⟩
      · rw [h23, si_o (by decide), x_i_sin _ _ _ _ (by decide), eb 23 (by decide) (by decide)]
      · rw [← e2 Q, X145_0]
        have lr := nI_ltF hrc (show rk c < 2 ^ 31 by omega)
        by_cases hcc : c = 13 ∨ c = 19
        · have ecnt : cnt (c :: H) = 1 + cnt H := by
            show (if c = 0 ∨ c = 13 ∨ c = 19 then 1 else 0) + cnt H = _
            rw [if_pos (Or.inr hcc)]
          rw [ecnt] at ea30
          have es : nI (1 + cnt H) - nI 1 = nI (cnt H) := by rw [nI_sub (show 1 ≤ 1 + cnt H by omega), Nat.add_sub_cancel_left]
          rcases hcc with h13 | h19
          · simp only [X145_1, X145_4, X145_7, X145_8, X145_11, X145_12, X145_15, X145_16, X145_17, X145_18, X145_21, X145_22, X145_25, X145_26i, X145_26, X145_27, X145_30, X145_31, X145_32, X145_35, X145_36, X145_39, X145_40, X145_43, X145_44, X145_45, X145_46i, X145_46, X145_47, X145_50, X145_51, X145_53, X145_62, X145_63, X145_67, X145_68, X145_71, X145_72, X145_73, X145_76, Nat.zero_le, and_true, true_and, x_nb0, x_nb1, x_nbp, x_isL_int, x_isL_ref, x_isL_junk, x_isR_ref, x_cat_nil, x_cat_int, x_cat_ref, x_cat_long, Option.toList_some, Option.toList_none, List.cons_append, List.nil_append, Nat.reduceAdd, Nat.reduceLeDiff, Nat.reduceLT, t_tag_si, t_tag_sr, t_tag_sI, x_r_si, x_i_sr, t_r_sI, x_ia_si, x_ia_sI, x_ia_sr, x_ra_si, x_ra_sI, x_ra_sr, hv, g_t41 hs, a29, l0, if_false, g_r41_28 hs, g_a57 hs, esub, tx, tc, eT, e146, lr, g_t41 hsa, ea29, g_r41_28 hsa, g_a57 hsa, ea57, ea30, eq_true (congrArg nI h13), if_true, es, e144, g_t41 hsb]
          · simp only [X145_1, X145_4, X145_7, X145_8, X145_11, X145_12, X145_15, X145_16, X145_17, X145_18, X145_21, X145_22, X145_25, X145_26i, X145_26, X145_27, X145_30, X145_31, X145_32, X145_35, X145_36, X145_39, X145_40, X145_43, X145_44, X145_45, X145_46i, X145_46, X145_47, X145_50, X145_51, X145_53, X145_56, X145_57, X145_59, X145_62, X145_63, X145_67, X145_68, X145_71, X145_72, X145_73, X145_76, Nat.zero_le, and_true, true_and, x_nb0, x_nb1, x_nbp, x_isL_int, x_isL_ref, x_isL_junk, x_isR_ref, x_cat_nil, x_cat_int, x_cat_ref, x_cat_long, Option.toList_some, Option.toList_none, List.cons_append, List.nil_append, Nat.reduceAdd, Nat.reduceLeDiff, Nat.reduceLT, t_tag_si, t_tag_sr, t_tag_sI, x_r_si, x_i_sr, t_r_sI, x_ia_si, x_ia_sI, x_ia_sr, x_ra_si, x_ra_sI, x_ra_sr, hv, g_t41 hs, a29, l0, if_false, g_r41_28 hs, g_a57 hs, esub, tx, tc, eT, e146, lr, g_t41 hsa, ea29, g_r41_28 hsa, g_a57 hsa, ea57, ea30, nI_eqF (show c ≠ 13 by omega) (by omega) (by decide), eq_true (congrArg nI h19), ne_eq, not_true_eq_false, if_true, es, e144, g_t41 hsb]
        · have ecnt : cnt (c :: H) = cnt H := by
            show (if c = 0 ∨ c = 13 ∨ c = 19 then 1 else 0) + cnt H = _
            rw [if_neg (fun z => z.elim c0 hcc), Nat.zero_add]
          rw [ecnt] at ea30
          have es : nI (cnt H) - nI 0 = nI (cnt H) := nI_sub (Nat.zero_le _)
          simp only [X145_1, X145_4, X145_7, X145_8, X145_11, X145_12, X145_15, X145_16, X145_17, X145_18, X145_21, X145_22, X145_25, X145_26i, X145_26, X145_27, X145_30, X145_31, X145_32, X145_35, X145_36, X145_39, X145_40, X145_43, X145_44, X145_45, X145_46i, X145_46, X145_47, X145_50, X145_51, X145_53, X145_56, X145_57, X145_59, X145_66, X145_67, X145_68, X145_71, X145_72, X145_73, X145_76, Nat.zero_le, and_true, true_and, x_nb0, x_nb1, x_nbp, x_isL_int, x_isL_ref, x_isL_junk, x_isR_ref, x_cat_nil, x_cat_int, x_cat_ref, x_cat_long, Option.toList_some, Option.toList_none, List.cons_append, List.nil_append, Nat.reduceAdd, Nat.reduceLeDiff, Nat.reduceLT, t_tag_si, t_tag_sr, t_tag_sI, x_r_si, x_i_sr, t_r_sI, x_ia_si, x_ia_sI, x_ia_sr, x_ra_si, x_ra_sI, x_ra_sr, hv, g_t41 hs, a29, l0, if_false, g_r41_28 hs, g_a57 hs, esub, tx, tc, eT, e146, lr, g_t41 hsa, ea29, g_r41_28 hsa, g_a57 hsa, ea57, ea30, nI_eqF (show c ≠ 13 by omega) (by omega) (by decide), nI_eqF (show c ≠ 19 by omega) (by omega) (by decide), ne_eq, not_false_eq_true, if_true, es, e144, g_t41 hsb]
    · rw [if_neg hrc]
      refine ⟨w, Ch.refl, rfl, h0, fun Q => ?_⟩
      rw [X145_0]
      have lr := nI_ltT (Nat.not_le.mp hrc) (show r < 2 ^ 31 by omega)
      simp only [X145_1, X145_4, X145_7, X145_8, X145_11, X145_12, X145_15, X145_16, X145_17, X145_18, X145_21, X145_22, X145_79, Nat.zero_le, and_true, true_and, x_nb0, x_nb1, x_nbp, x_isL_int, x_isL_ref, x_isL_junk, x_isR_ref, x_cat_nil, x_cat_int, x_cat_ref, x_cat_long, Option.toList_some, Option.toList_none, List.cons_append, List.nil_append, Nat.reduceAdd, Nat.reduceLeDiff, Nat.reduceLT, t_tag_si, t_tag_sr, t_tag_sI, x_r_si, x_i_sr, t_r_sI, x_ia_si, x_ia_sI, x_ia_sr, x_ra_si, x_ra_sI, x_ra_sr, g_t41 hs, a29, l0, if_false, g_r41_28 hs, g_a57 hs, esub, tx, tc, eT, e146, lr, if_true]
end S99996
