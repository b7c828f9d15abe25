/-! ===== the class's reader: where it stands; emits, enters, expects, refuses ===== -/
def POK (w : x_W) (b : Nat → Nat) (n s o : Nat) (out : List Nat) : Prop := AtT w b n s ∧ x_i w 1 9 = nI o ∧ x_i w 1 10 = -1 ∧ x_i w 1 3 = nI out.length ∧ (∀ k, k < out.length → x_i w 3 k = sxT (out.getD k 0)) ∧ out.length ≤ s ∧ o ≤ 5
def PF (w : x_W) (f : Nat) : Prop := x_i w 1 5 = nI 302 ∧ x_i w 1 10 = nI f ∧ f ≤ 160 ∧ ∃ c, c ≤ 160 ∧ x_i w 1 3 = nI c
def pP : Nat → Nat → Bool := gp [3] [(1, 3), (1, 5), (1, 6), (1, 7), (1, 8), (1, 9), (1, 10)]
theorem nI_M1 {f : Nat} (h : f < 2 ^ 31) : (nI f = -1) = False := by
  apply eq_false
  intro h2
  exact absurd (show nI 0 ≤ (-1 : Int32) by rw [← h2]; exact nI_le (Nat.zero_le f) h) (by decide)
theorem getD_apl {l m : List Nat} {k : Nat} (h : k < l.length) : (l ++ m).getD k 0 = l.getD k 0 := by
  rw [List.getD_eq_getElem?_getD, List.getD_eq_getElem?_getD, List.getElem?_append_left h]
theorem getD_apr {l m : List Nat} {k : Nat} (h : l.length ≤ k) : (l ++ m).getD k 0 = m.getD (k - l.length) 0 := by
  rw [List.getD_eq_getElem?_getD, List.getD_eq_getElem?_getD, List.getElem?_append_right h]
theorem getD_snoc {l : List Nat} {t k : Nat} : (l ++ [t]).getD k 0 = if k < l.length then l.getD k 0 else if k = l.length then t else 0 := by
  by_cases h : k < l.length
  · rw [if_pos h, getD_apl h]
  · rw [if_neg h, getD_apr (Nat.not_lt.mp h)]
    by_cases h2 : k = l.length
    · rw [if_pos h2, h2, Nat.sub_self]; rfl
    · rw [if_neg h2]
      obtain ⟨j, hj⟩ : ∃ j, k - l.length = j + 1 := ⟨k - l.length - 1, by omega⟩
      rw [hj]; rfl
section S9991
variable {L : Nat} {xs : Nat → Int32} {d : Nat} {w : x_W} {Q : Option Value → x_W → Prop} {b : Nat → Nat} {n s o f : Nat} {out : List Nat}
theorem POK.s_le (h : POK w b n s o out) : s ≤ n := h.1.1
/-- a sign or number is put down -/
theorem S128 (hs : ShT w) (h3 : x_i w 1 3 = nI out.length) (hl : out.length < 160) {v : Int32} : X_R L xs d 128 0 [.ref 1, .int v] [] w Q = Q none (x_si (x_si w 3 out.length v) 1 3 (nI (out.length + 1))) := by
  have tx := x_ix_nI hl (show 160 < 2 ^ 31 by decide)
  have tc := nI_cl (show out.length < 2 ^ 31 by omega)
  have e13 : x_i (x_si w 3 out.length v) 1 3 = nI out.length := by rw [x_i_sin _ _ _ _ (by decide)]; exact h3
  simp only [X128_0, X128_1, X128_4, X128_7, X128_10, X128_11, X128_14, X128_15, X128_18, X128_19, X128_20, X128_21i, X128_21, X128_22, X128_25, X128_26, X128_27, X128_30, Nat.zero_le, and_true, true_and, x_nb0, x_nb1, x_nbp, x_isL_int, x_isL_ref, x_isL_junk, x_isR_ref, x_cat_nil, x_cat_int, x_cat_ref, x_cat_long, Option.toList_some, Option.toList_none, List.cons_append, List.nil_append, Nat.reduceAdd, Nat.reduceLeDiff, Nat.reduceLT, t_tag_si, t_tag_sr, t_tag_sI, x_r_si, x_i_sr, t_r_sI, x_ia_si, x_ia_sI, x_ia_sr, x_ra_si, x_ra_sI, x_ra_sr, k_t1 hs, h3, nI_leF hl (show 160 < 2 ^ 31 by decide), if_false, k_r1_2 hs, k_a3 hs, tx, tc, e13, nI_add]
theorem POK.emit (h : POK w b n s o out) {t : Nat} (hl : out.length + 1 ≤ s) : POK (x_si (x_si w 3 out.length (sxT t)) 1 3 (nI (out.length + 1))) b n s o (out ++ [t]) := by
  obtain ⟨⟨hn, a5, a6, a7, a8⟩, h9, h10, h3, hk, hle, ho⟩ := h
  have e : ∀ j, j ≠ 3 → x_i (x_si (x_si w 3 out.length (sxT t)) 1 3 (nI (out.length + 1))) 1 j = x_i w 1 j := fun j hj => by rw [si_o hj, x_i_sin _ _ _ _ (by decide)]
  refine ⟨⟨hn, ?_, ?_, ?_, fun h => ?_⟩, ?_, ?_, ?_, fun k hk2 => ?_, ?_, ho⟩
  · rw [e 5 (by decide)]; exact a5
  · rw [e 6 (by decide)]; exact a6
  · rw [e 7 (by decide)]; exact a7
  · rw [e 8 (by decide)]; exact a8 h
  · rw [e 9 (by decide)]; exact h9
  · rw [e 10 (by decide)]; exact h10
  · rw [si_s, List.length_append]; rfl
  · rw [x_i_sin _ _ _ _ (by decide), x_i_si, getD_snoc]
    rw [List.length_append] at hk2
    have hk3 : k < out.length + 1 := hk2
    by_cases hko : k < out.length
    · rw [if_pos hko, upd_o (by omega)]; exact hk k hko
    · rw [if_neg hko, if_pos (by omega), show k = out.length by omega, upd_s]
  · rw [List.length_append]; exact hl
theorem Ch_emit {v v2 : Int32} {k : Nat} : Ch pP w (x_si (x_si w 3 k v) 1 3 v2) := (Ch_si rfl).trans (Ch_si rfl)
/-- behind a fault -/
theorem S128F (hs : ShT w) (h : PF w f) {v : Int32} : ∃ w2, Ch pP w w2 ∧ PF w2 f ∧ ∀ Q, X_R L xs d 128 0 [.ref 1, .int v] [] w Q = Q none w2 := by
  obtain ⟨h5, h10, hf, c, hc, h3⟩ := h
  by_cases h4 : c < 160
  · have tx := x_ix_nI h4 (show 160 < 2 ^ 31 by decide)
    have tc := nI_cl (show c < 2 ^ 31 by omega)
    have e13 : x_i (x_si w 3 c v) 1 3 = nI c := by rw [x_i_sin _ _ _ _ (by decide)]; exact h3
    refine ⟨x_si (x_si w 3 c v) 1 3 (nI (c + 1)), Ch_emit, ⟨?_, ?_, hf, c + 1, h4, si_s⟩, fun Q => ?_⟩
    · rw [si_o (show 5 ≠ 3 by decide), x_i_sin _ _ _ _ (by decide)]; exact h5
    · rw [si_o (show 10 ≠ 3 by decide), x_i_sin _ _ _ _ (by decide)]; exact h10
    · simp only [X128_0, X128_1, X128_4, X128_7, X128_10, X128_11, X128_14, X128_15, X128_18, X128_19, X128_20, X128_21i, X128_21, X128_22, X128_25, X128_26, X128_27, X128_30, Nat.zero_le, and_true, true_and, x_nb0, x_nb1, x_nbp, x_isL_int, x_isL_ref, x_isL_junk, x_isR_ref, x_cat_nil, x_cat_int, x_cat_ref, x_cat_long, Option.toList_some, Option.toList_none, List.cons_append, List.nil_append, Nat.reduceAdd, Nat.reduceLeDiff, Nat.reduceLT, t_tag_si, t_tag_sr, t_tag_sI, x_r_si, x_i_sr, t_r_sI, x_ia_si, x_ia_sI, x_ia_sr, x_ra_si, x_ra_sI, x_ra_sr, k_t1 hs, h3, nI_leF h4 (show 160 < 2 ^ 31 by decide), if_false, k_r1_2 hs, k_a3 hs, tx, tc, e13, nI_add]
  · refine ⟨w, Ch.refl, ⟨h5, h10, hf, c, hc, h3⟩, fun Q => ?_⟩
    simp only [X128_0, X128_1, X128_4, X128_7, X128_30, Nat.zero_le, and_true, true_and, x_nb0, x_nb1, x_nbp, x_isL_int, x_isL_ref, x_isL_junk, x_isR_ref, x_cat_nil, x_cat_int, x_cat_ref, x_cat_long, Option.toList_some, Option.toList_none, List.cons_append, List.nil_append, Nat.reduceAdd, Nat.reduceLeDiff, Nat.reduceLT, t_tag_si, t_tag_sr, t_tag_sI, x_r_si, x_i_sr, t_r_sI, x_ia_si, x_ia_sI, x_ia_sr, x_ra_si, x_ra_sI, x_ra_sr, k_t1 hs, h3, nI_leT (Nat.not_lt.mp h4) (show c < 2 ^ 31 by omega), if_true]
theorem S123F (hs : ShT w) (h : PF w f) : ∃ w2, Ch pP w w2 ∧ PF w2 f ∧ ∀ Q, X_R L xs d 123 0 [.ref 1] [] w Q = Q none w2 := by
  obtain ⟨h5, h10, hf, c, hc, h3⟩ := h
  refine ⟨x_si w 1 5 (nI 302), Ch_si rfl, ⟨si_s, ?_, hf, c, hc, ?_⟩, fun Q => ?_⟩
  · rw [si_o (show 10 ≠ 5 by decide)]; exact h10
  · rw [si_o (show 3 ≠ 5 by decide)]; exact h3
  · simp only [X123_0, X123_1, X123_4, X123_5, X123_16, X123_17, X123_20, X123_23, Nat.zero_le, and_true, true_and, x_nb0, x_nb1, x_nbp, x_isL_int, x_isL_ref, x_isL_junk, x_isR_ref, x_cat_nil, x_cat_int, x_cat_ref, x_cat_long, Option.toList_some, Option.toList_none, List.cons_append, List.nil_append, Nat.reduceAdd, Nat.reduceLeDiff, Nat.reduceLT, t_tag_si, t_tag_sr, t_tag_sI, x_r_si, x_i_sr, t_r_sI, x_ia_si, x_ia_sI, x_ia_sr, x_ra_si, x_ra_sI, x_ra_sr, k_t1 hs, h10, nI_M1 (show f < 2 ^ 31 by omega), if_false]
theorem S123 (hs : ShT w) (hn : n ≤ 160) (h : POK w b n s o out) : ∃ w2, Ch pP w w2 ∧ PF w2 s ∧ ∀ Q, X_R L xs d 123 0 [.ref 1] [] w Q = Q none w2 := by
  obtain ⟨⟨hsn, a5, a6, a7, a8⟩, h9, h10, h3, hk, hle, ho⟩ := h
  have c1 : Ch pP w (x_si w 1 10 (nI s)) := Ch_si rfl
  have hs1 := c1.shT hs
  refine ⟨x_si (x_si w 1 10 (nI s)) 1 5 (nI 302), c1.trans (Ch_si rfl), ⟨si_s, ?_, by omega, out.length, by omega, ?_⟩, fun Q => ?_⟩
  · rw [si_o (show 10 ≠ 5 by decide), si_s]
  · rw [si_o (show 3 ≠ 5 by decide), si_o (show 3 ≠ 10 by decide)]; exact h3
  · simp only [X123_0, X123_1, X123_4, X123_5, X123_8, X123_9, X123_10, X123_13, X123_16, X123_17, X123_20, X123_23, Nat.zero_le, and_true, true_and, x_nb0, x_nb1, x_nbp, x_isL_int, x_isL_ref, x_isL_junk, x_isR_ref, x_cat_nil, x_cat_int, x_cat_ref, x_cat_long, Option.toList_some, Option.toList_none, List.cons_append, List.nil_append, Nat.reduceAdd, Nat.reduceLeDiff, Nat.reduceLT, t_tag_si, t_tag_sr, t_tag_sI, x_r_si, x_i_sr, t_r_sI, x_ia_si, x_ia_sI, x_ia_sr, x_ra_si, x_ra_sI, x_ra_sr, k_t1 hs, h10, if_true, a6]
theorem PF.opn (h : PF w f) {v : Int32} : PF (x_si w 1 9 v) f := by
  obtain ⟨h5, h10, hf, c, hc, h3⟩ := h
  exact ⟨by rw [si_o (show 5 ≠ 9 by decide)]; exact h5, by rw [si_o (show 10 ≠ 9 by decide)]; exact h10, hf, c, hc, by rw [si_o (show 3 ≠ 9 by decide)]; exact h3⟩
/-- on to the next token -/
theorem POK.adv (hs : ShT w) (hT : TPx w b n) (h : POK w b n s o out) (hlt : s < n) : ∃ w2, Ch pA w w2 ∧ POK w2 b n (tN b n s) o out ∧ ∀ Q, X_R L xs (d + 6) 114 0 [.ref 1, x_junk] [] w Q = Q none w2 := by
  obtain ⟨⟨hsn, a5, a6, a7, a8⟩, h9, h10, h3, hk, hle, ho⟩ := h
  obtain ⟨w2, c2, h2, e2⟩ := S114 (L := L) (xs := xs) (d := d) hs hT a7 (tE_ge hlt).2
  have hg := tN_gt (b := b) hlt
  refine ⟨w2, c2, ⟨h2, ?_, ?_, ?_, ?_, by omega, ho⟩, e2⟩
  · rw [c2.2.2 1 9 rfl]; exact h9
  · rw [c2.2.2 1 10 rfl]; exact h10
  · rw [c2.2.2 1 3 rfl]; exact h3
  · rw [c2.i (fun _ => rfl : ∀ k, pA 3 k = false)]; exact hk
theorem S122 (hs : ShT w) (hT : TPx w b n) (h : POK w b n s o out) {t : Nat} (ht : t < 400) (h1 : t ≠ 301) : ∃ w2, Ch pP w w2 ∧ (if tK b n s = t then POK w2 b n (tN b n s) o out else PF w2 s) ∧ ∀ Q, X_R L xs (d + 7) 122 0 [.ref 1, .int (nI t)] [] w Q = Q none w2 := by
  have a5 := h.1.2.1
  have hK : tK b n s < 400 := by
    have h160 := hT.1
    unfold tK
    split
    · decide
    · split
      · split <;> omega
      · split
        · split <;> decide
        · split
          · have := (hT.2.2 s (by omega)).2; omega
          · decide
  have ee : (nI (tK b n s) = nI t) = (tK b n s = t) := nI_eqD (by omega) (by omega)
  by_cases hk : tK b n s = t
  · obtain ⟨w2, c2, h2, e2⟩ := POK.adv (L := L) (xs := xs) (d := d) hs hT h (tK_end h.s_le (by rw [hk]; exact h1))
    refine ⟨w2, gp_up c2 rfl rfl, by rw [if_pos hk]; exact h2, fun Q => ?_⟩
    simp only [X122_0, X122_1, X122_4, X122_5, X122_8, X122_9, X122_12, X122_19, Nat.zero_le, and_true, true_and, x_nb0, x_nb1, x_nbp, x_isL_int, x_isL_ref, x_isL_junk, x_isR_ref, x_cat_nil, x_cat_int, x_cat_ref, x_cat_long, Option.toList_some, Option.toList_none, List.cons_append, List.nil_append, Nat.reduceAdd, Nat.reduceLeDiff, Nat.reduceLT, t_tag_si, t_tag_sr, t_tag_sI, x_r_si, x_i_sr, t_r_sI, x_ia_si, x_ia_sI, x_ia_sr, x_ra_si, x_ra_sI, x_ra_sr, k_t1 hs, a5, ee, eq_true hk, if_true, e2]
  · obtain ⟨w2, c2, h2, e2⟩ := S123 (L := L) (xs := xs) (d := d + 6) hs hT.1 h
    refine ⟨w2, c2, by rw [if_neg hk]; exact h2, fun Q => ?_⟩
    simp only [X122_0, X122_1, X122_4, X122_5, X122_15, X122_16, X122_19, Nat.zero_le, and_true, true_and, x_nb0, x_nb1, x_nbp, x_isL_int, x_isL_ref, x_isL_junk, x_isR_ref, x_cat_nil, x_cat_int, x_cat_ref, x_cat_long, Option.toList_some, Option.toList_none, List.cons_append, List.nil_append, Nat.reduceAdd, Nat.reduceLeDiff, Nat.reduceLT, t_tag_si, t_tag_sr, t_tag_sI, x_r_si, x_i_sr, t_r_sI, x_ia_si, x_ia_sI, x_ia_sr, x_ra_si, x_ra_sI, x_ra_sr, k_t1 hs, a5, ee, eq_false hk, if_false, e2]
theorem S122F (hs : ShT w) (h : PF w f) {t : Nat} (ht : t < 400) (h1 : t ≠ 302) : ∃ w2, Ch pP w w2 ∧ PF w2 f ∧ ∀ Q, X_R L xs (d + 1) 122 0 [.ref 1, .int (nI t)] [] w Q = Q none w2 := by
  obtain ⟨w2, c2, h2, e2⟩ := S123F (L := L) (xs := xs) (d := d) hs h
  refine ⟨w2, c2, h2, fun Q => ?_⟩
  simp only [X122_0, X122_1, X122_4, X122_5, X122_15, X122_16, X122_19, Nat.zero_le, and_true, true_and, x_nb0, x_nb1, x_nbp, x_isL_int, x_isL_ref, x_isL_junk, x_isR_ref, x_cat_nil, x_cat_int, x_cat_ref, x_cat_long, Option.toList_some, Option.toList_none, List.cons_append, List.nil_append, Nat.reduceAdd, Nat.reduceLeDiff, Nat.reduceLT, t_tag_si, t_tag_sr, t_tag_sI, x_r_si, x_i_sr, t_r_sI, x_ia_si, x_ia_sI, x_ia_sr, x_ra_si, x_ra_sI, x_ra_sr, k_t1 hs, h.1, nI_eqF (show 302 ≠ t by omega) (by decide) (show t < 2 ^ 31 by omega), if_false, e2]
theorem S127 (hs : ShT w) (hT : TPx w b n) (h : POK w b n s o out) (hlt : s < n) : ∃ w2, Ch pP w w2 ∧ (if o < 5 then POK w2 b n (tN b n s) (o + 1) out else PF w2 s) ∧ ∀ Q, X_R L xs (d + 7) 127 0 [.ref 1] [] w Q = Q none w2 := by
  have h9 := h.2.1
  have ho := h.2.2.2.2.2.2
  by_cases ho5 : o < 5
  · have c1 : Ch pP w (x_si w 1 9 (nI (o + 1))) := Ch_si rfl
    have hs1 := c1.shT hs
    have hT1 := hT.ch c1 rfl (fun _ => rfl)
    have h' : POK (x_si w 1 9 (nI (o + 1))) b n s (o + 1) out := by
      obtain ⟨⟨hsn, a5, a6, a7, a8⟩, _, h10, h3, hk, hle, _⟩ := h
      refine ⟨⟨hsn, ?_, ?_, ?_, fun q => ?_⟩, si_s, ?_, ?_, ?_, hle, by omega⟩
      · rw [si_o (show 5 ≠ 9 by decide)]; exact a5
      · rw [si_o (show 6 ≠ 9 by decide)]; exact a6
      · rw [si_o (show 7 ≠ 9 by decide)]; exact a7
      · rw [si_o (show 8 ≠ 9 by decide)]; exact a8 q
      · rw [si_o (show 10 ≠ 9 by decide)]; exact h10
      · rw [si_o (show 3 ≠ 9 by decide)]; exact h3
      · rw [x_i_sin _ _ _ _ (by decide)]; exact hk
    obtain ⟨w2, c2, h2, e2⟩ := POK.adv (L := L) (xs := xs) (d := d) hs1 hT1 h' hlt
    refine ⟨w2, c1.trans (gp_up c2 rfl rfl), by rw [if_pos ho5]; exact h2, fun Q => ?_⟩
    simp only [X127_0, X127_1, X127_4, X127_5, X127_8, X127_9i, X127_9, X127_10, X127_13, X127_14, X127_15, X127_18, X127_19, X127_22, X127_29, Nat.zero_le, and_true, true_and, x_nb0, x_nb1, x_nbp, x_isL_int, x_isL_ref, x_isL_junk, x_isR_ref, x_cat_nil, x_cat_int, x_cat_ref, x_cat_long, Option.toList_some, Option.toList_none, List.cons_append, List.nil_append, Nat.reduceAdd, Nat.reduceLeDiff, Nat.reduceLT, t_tag_si, t_tag_sr, t_tag_sI, x_r_si, x_i_sr, t_r_sI, x_ia_si, x_ia_sI, x_ia_sr, x_ra_si, x_ra_sI, x_ra_sr, k_t1 hs, h9, nI_leF ho5 (show 5 < 2 ^ 31 by decide), if_false, nI_add, k_t1 hs1, e2]
  · obtain ⟨w2, c2, h2, e2⟩ := S123 (L := L) (xs := xs) (d := d + 6) hs hT.1 h
    refine ⟨w2, c2, by rw [if_neg ho5]; exact h2, fun Q => ?_⟩
    simp only [X127_0, X127_1, X127_4, X127_5, X127_25, X127_26, X127_29, Nat.zero_le, and_true, true_and, x_nb0, x_nb1, x_nbp, x_isL_int, x_isL_ref, x_isL_junk, x_isR_ref, x_cat_nil, x_cat_int, x_cat_ref, x_cat_long, Option.toList_some, Option.toList_none, List.cons_append, List.nil_append, Nat.reduceAdd, Nat.reduceLeDiff, Nat.reduceLT, t_tag_si, t_tag_sr, t_tag_sI, x_r_si, x_i_sr, t_r_sI, x_ia_si, x_ia_sI, x_ia_sr, x_ra_si, x_ra_sI, x_ra_sr, k_t1 hs, h9, nI_leT (Nat.not_lt.mp ho5) (show o < 2 ^ 31 by omega), if_true, e2]
/-- one less to be shut -/
theorem POK.shut (h : POK w b n s (o + 1) out) : POK (x_si w 1 9 (nI o)) b n s o out := by
  obtain ⟨⟨hsn, a5, a6, a7, a8⟩, _, h10, h3, hk, hle, ho⟩ := h
  refine ⟨⟨hsn, ?_, ?_, ?_, fun q => ?_⟩, si_s, ?_, ?_, ?_, hle, by omega⟩
  · rw [si_o (show 5 ≠ 9 by decide)]; exact a5
  · rw [si_o (show 6 ≠ 9 by decide)]; exact a6
  · rw [si_o (show 7 ≠ 9 by decide)]; exact a7
  · rw [si_o (show 8 ≠ 9 by decide)]; exact a8 q
  · rw [si_o (show 10 ≠ 9 by decide)]; exact h10
  · rw [si_o (show 3 ≠ 9 by decide)]; exact h3
  · rw [x_i_sin _ _ _ _ (by decide)]; exact hk
end S9991
