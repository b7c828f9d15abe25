/-! ===== what a tape's bytes say: tokens ===== -/
def isSp (c : Nat) : Bool := c == 32 || c == 10
def isLt (c : Nat) : Bool := decide (97 ≤ c) && decide (c ≤ 122)
def isDg (c : Nat) : Bool := decide (48 ≤ c) && decide (c ≤ 57)
def isSg (c : Nat) : Bool := [40, 41, 59, 43, 45, 42, 60, 61].elem c
def spn (q : Nat → Bool) (b : Nat → Nat) : Nat → Nat → Nat
  | 0, p => p
  | m + 1, p => if q (b p) = true then spn q b m (p + 1) else p
theorem spn_ge (q : Nat → Bool) (b : Nat → Nat) : ∀ m p, p ≤ spn q b m p ∧ spn q b m p ≤ p + m := by
  intro m
  induction m with
  | zero => intro p; exact ⟨Nat.le_refl _, Nat.le_refl _⟩
  | succ m ih =>
    intro p
    unfold spn
    have := ih (p + 1)
    split <;> omega
def wdE (b : Nat → Nat) (s q w : Nat) : Bool := decide (q - s = (wdL.getD w []).length) && (List.range (wdL.getD w []).length).all fun i => b (s + i) == wdC w i
def wdF (b : Nat → Nat) (s q : Nat) : Nat → Nat → Nat
  | 0, _ => 12
  | m + 1, w => if wdE b s q w = true then w else wdF b s q m (w + 1)
/-- where the token that begins at s ends -/
def tE (b : Nat → Nat) (n s : Nat) : Nat := if n ≤ s then s else if isLt (b s) = true then spn isLt b (n - s) s else if isDg (b s) = true then spn isDg b (n - s) s else s + 1
/-- the token's number -/
def tK (b : Nat → Nat) (n s : Nat) : Nat := if n ≤ s then 301 else if isLt (b s) = true then (if wdF b s (tE b n s) 12 0 < 12 then 256 + wdF b s (tE b n s) 12 0 else 302) else if isDg (b s) = true then (if tE b n s - s ≤ 4 then 300 else 302) else if isSg (b s) = true then b s else 302
def vI (b : Nat → Nat) (s : Nat) : Nat → Int32
  | 0 => nI 0
  | k + 1 => nI 10 * vI b s k + nI (b (s + k)) - nI 48
def vN (b : Nat → Nat) (s : Nat) : Nat → Nat
  | 0 => 0
  | k + 1 => 10 * vN b s k + (b (s + k) - 48)
def TPx (w : x_W) (b : Nat → Nat) (n : Nat) : Prop := n ≤ 160 ∧ x_i w 1 1 = nI n ∧ ∀ k, k < n → x_i w 2 k = nI (b k) ∧ b k ≤ 255
def pA : Nat → Nat → Bool := gp [] [(1, 5), (1, 6), (1, 7), (1, 8)]
/-- the tape's shape -/
def ShT (w : x_W) : Prop := x_tag w 1 = some (0, 6) ∧ x_tag w 2 = some (1, 160) ∧ x_tag w 3 = some (1, 160) ∧ x_tag w 4 = some (1, 3) ∧ x_r w 1 0 = .ref 2 ∧ x_r w 1 2 = .ref 3 ∧ x_r w 1 4 = .ref 4
theorem Sh.toT {w : x_W} (h : Sh w) : ShT w := ⟨g_t1 h, g_t2 h, g_t3 h, g_t4 h, g_r1_0 h, g_r1_2 h, g_r1_4 h⟩
theorem k_t1 {w : x_W} (h : ShT w) : x_tag w 1 = some (0, 6) := h.1
theorem k_a2 {w : x_W} (h : ShT w) (i : Int32) : x_ia w 2 i = x_ix i 160 := x_ia_eq h.2.1 (by decide) i
theorem k_a3 {w : x_W} (h : ShT w) (i : Int32) : x_ia w 3 i = x_ix i 160 := x_ia_eq h.2.2.1 (by decide) i
theorem k_a4 {w : x_W} (h : ShT w) (i : Int32) : x_ia w 4 i = x_ix i 3 := x_ia_eq h.2.2.2.1 (by decide) i
theorem k_r1_0 {w : x_W} (h : ShT w) : x_r w 1 0 = .ref 2 := h.2.2.2.2.1
theorem k_r1_2 {w : x_W} (h : ShT w) : x_r w 1 2 = .ref 3 := h.2.2.2.2.2.1
theorem k_r1_4 {w : x_W} (h : ShT w) : x_r w 1 4 = .ref 4 := h.2.2.2.2.2.2
theorem Ch.shT {P : Nat → Nat → Bool} {w w' : x_W} (h : Ch P w w') (hs : ShT w) : ShT w' := by
  unfold ShT at *
  rw [h.t, h.t, h.t, h.t, h.r]
  exact hs
section S9988
variable {L : Nat} {xs : Nat → Int32} {d : Nat} {w : x_W} {Q : Option Value → x_W → Prop} {b : Nat → Nat} {n : Nat}
theorem S115 {c : Nat} (hc : c ≤ 255) : X_R L xs d 115 0 [.int (nI c)] [] w Q = Q (some (.int (bI (isLt c = true)))) w := by
  unfold isLt
  by_cases h1 : 97 ≤ c
  · by_cases h2 : c ≤ 122
    · rw [bI_t (by rw [decide_eq_true h1, decide_eq_true h2]; rfl)]
      simp only [X115_0, X115_1, X115_3, X115_6, X115_7, X115_9, X115_12, X115_13, X115_16, X115_17, Nat.zero_le, and_true, true_and, x_nb0, x_nb1, x_nbp, x_isL_int, x_isL_ref, x_isL_junk, x_isR_ref, x_cat_nil, x_cat_int, x_cat_ref, x_cat_long, Option.toList_some, Option.toList_none, List.cons_append, List.nil_append, Nat.reduceAdd, Nat.reduceLeDiff, Nat.reduceLT, t_tag_si, t_tag_sr, t_tag_sI, x_r_si, x_i_sr, t_r_sI, x_ia_si, x_ia_sI, x_ia_sr, x_ra_si, x_ra_sI, x_ra_sr, nI_ltF h1 (show c < 2 ^ 31 by omega), nI_ltF h2 (show 122 < 2 ^ 31 by decide), if_false]
    · rw [bI_f (by rw [decide_eq_true h1, decide_eq_false h2]; decide)]
      simp only [X115_0, X115_1, X115_3, X115_6, X115_7, X115_9, X115_12, X115_13, X115_16, X115_17, Nat.zero_le, and_true, true_and, x_nb0, x_nb1, x_nbp, x_isL_int, x_isL_ref, x_isL_junk, x_isR_ref, x_cat_nil, x_cat_int, x_cat_ref, x_cat_long, Option.toList_some, Option.toList_none, List.cons_append, List.nil_append, Nat.reduceAdd, Nat.reduceLeDiff, Nat.reduceLT, t_tag_si, t_tag_sr, t_tag_sI, x_r_si, x_i_sr, t_r_sI, x_ia_si, x_ia_sI, x_ia_sr, x_ra_si, x_ra_sI, x_ra_sr, nI_ltF h1 (show c < 2 ^ 31 by omega), nI_ltT (Nat.not_le.mp h2) (show c < 2 ^ 31 by omega), if_false, if_true]
  · rw [bI_f (by rw [decide_eq_false h1]; exact Bool.false_ne_true)]
    simp only [X115_0, X115_1, X115_3, X115_6, X115_7, X115_9, X115_12, X115_13, X115_16, X115_17, Nat.zero_le, and_true, true_and, x_nb0, x_nb1, x_nbp, x_isL_int, x_isL_ref, x_isL_junk, x_isR_ref, x_cat_nil, x_cat_int, x_cat_ref, x_cat_long, Option.toList_some, Option.toList_none, List.cons_append, List.nil_append, Nat.reduceAdd, Nat.reduceLeDiff, Nat.reduceLT, t_tag_si, t_tag_sr, t_tag_sI, x_r_si, x_i_sr, t_r_sI, x_ia_si, x_ia_sI, x_ia_sr, x_ra_si, x_ra_sI, x_ra_sr, nI_ltT (Nat.not_le.mp h1) (show 97 < 2 ^ 31 by decide), if_true]
theorem S119 {c : Nat} (hc : c ≤ 255) : X_R L xs d 119 0 [.int (nI c)] [] w Q = Q (some (.int (bI (isDg c = true)))) w := by
  unfold isDg
  by_cases h1 : 48 ≤ c
  · by_cases h2 : c ≤ 57
    · rw [bI_t (by rw [decide_eq_true h1, decide_eq_true h2]; rfl)]
      simp only [X119_0, X119_1, X119_3, X119_6, X119_7, X119_9, X119_12, X119_13, X119_16, X119_17, Nat.zero_le, and_true, true_and, x_nb0, x_nb1, x_nbp, x_isL_int, x_isL_ref, x_isL_junk, x_isR_ref, x_cat_nil, x_cat_int, x_cat_ref, x_cat_long, Option.toList_some, Option.toList_none, List.cons_append, List.nil_append, Nat.reduceAdd, Nat.reduceLeDiff, Nat.reduceLT, t_tag_si, t_tag_sr, t_tag_sI, x_r_si, x_i_sr, t_r_sI, x_ia_si, x_ia_sI, x_ia_sr, x_ra_si, x_ra_sI, x_ra_sr, nI_ltF h1 (show c < 2 ^ 31 by omega), nI_ltF h2 (show 57 < 2 ^ 31 by decide), if_false]
    · rw [bI_f (by rw [decide_eq_true h1, decide_eq_false h2]; decide)]
      simp only [X119_0, X119_1, X119_3, X119_6, X119_7, X119_9, X119_12, X119_13, X119_16, X119_17, Nat.zero_le, and_true, true_and, x_nb0, x_nb1, x_nbp, x_isL_int, x_isL_ref, x_isL_junk, x_isR_ref, x_cat_nil, x_cat_int, x_cat_ref, x_cat_long, Option.toList_some, Option.toList_none, List.cons_append, List.nil_append, Nat.reduceAdd, Nat.reduceLeDiff, Nat.reduceLT, t_tag_si, t_tag_sr, t_tag_sI, x_r_si, x_i_sr, t_r_sI, x_ia_si, x_ia_sI, x_ia_sr, x_ra_si, x_ra_sI, x_ra_sr, nI_ltF h1 (show c < 2 ^ 31 by omega), nI_ltT (Nat.not_le.mp h2) (show c < 2 ^ 31 by omega), if_false, if_true]
  · rw [bI_f (by rw [decide_eq_false h1]; exact Bool.false_ne_true)]
    simp only [X119_0, X119_1, X119_3, X119_6, X119_7, X119_9, X119_12, X119_13, X119_16, X119_17, Nat.zero_le, and_true, true_and, x_nb0, x_nb1, x_nbp, x_isL_int, x_isL_ref, x_isL_junk, x_isR_ref, x_cat_nil, x_cat_int, x_cat_ref, x_cat_long, Option.toList_some, Option.toList_none, List.cons_append, List.nil_append, Nat.reduceAdd, Nat.reduceLeDiff, Nat.reduceLT, t_tag_si, t_tag_sr, t_tag_sI, x_r_si, x_i_sr, t_r_sI, x_ia_si, x_ia_sI, x_ia_sr, x_ra_si, x_ra_sI, x_ra_sr, nI_ltT (Nat.not_le.mp h1) (show 48 < 2 ^ 31 by decide), if_true]
theorem sg_str : ∀ c, c < 256 → (decide (ixO 1026 (nI c).toInt8.toInt32 8 0 < nI 0)) = !(isSg c) := by decide +kernel
theorem c16 : ∀ c, c < 256 → ((nI c).toUInt32 % 65536).toInt32 = nI c := by decide +kernel
theorem sE13 : sE 1026 := by unfold sE; decide
theorem sl13 : (x_sbyt ((1026 + 1 - 1000) / 2)).length = 8 := by decide +kernel
theorem S121 {c : Nat} (hc : c ≤ 255) : X_R L xs (d + 4) 121 0 [.int (nI c)] [] w Q = Q (some (.int (bI (isSg c = true)))) w := by
  have h1 := sg_str c (by omega)
  have e237 := fun (Q' : Option Value → x_W → Prop) => S237 (L := L) (xs := xs) (d := d) (w := w) (Q := Q') sE13 sl13 (by decide) (by decide) hc
  by_cases h : isSg c = true
  · rw [bI_t h]
    have h2 : ¬ ixO 1026 (nI c).toInt8.toInt32 8 0 < nI 0 := by
      rw [h] at h1
      exact of_decide_eq_false h1
    simp only [X121_0, X121_2, X121_3, X121_7, X121_10, X121_11, X121_14, X121_15, X121_4 sE13, Nat.zero_le, and_true, true_and, x_nb0, x_nb1, x_nbp, x_isL_int, x_isL_ref, x_isL_junk, x_isR_ref, x_cat_nil, x_cat_int, x_cat_ref, x_cat_long, Option.toList_some, Option.toList_none, List.cons_append, List.nil_append, Nat.reduceAdd, Nat.reduceLeDiff, Nat.reduceLT, t_tag_si, t_tag_sr, t_tag_sI, x_r_si, x_i_sr, t_r_sI, x_ia_si, x_ia_sI, x_ia_sr, x_ra_si, x_ra_sI, x_ra_sr, c16 c (by omega), e237, eq_false h2, if_false]
  · rw [bI_f h]
    have h2 : ixO 1026 (nI c).toInt8.toInt32 8 0 < nI 0 := by
      rw [Bool.not_eq_true] at h
      rw [h] at h1
      exact of_decide_eq_true h1
    simp only [X121_0, X121_2, X121_3, X121_7, X121_10, X121_11, X121_14, X121_15, X121_4 sE13, Nat.zero_le, and_true, true_and, x_nb0, x_nb1, x_nbp, x_isL_int, x_isL_ref, x_isL_junk, x_isR_ref, x_cat_nil, x_cat_int, x_cat_ref, x_cat_long, Option.toList_some, Option.toList_none, List.cons_append, List.nil_append, Nat.reduceAdd, Nat.reduceLeDiff, Nat.reduceLT, t_tag_si, t_tag_sr, t_tag_sI, x_r_si, x_i_sr, t_r_sI, x_ia_si, x_ia_sI, x_ia_sr, x_ra_si, x_ra_sI, x_ra_sr, c16 c (by omega), e237, eq_true h2, if_true]
theorem TPx.ch (h : TPx w b n) {P : Nat → Nat → Bool} {w1 : x_W} (hc : Ch P w w1) (h1 : P 1 1 = false) (h2 : ∀ k, P 2 k = false) : TPx w1 b n := by
  unfold TPx at *
  rw [hc.2.2 1 1 h1, hc.i h2]
  exact h
theorem S114k (hs : ShT w) (hT : TPx w b n) : ∀ m p, p + m = n → ∀ w1, Ch pA w w1 → x_i w1 1 7 = nI p → ∃ w2, Ch pA w w2 ∧ x_i w2 1 7 = nI (spn isSp b m p) ∧ ∀ Q, X_R L xs d 114 0 [.ref 1, x_junk] [] w1 Q = X_R L xs d 114 52 [.ref 1, x_junk] [] w2 Q := by
  intro m
  induction m with
  | zero =>
    intro p hp w1 c1 h7
    obtain rfl : p = n := by omega
    have hs1 := c1.shT hs
    have hT1 := hT.ch c1 rfl (fun _ => rfl)
    refine ⟨w1, c1, h7, fun Q => ?_⟩
    rw [X114_0]
    simp only [X114_1, X114_4, X114_5, X114_8, Nat.zero_le, and_true, true_and, x_nb0, x_nb1, x_nbp, x_isL_int, x_isL_ref, x_isL_junk, x_isR_ref, x_cat_nil, x_cat_int, x_cat_ref, x_cat_long, Option.toList_some, Option.toList_none, List.cons_append, List.nil_append, Nat.reduceAdd, Nat.reduceLeDiff, Nat.reduceLT, t_tag_si, t_tag_sr, t_tag_sI, x_r_si, x_i_sr, t_r_sI, x_ia_si, x_ia_sI, x_ia_sr, x_ra_si, x_ra_sI, x_ra_sr, k_t1 hs1, h7, hT1.2.1, nI_leT (Nat.le_refl p) (show p < 2 ^ 31 by have := hT.1; omega), if_true]
  | succ m ih =>
    intro p hp w1 c1 h7
    have hs1 := c1.shT hs
    have hT1 := hT.ch c1 rfl (fun _ => rfl)
    have h160 := hT.1
    obtain ⟨hb, hb2⟩ := hT1.2.2 p (by omega)
    have lt := nI_leF (show p < n by omega) (show n < 2 ^ 31 by omega)
    have tx := x_ix_nI (show p < 160 by omega) (show 160 < 2 ^ 31 by decide)
    have tc := nI_cl (show p < 2 ^ 31 by omega)
    have e32 : (nI (b p) = nI 32) = (b p = 32) := nI_eqD (by omega) (by decide)
    have e10 : (nI (b p) = nI 10) = (b p = 10) := nI_eqD (by omega) (by decide)
    unfold spn
    by_cases h : isSp (b p) = true
    · have c2 : Ch pA w1 (x_si w1 1 7 (nI (p + 1))) := Ch_si rfl
      obtain ⟨w2, c3, h3, e3⟩ := ih (p + 1) (by omega) _ (c1.trans c2) (by rw [x_i_si, upd_s])
      refine ⟨w2, c3, by rw [if_pos h]; exact h3, fun Q => ?_⟩
      rw [← e3 Q, X114_0]
      unfold isSp at h
      rw [Bool.or_eq_true, beq_iff_eq, beq_iff_eq] at h
      by_cases h1 : b p = 32
      · simp only [X114_1, X114_4, X114_5, X114_8, X114_11, X114_12, X114_15, X114_16, X114_19, X114_20, X114_22, X114_39, X114_40i, X114_40, X114_41, X114_44, X114_45, X114_46, X114_49, Nat.zero_le, and_true, true_and, x_nb0, x_nb1, x_nbp, x_isL_int, x_isL_ref, x_isL_junk, x_isR_ref, x_cat_nil, x_cat_int, x_cat_ref, x_cat_long, Option.toList_some, Option.toList_none, List.cons_append, List.nil_append, Nat.reduceAdd, Nat.reduceLeDiff, Nat.reduceLT, t_tag_si, t_tag_sr, t_tag_sI, x_r_si, x_i_sr, t_r_sI, x_ia_si, x_ia_sI, x_ia_sr, x_ra_si, x_ra_sI, x_ra_sr, k_t1 hs1, k_r1_0 hs1, k_a2 hs1, h7, hT1.2.1, lt, if_false, tx, tc, hb, e32, eq_true h1, if_true, nI_add]
      · have h2 : b p = 10 := h.resolve_left h1
        simp only [X114_1, X114_4, X114_5, X114_8, X114_11, X114_12, X114_15, X114_16, X114_19, X114_20, X114_22, X114_25, X114_26, X114_29, X114_30, X114_33, X114_34, X114_36, X114_39, X114_40i, X114_40, X114_41, X114_44, X114_45, X114_46, X114_49, Nat.zero_le, and_true, true_and, x_nb0, x_nb1, x_nbp, x_isL_int, x_isL_ref, x_isL_junk, x_isR_ref, x_cat_nil, x_cat_int, x_cat_ref, x_cat_long, Option.toList_some, Option.toList_none, List.cons_append, List.nil_append, Nat.reduceAdd, Nat.reduceLeDiff, Nat.reduceLT, t_tag_si, t_tag_sr, t_tag_sI, x_r_si, x_i_sr, t_r_sI, x_ia_si, x_ia_sI, x_ia_sr, x_ra_si, x_ra_sI, x_ra_sr, k_t1 hs1, k_r1_0 hs1, k_a2 hs1, h7, hT1.2.1, lt, if_false, tx, tc, hb, e32, eq_false h1, e10, eq_true h2, if_true, nI_add]
    · refine ⟨w1, c1, by rw [if_neg h]; exact h7, fun Q => ?_⟩
      rw [X114_0]
      unfold isSp at h
      rw [Bool.or_eq_true, beq_iff_eq, beq_iff_eq, not_or] at h
      simp only [X114_1, X114_4, X114_5, X114_8, X114_11, X114_12, X114_15, X114_16, X114_19, X114_20, X114_22, X114_25, X114_26, X114_29, X114_30, X114_33, X114_34, X114_36, Nat.zero_le, and_true, true_and, x_nb0, x_nb1, x_nbp, x_isL_int, x_isL_ref, x_isL_junk, x_isR_ref, x_cat_nil, x_cat_int, x_cat_ref, x_cat_long, Option.toList_some, Option.toList_none, List.cons_append, List.nil_append, Nat.reduceAdd, Nat.reduceLeDiff, Nat.reduceLT, t_tag_si, t_tag_sr, t_tag_sI, x_r_si, x_i_sr, t_r_sI, x_ia_si, x_ia_sI, x_ia_sr, x_ra_si, x_ra_sI, x_ra_sr, k_t1 hs1, k_r1_0 hs1, k_a2 hs1, h7, hT1.2.1, lt, if_false, tx, tc, hb, e32, eq_false h.1, e10, eq_false h.2]
theorem S116k (hs : ShT w) (hT : TPx w b n) (v : Value) : ∀ m p, p + m = n → ∀ w1, Ch pA w w1 → x_i w1 1 7 = nI p → ∃ w2, Ch (gp [] [(1, 7)]) w1 w2 ∧ x_i w2 1 7 = nI (spn isLt b m p) ∧ ∀ Q, X_R L xs (d + 1) 116 0 [.ref 1, v] [] w1 Q = X_R L xs (d + 1) 116 39 [.ref 1, v] [] w2 Q := by
  intro m
  induction m with
  | zero =>
    intro p hp w1 c1 h7
    obtain rfl : p = n := by omega
    have hs1 := c1.shT hs
    have hT1 := hT.ch c1 rfl (fun _ => rfl)
    refine ⟨w1, Ch.refl, h7, fun Q => ?_⟩
    rw [X116_0]
    simp only [X116_1, X116_4, X116_5, X116_8, Nat.zero_le, and_true, true_and, x_nb0, x_nb1, x_nbp, x_isL_int, x_isL_ref, x_isL_junk, x_isR_ref, x_cat_nil, x_cat_int, x_cat_ref, x_cat_long, Option.toList_some, Option.toList_none, List.cons_append, List.nil_append, Nat.reduceAdd, Nat.reduceLeDiff, Nat.reduceLT, t_tag_si, t_tag_sr, t_tag_sI, x_r_si, x_i_sr, t_r_sI, x_ia_si, x_ia_sI, x_ia_sr, x_ra_si, x_ra_sI, x_ra_sr, k_t1 hs1, h7, hT1.2.1, nI_leT (Nat.le_refl p) (show p < 2 ^ 31 by have := hT.1; omega), if_true]
  | succ m ih =>
    intro p hp w1 c1 h7
    have hs1 := c1.shT hs
    have hT1 := hT.ch c1 rfl (fun _ => rfl)
    have h160 := hT.1
    obtain ⟨hb, hb2⟩ := hT1.2.2 p (by omega)
    have lt := nI_leF (show p < n by omega) (show n < 2 ^ 31 by omega)
    have tx := x_ix_nI (show p < 160 by omega) (show 160 < 2 ^ 31 by decide)
    have tc := nI_cl (show p < 2 ^ 31 by omega)
    have e115 := fun (Q' : Option Value → x_W → Prop) => S115 (L := L) (xs := xs) (d := d) (w := w1) (Q := Q') hb2
    unfold spn
    by_cases h : isLt (b p) = true
    · rw [bI_t h] at e115
      have c2 : Ch (gp [] [(1, 7)]) w1 (x_si w1 1 7 (nI (p + 1))) := Ch_si rfl
      have c2' : Ch pA w1 (x_si w1 1 7 (nI (p + 1))) := Ch_si rfl
      obtain ⟨w2, c3, h3, e3⟩ := ih (p + 1) (by omega) _ (c1.trans c2') (by rw [x_i_si, upd_s])
      refine ⟨w2, c2.trans c3, by rw [if_pos h]; exact h3, fun Q => ?_⟩
      rw [← e3 Q, X116_0]
      simp only [X116_1, X116_4, X116_5, X116_8, X116_11, X116_12, X116_15, X116_16, X116_19, X116_20, X116_23, X116_26, X116_27i, X116_27, X116_28, X116_31, X116_32, X116_33, X116_36, Nat.zero_le, and_true, true_and, x_nb0, x_nb1, x_nbp, x_isL_int, x_isL_ref, x_isL_junk, x_isR_ref, x_cat_nil, x_cat_int, x_cat_ref, x_cat_long, Option.toList_some, Option.toList_none, List.cons_append, List.nil_append, Nat.reduceAdd, Nat.reduceLeDiff, Nat.reduceLT, t_tag_si, t_tag_sr, t_tag_sI, x_r_si, x_i_sr, t_r_sI, x_ia_si, x_ia_sI, x_ia_sr, x_ra_si, x_ra_sI, x_ra_sr, k_t1 hs1, k_r1_0 hs1, k_a2 hs1, h7, hT1.2.1, lt, if_false, tx, tc, hb, e115, n10, nI_add]
    · rw [bI_f h] at e115
      refine ⟨w1, Ch.refl, by rw [if_neg h]; exact h7, fun Q => ?_⟩
      rw [X116_0]
      simp only [X116_1, X116_4, X116_5, X116_8, X116_11, X116_12, X116_15, X116_16, X116_19, X116_20, X116_23, Nat.zero_le, and_true, true_and, x_nb0, x_nb1, x_nbp, x_isL_int, x_isL_ref, x_isL_junk, x_isR_ref, x_cat_nil, x_cat_int, x_cat_ref, x_cat_long, Option.toList_some, Option.toList_none, List.cons_append, List.nil_append, Nat.reduceAdd, Nat.reduceLeDiff, Nat.reduceLT, t_tag_si, t_tag_sr, t_tag_sI, x_r_si, x_i_sr, t_r_sI, x_ia_si, x_ia_sI, x_ia_sr, x_ra_si, x_ra_sI, x_ra_sr, k_t1 hs1, k_r1_0 hs1, k_a2 hs1, h7, hT1.2.1, lt, if_false, tx, tc, hb, e115, if_true]
end S9988
