/-! ===== small methods ===== -/
def bI (p : Prop) [Decidable p] : Int32 := if p then nI 1 else nI 0
theorem bI_t {p : Prop} [Decidable p] (h : p) : bI p = nI 1 := if_pos h
theorem bI_f {p : Prop} [Decidable p] (h : ¬ p) : bI p = nI 0 := if_neg h
theorem bI_0 (p : Prop) [Decidable p] : (bI p = nI 0) = ¬ p := by
  by_cases h : p
  · rw [bI_t h]; simp only [h, not_true, eq_iff_iff, iff_false]; decide
  · rw [bI_f h]; simp only [h, not_false_eq_true]
theorem bI_nb (p : Prop) [Decidable p] : narrow .boolean (.int (bI p)) = .int (bI p) := x_nbp p
theorem bI_c {p q : Prop} [Decidable p] [Decidable q] (h : p ↔ q) : bI p = bI q := by
  by_cases hp : p
  · rw [bI_t hp, bI_t (h.mp hp)]
  · rw [bI_f hp, bI_f (fun z => hp (h.mpr z))]
theorem Q_if {α : Type} {p : Prop} [Decidable p] {Q : α → Prop} {a b : α} : (if p then Q a else Q b) = Q (if p then a else b) := by
  by_cases h : p <;> simp only [h, if_true, if_false]
section S31
variable {L : Nat} {xs : Nat → Int32} {d : Nat} {w : x_W} {Q : Option Value → x_W → Prop}
theorem S138 {v lo hi : Int32} : X_R L xs d 138 0 [.int v, .int lo, .int hi] [] w Q = Q (some (.int (bI (lo ≤ v ∧ v ≤ hi)))) w := by
  simp only [X138_0, X138_1, X138_2, X138_5, X138_6, X138_7, X138_10, X138_11, X138_14, X138_15, Nat.zero_le, and_true, true_and, x_nb0, x_nb1, x_nbp, x_isL_int, x_isL_ref, x_isL_junk, x_isR_ref, x_cat_nil, x_cat_int, x_cat_ref, x_cat_long, Option.toList_some, Option.toList_none, List.cons_append, List.nil_append, Nat.reduceAdd, Nat.reduceLeDiff, Nat.reduceLT, t_tag_si, t_tag_sr, t_tag_sI, x_r_si, x_i_sr, t_r_sI, x_ia_si, x_ia_sI, x_ia_sr, x_ra_si, x_ra_sI, x_ra_sr]
  by_cases h1 : v < lo
  · rw [if_pos h1, bI_f (fun q => absurd h1 (Int32.not_lt.mpr q.1))]
  · rw [if_neg h1]
    by_cases h2 : hi < v
    · rw [if_pos h2, bI_f (fun q => absurd h2 (Int32.not_lt.mpr q.2))]
    · rw [if_neg h2, bI_t ⟨Int32.not_lt.mp h1, Int32.not_lt.mp h2⟩]
theorem S10 {v lo hi : Int32} : X_R L xs d 10 0 [.int v, .int lo, .int hi] [] w Q = Q (some (.int (bI (lo ≤ v ∧ v ≤ hi)))) w := by
  simp only [X10_0, X10_1, X10_2, X10_5, X10_6, X10_7, X10_10, X10_11, X10_14, X10_15, Nat.zero_le, and_true, true_and, x_nb0, x_nb1, x_nbp, x_isL_int, x_isL_ref, x_isL_junk, x_isR_ref, x_cat_nil, x_cat_int, x_cat_ref, x_cat_long, Option.toList_some, Option.toList_none, List.cons_append, List.nil_append, Nat.reduceAdd, Nat.reduceLeDiff, Nat.reduceLT, t_tag_si, t_tag_sr, t_tag_sI, x_r_si, x_i_sr, t_r_sI, x_ia_si, x_ia_sI, x_ia_sr, x_ra_si, x_ra_sI, x_ra_sr]
  by_cases h1 : v < lo
  · rw [if_pos h1, bI_f (fun q => absurd h1 (Int32.not_lt.mpr q.1))]
  · rw [if_neg h1]
    by_cases h2 : hi < v
    · rw [if_pos h2, bI_f (fun q => absurd h2 (Int32.not_lt.mpr q.2))]
    · rw [if_neg h2, bI_t ⟨Int32.not_lt.mp h1, Int32.not_lt.mp h2⟩]
theorem S137 {v : Int32} : X_R L xs (d + 1) 137 0 [.int v] [] w Q = Q (some (.int (bI (nI 0 ≤ v ∧ v ≤ nI 19)))) w := by
  simp only [X137_0, X137_1, X137_2, X137_4, X137_7, Nat.zero_le, and_true, true_and, x_nb0, x_nb1, x_nbp, x_isL_int, x_isL_ref, x_isL_junk, x_isR_ref, x_cat_nil, x_cat_int, x_cat_ref, x_cat_long, Option.toList_some, Option.toList_none, List.cons_append, List.nil_append, Nat.reduceAdd, Nat.reduceLeDiff, Nat.reduceLT, t_tag_si, t_tag_sr, t_tag_sI, x_r_si, x_i_sr, t_r_sI, x_ia_si, x_ia_sI, x_ia_sr, x_ra_si, x_ra_sI, x_ra_sr, S138, bI_nb]
theorem S2 {v : Int32} : X_R L xs d 2 0 [.int v] [] w Q = Q (some (.int (bI (nI 0 ≤ v ∧ v ≤ nI 19)))) w := by
  simp only [X2_0, X2_1, X2_4, X2_5, X2_7, X2_10, X2_11, X2_14, X2_15, Nat.zero_le, and_true, true_and, x_nb0, x_nb1, x_nbp, x_isL_int, x_isL_ref, x_isL_junk, x_isR_ref, x_cat_nil, x_cat_int, x_cat_ref, x_cat_long, Option.toList_some, Option.toList_none, List.cons_append, List.nil_append, Nat.reduceAdd, Nat.reduceLeDiff, Nat.reduceLT, t_tag_si, t_tag_sr, t_tag_sI, x_r_si, x_i_sr, t_r_sI, x_ia_si, x_ia_sI, x_ia_sr, x_ra_si, x_ra_sI, x_ra_sr]
  by_cases h1 : v < nI 0
  · rw [if_pos h1, bI_f (fun q => absurd h1 (Int32.not_lt.mpr q.1))]
  · rw [if_neg h1]
    have e : (nI 20 ≤ v) = ¬ (v ≤ nI 19) := by
      have h20 : (nI 20).toInt = 20 := rfl
      have h19 : (nI 19).toInt = 19 := rfl
      rw [Int32.le_iff_toInt_le, Int32.le_iff_toInt_le, h20, h19]
      simp only [eq_iff_iff]; omega
    by_cases h2 : v ≤ nI 19
    · rw [if_neg (by rw [e]; exact fun q => q h2), bI_t ⟨Int32.not_lt.mp h1, h2⟩]
    · rw [if_pos (by rw [e]; exact h2), bI_f (fun q => h2 q.2)]
theorem S4 {v : Int32} : X_R L xs d 4 0 [.int v] [] w Q = Q (some (.int (bI (v = nI 0 ∨ v = nI 1)))) w := by
  simp only [X4_0, X4_1, X4_4, X4_5, X4_6, X4_9, X4_10, X4_13, X4_14, Nat.zero_le, and_true, true_and, x_nb0, x_nb1, x_nbp, x_isL_int, x_isL_ref, x_isL_junk, x_isR_ref, x_cat_nil, x_cat_int, x_cat_ref, x_cat_long, Option.toList_some, Option.toList_none, List.cons_append, List.nil_append, Nat.reduceAdd, Nat.reduceLeDiff, Nat.reduceLT, t_tag_si, t_tag_sr, t_tag_sI, x_r_si, x_i_sr, t_r_sI, x_ia_si, x_ia_sI, x_ia_sr, x_ra_si, x_ra_sI, x_ra_sr]
  by_cases h1 : v = nI 0
  · rw [if_pos h1, bI_t (Or.inl h1)]
  · rw [if_neg h1]
    by_cases h2 : v = nI 1
    · rw [if_pos h2, bI_t (Or.inr h2)]
    · rw [if_neg h2, bI_f (fun q => q.elim h1 h2)]
theorem S9 {v : Int32} : X_R L xs (d + 1) 9 0 [.int v] [] w Q = Q (some (.int (bI (nI 0 ≤ v ∧ v ≤ nI 255)))) w := by
  simp only [X9_0, X9_1, X9_2, X9_5, X9_8, Nat.zero_le, and_true, true_and, x_nb0, x_nb1, x_nbp, x_isL_int, x_isL_ref, x_isL_junk, x_isR_ref, x_cat_nil, x_cat_int, x_cat_ref, x_cat_long, Option.toList_some, Option.toList_none, List.cons_append, List.nil_append, Nat.reduceAdd, Nat.reduceLeDiff, Nat.reduceLT, t_tag_si, t_tag_sr, t_tag_sI, x_r_si, x_i_sr, t_r_sI, x_ia_si, x_ia_sI, x_ia_sr, x_ra_si, x_ra_sI, x_ra_sr, S10, bI_nb]
theorem S37 {v : Int32} : X_R L xs (d + 1) 37 0 [.int v] [] w Q = Q (some (.int (bI (nI 0 ≤ v ∧ v ≤ nI 3)))) w := by
  simp only [X37_0, X37_1, X37_2, X37_3, X37_6, Nat.zero_le, and_true, true_and, x_nb0, x_nb1, x_nbp, x_isL_int, x_isL_ref, x_isL_junk, x_isR_ref, x_cat_nil, x_cat_int, x_cat_ref, x_cat_long, Option.toList_some, Option.toList_none, List.cons_append, List.nil_append, Nat.reduceAdd, Nat.reduceLeDiff, Nat.reduceLT, t_tag_si, t_tag_sr, t_tag_sI, x_r_si, x_i_sr, t_r_sI, x_ia_si, x_ia_sI, x_ia_sr, x_ra_si, x_ra_sI, x_ra_sr, S10, bI_nb]
theorem S160 {v : Int32} : X_R L xs (d + 1) 160 0 [.int v] [] w Q = Q (some (.int (bI (nI 0 ≤ v ∧ v ≤ nI 255)))) w := by
  simp only [X160_0, X160_1, X160_2, X160_5, X160_8, Nat.zero_le, and_true, true_and, x_nb0, x_nb1, x_nbp, x_isL_int, x_isL_ref, x_isL_junk, x_isR_ref, x_cat_nil, x_cat_int, x_cat_ref, x_cat_long, Option.toList_some, Option.toList_none, List.cons_append, List.nil_append, Nat.reduceAdd, Nat.reduceLeDiff, Nat.reduceLT, t_tag_si, t_tag_sr, t_tag_sI, x_r_si, x_i_sr, t_r_sI, x_ia_si, x_ia_sI, x_ia_sr, x_ra_si, x_ra_sI, x_ra_sr, S138, bI_nb]
theorem S166 {v lo hi : Int32} : X_R L xs d 166 0 [.int v, .int lo, .int hi] [] w Q = Q (some (.int (if lo ≤ v then if v ≤ hi then v else hi else lo))) w := by
  simp only [X166_0, X166_1, X166_2, X166_5, X166_6, X166_9, X166_10, X166_11, X166_14, X166_15, X166_18, X166_19, Nat.zero_le, and_true, true_and, x_nb0, x_nb1, x_nbp, x_isL_int, x_isL_ref, x_isL_junk, x_isR_ref, x_cat_nil, x_cat_int, x_cat_ref, x_cat_long, Option.toList_some, Option.toList_none, List.cons_append, List.nil_append, Nat.reduceAdd, Nat.reduceLeDiff, Nat.reduceLT, t_tag_si, t_tag_sr, t_tag_sI, x_r_si, x_i_sr, t_r_sI, x_ia_si, x_ia_sI, x_ia_sr, x_ra_si, x_ra_sI, x_ra_sr]
  by_cases h1 : lo ≤ v
  · by_cases h2 : v ≤ hi <;> simp only [h1, h2, if_true, if_false]
  · simp only [h1, if_false]
theorem S139 {a b : Int32} : X_R L xs d 139 0 [.int a, .int b] [] w Q = Q (some (.int (if b ≤ a then a - b else b - a))) w := by
  simp only [X139_0, X139_1, X139_2, X139_5, X139_6, X139_7, X139_8, X139_11, X139_12, X139_13, X139_14, Nat.zero_le, and_true, true_and, x_nb0, x_nb1, x_nbp, x_isL_int, x_isL_ref, x_isL_junk, x_isR_ref, x_cat_nil, x_cat_int, x_cat_ref, x_cat_long, Option.toList_some, Option.toList_none, List.cons_append, List.nil_append, Nat.reduceAdd, Nat.reduceLeDiff, Nat.reduceLT, t_tag_si, t_tag_sr, t_tag_sI, x_r_si, x_i_sr, t_r_sI, x_ia_si, x_ia_sI, x_ia_sr, x_ra_si, x_ra_sI, x_ra_sr]
  by_cases h1 : b ≤ a <;> simp only [h1, if_true, if_false]
-- knots beside each other
def besN (i j : Nat) : Bool := (i / 5 == j / 5 && (i + 1 == j || j + 1 == i)) || i + 5 == j || j + 5 == i
def bes (a b : Int32) : Prop := (nI 0 ≤ a ∧ a ≤ nI 19) ∧ (nI 0 ≤ b ∧ b ≤ nI 19) ∧ besN a.toNatClampNeg b.toNatClampNeg = true
def bes_dec (a b : Int32) : Decidable (bes a b) := inferInstanceAs (Decidable (_ ∧ _ ∧ _))
theorem kn_of {a : Int32} (h : nI 0 ≤ a ∧ a ≤ nI 19) : ∃ i, i < 20 ∧ a = nI i := by
  have h0 : ¬ a < 0 := Int32.not_lt.mpr h.1
  obtain ⟨j, hj, e⟩ := nI_of2 (n := 19) (M := nI 19) rfl h0 h.2
  exact ⟨j, by omega, e⟩
theorem kn_nI {i : Nat} (h : i < 20) : nI 0 ≤ nI i ∧ nI i ≤ nI 19 := ⟨nI_le (Nat.zero_le _) (by omega), nI_le (by omega) (by decide)⟩
theorem besX : ∀ i, i < 20 → ∀ j, j < 20 → decide ((if 0 ≤ nI i - nI j then nI i - nI j else 0 - (nI i - nI j)) = nI 5 ∨ (if 0 ≤ nI i - nI j then nI i - nI j else 0 - (nI i - nI j)) = nI 1 ∧ nI i / nI 5 = nI j / nI 5) = besN i j := by decide +kernel
theorem besM : ∀ i, i < 20 → ∀ j, j < 20 → decide ((if nI j / nI 5 ≤ nI i / nI 5 then nI i / nI 5 - nI j / nI 5 else nI j / nI 5 - nI i / nI 5) + (if nI j - nI j / nI 5 * nI 5 ≤ nI i - nI i / nI 5 * nI 5 then nI i - nI i / nI 5 * nI 5 - (nI j - nI j / nI 5 * nI 5) else nI j - nI j / nI 5 * nI 5 - (nI i - nI i / nI 5 * nI 5)) = nI 1) = besN i j := by decide +kernel
theorem n5 : ¬ nI 5 = nI 0 := by decide
theorem S86 {a b : Int32} [Decidable (bes a b)] : X_R L xs (d + 1) 86 0 [.int a, .int b, x_junk] [] w Q = Q (some (.int (bI (bes a b)))) w := by
  simp only [X86_0, X86_1, X86_4, X86_7, X86_8, X86_11, X86_14, X86_15, X86_16, X86_17, X86_18, X86_19, X86_22, X86_23, X86_24, X86_25, X86_28, X86_29, X86_30, X86_33, X86_34, X86_35, X86_36, X86_37, X86_38, X86_39, X86_42, X86_43, X86_46, X86_47, Nat.zero_le, and_true, true_and, x_nb0, x_nb1, x_nbp, x_isL_int, x_isL_ref, x_isL_junk, x_isR_ref, x_cat_nil, x_cat_int, x_cat_ref, x_cat_long, Option.toList_some, Option.toList_none, List.cons_append, List.nil_append, Nat.reduceAdd, Nat.reduceLeDiff, Nat.reduceLT, t_tag_si, t_tag_sr, t_tag_sI, x_r_si, x_i_sr, t_r_sI, x_ia_si, x_ia_sI, x_ia_sr, x_ra_si, x_ra_sI, x_ra_sr, S2, bI_0, n5, not_false_eq_true]
  by_cases ha : nI 0 ≤ a ∧ a ≤ nI 19
  · by_cases hb : nI 0 ≤ b ∧ b ≤ nI 19
    · obtain ⟨i, hi, rfl⟩ := kn_of ha
      obtain ⟨j, hj, rfl⟩ := kn_of hb
      have h := besX i hi j hj
      simp only [ha, hb, and_self, not_true, if_false]
      by_cases hB : besN i j = true
      · rw [bI_t ⟨ha, hb, by rw [nI_cl (by omega), nI_cl (by omega)]; exact hB⟩]
        rw [hB, decide_eq_true_eq] at h
        rcases h with h | ⟨h, h2⟩
        · simp only [h, if_true]
        · simp only [h, h2, if_true, ite_self]
      · rw [bI_f (fun q => hB (by have := q.2.2; rw [nI_cl (by omega), nI_cl (by omega)] at this; exact this))]
        rw [Bool.not_eq_true] at hB
        rw [hB, decide_eq_false_iff_not, not_or] at h
        rw [if_neg h.1]
        by_cases h1 : (if 0 ≤ nI i - nI j then nI i - nI j else 0 - (nI i - nI j)) = nI 1
        · rw [if_pos h1, if_neg (fun q => h.2 ⟨h1, q⟩)]
        · rw [if_neg h1]
    · simp only [ha, hb, and_self, not_true, not_false_eq_true, if_false, if_true]
      rw [bI_f (fun q => hb q.2.1)]
  · simp only [ha, not_false_eq_true, if_true]
    rw [bI_f (fun q => ha q.1)]
theorem S136 {a b : Int32} [Decidable (bes a b)] : X_R L xs (d + 2) 136 0 [.int a, .int b] [] w Q = Q (some (.int (bI (bes a b)))) w := by
  simp only [X136_0, X136_1, X136_4, X136_7, X136_8, X136_11, X136_14, X136_15, X136_16, X136_17, X136_18, X136_19, X136_20, X136_23, X136_24, X136_25, X136_26, X136_27, X136_28, X136_29, X136_32, X136_33, X136_34, X136_37, X136_38, X136_41, X136_42, Nat.zero_le, and_true, true_and, x_nb0, x_nb1, x_nbp, x_isL_int, x_isL_ref, x_isL_junk, x_isR_ref, x_cat_nil, x_cat_int, x_cat_ref, x_cat_long, Option.toList_some, Option.toList_none, List.cons_append, List.nil_append, Nat.reduceAdd, Nat.reduceLeDiff, Nat.reduceLT, t_tag_si, t_tag_sr, t_tag_sI, x_r_si, x_i_sr, t_r_sI, x_ia_si, x_ia_sI, x_ia_sr, x_ra_si, x_ra_sI, x_ra_sr, S137, S139, bI_0, n5, not_false_eq_true]
  by_cases ha : nI 0 ≤ a ∧ a ≤ nI 19
  · by_cases hb : nI 0 ≤ b ∧ b ≤ nI 19
    · obtain ⟨i, hi, rfl⟩ := kn_of ha
      obtain ⟨j, hj, rfl⟩ := kn_of hb
      have h := besM i hi j hj
      simp only [ha, hb, and_self, not_true, if_false]
      by_cases hB : besN i j = true
      · rw [bI_t ⟨ha, hb, by rw [nI_cl (by omega), nI_cl (by omega)]; exact hB⟩]
        rw [hB, decide_eq_true_eq] at h
        rw [if_pos h]
      · rw [bI_f (fun q => hB (by have := q.2.2; rw [nI_cl (by omega), nI_cl (by omega)] at this; exact this))]
        rw [Bool.not_eq_true] at hB
        rw [hB, decide_eq_false_iff_not] at h
        rw [if_neg h]
    · simp only [ha, hb, and_self, not_true, not_false_eq_true, if_false, if_true]
      rw [bI_f (fun q => hb q.2.1)]
  · simp only [ha, not_false_eq_true, if_true]
    rw [bI_f (fun q => ha q.1)]
end S31
