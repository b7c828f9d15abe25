/-! ===== the class's tokens ===== -/
def wl (q : Nat) : Nat := (wdL.getD q []).length
def sW (q : Nat) : Nat := 1002 + 2 * q
theorem wd_s : ∀ q, q < 12 → sE (sW q) ∧ (x_sbyt ((sW q + 1 - 1000) / 2)).length = wl q ∧ wl q ≤ 6 ∧ 0 < wl q := by
  have h : ∀ q, q < 12 → (x_sbyt ((sW q + 1 - 1000) / 2)).length = wl q ∧ wl q ≤ 6 ∧ 0 < wl q := by decide +kernel
  intro q hq
  exact ⟨⟨by unfold sW; omega, by unfold sW; omega, by unfold sW; omega⟩, h q hq⟩
theorem wd_c : ∀ q, q < 12 → ∀ i, i < 6 → i < wl q → chV ((x_sbyt ((sW q + 1 - 1000) / 2)).getD i 0) = nI (wdC q i) ∧ wdC q i ≤ 255 := by decide +kernel
theorem nchar : ∀ c, c < 256 → narrow .char (.int (nI c)) = .int (nI c) := by decide +kernel
theorem wdE_iff {b : Nat → Nat} {s q w : Nat} : wdE b s q w = true ↔ q - s = wl w ∧ ∀ i, i < wl w → b (s + i) = wdC w i := by
  unfold wdE wl
  rw [Bool.and_eq_true, decide_eq_true_eq, List.all_eq_true]
  constructor
  · rintro ⟨h1, h2⟩
    exact ⟨h1, fun i hi => beq_iff_eq.mp (h2 i (List.mem_range.mpr hi))⟩
  · rintro ⟨h1, h2⟩
    exact ⟨h1, fun i hi => beq_iff_eq.mpr (h2 i (List.mem_range.mp hi))⟩
theorem wdF_le (b : Nat → Nat) (s q : Nat) : ∀ m w, w + m = 12 → wdF b s q m w ≤ 12 := by
  intro m
  induction m with
  | zero => intro w _; exact Nat.le_refl _
  | succ m ih =>
    intro w hw
    unfold wdF
    split
    · omega
    · exact ih (w + 1) (by omega)
section S9989
variable {L : Nat} {xs : Nat → Int32} {d : Nat} {w : x_W} {Q : Option Value → x_W → Prop} {b : Nat → Nat} {n : Nat}
theorem S117 {q : Nat} (hq : q < 12) : X_R L xs d 117 0 [.int (nI q)] [] w Q = Q (some (.ref (sW q))) w := by
  rcases (by omega : q = 0 ∨ q = 1 ∨ q = 2 ∨ q = 3 ∨ q = 4 ∨ q = 5 ∨ q = 6 ∨ q = 7 ∨ q = 8 ∨ q = 9 ∨ q = 10 ∨ q = 11) with rfl | rfl | rfl | rfl | rfl | rfl | rfl | rfl | rfl | rfl | rfl | rfl
  all_goals first
    | (simp only [X117_0, X117_1_0, X117_1_1, X117_1_2, X117_1_3, X117_1_4, X117_1_5, X117_1_6, X117_1_7, X117_1_8, X117_1_9, X117_1_10, X117_1_d, X117_60, X117_62, X117_63, X117_65, X117_66, X117_68, X117_69, X117_71, X117_72, X117_74, X117_75, X117_77, X117_78, X117_80, X117_81, X117_83, X117_84, X117_86, X117_87, X117_89, X117_90, X117_92, X117_93, X117_95, Nat.zero_le, and_true, true_and, x_nb0, x_nb1, x_nbp, x_isL_int, x_isL_ref, x_isL_junk, x_isR_ref, x_cat_nil, x_cat_int, x_cat_ref, x_cat_long, Option.toList_some, Option.toList_none, List.cons_append, List.nil_append, Nat.reduceAdd, Nat.reduceLeDiff, Nat.reduceLT, t_tag_si, t_tag_sr, t_tag_sI, x_r_si, x_i_sr, t_r_sI, x_ia_si, x_ia_sI, x_ia_sr, x_ra_si, x_ra_sI, x_ra_sr]; done)
    | (simp only [X117_0, X117_60, X117_62, X117_63, X117_65, X117_66, X117_68, X117_69, X117_71, X117_72, X117_74, X117_75, X117_77, X117_78, X117_80, X117_81, X117_83, X117_84, X117_86, X117_87, X117_89, X117_90, X117_92, X117_93, X117_95, X117_1_d (x := nI 11) (by decide), Nat.zero_le, and_true, true_and, x_nb0, x_nb1, x_nbp, x_isL_int, x_isL_ref, x_isL_junk, x_isR_ref, x_cat_nil, x_cat_int, x_cat_ref, x_cat_long, Option.toList_some, Option.toList_none, List.cons_append, List.nil_append, Nat.reduceAdd, Nat.reduceLeDiff, Nat.reduceLT, t_tag_si, t_tag_sr, t_tag_sI, x_r_si, x_i_sr, t_r_sI, x_ia_si, x_ia_sI, x_ia_sr, x_ra_si, x_ra_sI, x_ra_sr]; done)
    | (simp only [X117_0, X117_1_0, X117_1_1, X117_1_2, X117_1_3, X117_1_4, X117_1_5, X117_1_6, X117_1_7, X117_1_8, X117_1_9, X117_1_10, X117_1_d, X117_60, X117_62, X117_63, X117_65, X117_66, X117_68, X117_69, X117_71, X117_72, X117_74, X117_75, X117_77, X117_78, X117_80, X117_81, X117_83, X117_84, X117_86, X117_87, X117_89, X117_90, X117_92, X117_93, X117_95, Nat.zero_le, and_true, true_and, x_nb0, x_nb1, x_nbp, x_isL_int, x_isL_ref, x_isL_junk, x_isR_ref, x_cat_nil, x_cat_int, x_cat_ref, x_cat_long, Option.toList_some, Option.toList_none, List.cons_append, List.nil_append, Nat.reduceAdd, Nat.reduceLeDiff, Nat.reduceLT, t_tag_si, t_tag_sr, t_tag_sI, x_r_si, x_i_sr, t_r_sI, x_ia_si, x_ia_sI, x_ia_sr, x_ra_si, x_ra_sI, x_ra_sr]; rfl)
    | (simp only [X117_0, X117_60, X117_62, X117_63, X117_65, X117_66, X117_68, X117_69, X117_71, X117_72, X117_74, X117_75, X117_77, X117_78, X117_80, X117_81, X117_83, X117_84, X117_86, X117_87, X117_89, X117_90, X117_92, X117_93, X117_95, X117_1_d (x := nI 11) (by decide), Nat.zero_le, and_true, true_and, x_nb0, x_nb1, x_nbp, x_isL_int, x_isL_ref, x_isL_junk, x_isR_ref, x_cat_nil, x_cat_int, x_cat_ref, x_cat_long, Option.toList_some, Option.toList_none, List.cons_append, List.nil_append, Nat.reduceAdd, Nat.reduceLeDiff, Nat.reduceLT, t_tag_si, t_tag_sr, t_tag_sI, x_r_si, x_i_sr, t_r_sI, x_ia_si, x_ia_sI, x_ia_sr, x_ra_si, x_ra_sI, x_ra_sr]; rfl)
theorem S118l (hs : ShT w) (hT : TPx w b n) {q s e : Nat} (hq : q < 12) (h6 : x_i w 1 6 = nI s) (he : s + wl q ≤ n) (hl : e - s = wl q) : ∀ m i, i + m = wl q → (∀ j, j < i → b (s + j) = wdC q j) → X_R L xs (d + 4) 118 20 [.ref 1, .ref (sW q), .int (nI i)] [] w Q = Q (some (.int (bI (wdE b s e q = true)))) w := by
  obtain ⟨hE, hlen, h66, h0⟩ := wd_s q hq
  have h160 := hT.1
  have e232 := fun (Q' : Option Value → x_W → Prop) => S232 (L := L) (xs := xs) (d := d + 2) (w := w) (Q := Q') hE hlen
  intro m
  induction m with
  | zero =>
    intro i hi hj
    obtain rfl : i = wl q := by omega
    rw [bI_t (wdE_iff.mpr ⟨hl, hj⟩), X118_20]
    simp only [X118_21, X118_25, X118_55, X118_56, X118_22 hE, Nat.zero_le, and_true, true_and, x_nb0, x_nb1, x_nbp, x_isL_int, x_isL_ref, x_isL_junk, x_isR_ref, x_cat_nil, x_cat_int, x_cat_ref, x_cat_long, Option.toList_some, Option.toList_none, List.cons_append, List.nil_append, Nat.reduceAdd, Nat.reduceLeDiff, Nat.reduceLT, t_tag_si, t_tag_sr, t_tag_sI, x_r_si, x_i_sr, t_r_sI, x_ia_si, x_ia_sI, x_ia_sr, x_ra_si, x_ra_sI, x_ra_sr, e232, nI_leT (Nat.le_refl (wl q)) (show wl q < 2 ^ 31 by omega), if_true]
  | succ m ih =>
    intro i hi hj
    obtain ⟨hc, hc2⟩ := wd_c q hq i (by omega) (by omega)
    have e234 := fun (Q' : Option Value → x_W → Prop) => S234 (L := L) (xs := xs) (d := d) (w := w) (Q := Q') hE hlen (by omega) (show i < wl q by omega) (by rw [hc]; exact nchar _ (by omega))
    rw [hc] at e234
    obtain ⟨hb, hb2⟩ := hT.2.2 (s + i) (by omega)
    have tx := x_ix_nI (show s + i < 160 by omega) (show 160 < 2 ^ 31 by decide)
    have tc := nI_cl (show s + i < 2 ^ 31 by omega)
    have ee : (nI (wdC q i) = nI (b (s + i))) = (wdC q i = b (s + i)) := nI_eqD (by omega) (by omega)
    by_cases h : wdC q i = b (s + i)
    · rw [← ih (i + 1) (by omega) (fun j hj' => by
        by_cases hji : j = i
        · subst hji; exact h.symm
        · exact hj j (by omega)), X118_20]
      simp only [X118_21, X118_25, X118_28, X118_29, X118_33, X118_34, X118_37, X118_38, X118_41, X118_42, X118_43, X118_44, X118_49, X118_52, X118_22 hE, X118_30 hE, Nat.zero_le, and_true, true_and, x_nb0, x_nb1, x_nbp, x_isL_int, x_isL_ref, x_isL_junk, x_isR_ref, x_cat_nil, x_cat_int, x_cat_ref, x_cat_long, Option.toList_some, Option.toList_none, List.cons_append, List.nil_append, Nat.reduceAdd, Nat.reduceLeDiff, Nat.reduceLT, t_tag_si, t_tag_sr, t_tag_sI, x_r_si, x_i_sr, t_r_sI, x_ia_si, x_ia_sI, x_ia_sr, x_ra_si, x_ra_sI, x_ra_sr, e232, nI_leF (show i < wl q by omega) (show wl q < 2 ^ 31 by omega), if_false, e234, k_t1 hs, k_r1_0 hs, h6, nI_add, k_a2 hs, tx, tc, hb, ee, eq_true h, if_true]
    · rw [bI_f (fun z => h ((wdE_iff.mp z).2 i (by omega)).symm), X118_20]
      simp only [X118_21, X118_25, X118_28, X118_29, X118_33, X118_34, X118_37, X118_38, X118_41, X118_42, X118_43, X118_44, X118_47, X118_48, X118_22 hE, X118_30 hE, Nat.zero_le, and_true, true_and, x_nb0, x_nb1, x_nbp, x_isL_int, x_isL_ref, x_isL_junk, x_isR_ref, x_cat_nil, x_cat_int, x_cat_ref, x_cat_long, Option.toList_some, Option.toList_none, List.cons_append, List.nil_append, Nat.reduceAdd, Nat.reduceLeDiff, Nat.reduceLT, t_tag_si, t_tag_sr, t_tag_sI, x_r_si, x_i_sr, t_r_sI, x_ia_si, x_ia_sI, x_ia_sr, x_ra_si, x_ra_sI, x_ra_sr, e232, nI_leF (show i < wl q by omega) (show wl q < 2 ^ 31 by omega), if_false, e234, k_t1 hs, k_r1_0 hs, h6, nI_add, k_a2 hs, tx, tc, hb, ee, eq_false h]
theorem S118 (hs : ShT w) (hT : TPx w b n) {q s e : Nat} (hq : q < 12) (h6 : x_i w 1 6 = nI s) (h7 : x_i w 1 7 = nI e) (hse : s ≤ e) (he : e ≤ n) : X_R L xs (d + 4) 118 0 [.ref 1, .ref (sW q), x_junk] [] w Q = Q (some (.int (bI (wdE b s e q = true)))) w := by
  obtain ⟨hE, hlen, h66, h0⟩ := wd_s q hq
  have h160 := hT.1
  have e232 := fun (Q' : Option Value → x_W → Prop) => S232 (L := L) (xs := xs) (d := d + 2) (w := w) (Q := Q') hE hlen
  have ee : (nI (wl q) = nI (e - s)) = (wl q = e - s) := nI_eqD (by omega) (by omega)
  by_cases h : wl q = e - s
  · rw [← S118l (L := L) (xs := xs) (d := d) (Q := Q) hs hT hq h6 (by omega) h.symm (wl q) 0 (by omega) (fun j hj => absurd hj (Nat.not_lt_zero j))]
    simp only [X118_0, X118_4, X118_5, X118_8, X118_9, X118_12, X118_13, X118_18, X118_19, X118_1 hE, Nat.zero_le, and_true, true_and, x_nb0, x_nb1, x_nbp, x_isL_int, x_isL_ref, x_isL_junk, x_isR_ref, x_cat_nil, x_cat_int, x_cat_ref, x_cat_long, Option.toList_some, Option.toList_none, List.cons_append, List.nil_append, Nat.reduceAdd, Nat.reduceLeDiff, Nat.reduceLT, t_tag_si, t_tag_sr, t_tag_sI, x_r_si, x_i_sr, t_r_sI, x_ia_si, x_ia_sI, x_ia_sr, x_ra_si, x_ra_sI, x_ra_sr, e232, k_t1 hs, h6, h7, nI_sub hse, ee, eq_true h, if_true]
  · rw [bI_f (fun z => h ((wdE_iff.mp z).1).symm)]
    simp only [X118_0, X118_4, X118_5, X118_8, X118_9, X118_12, X118_13, X118_16, X118_17, X118_1 hE, Nat.zero_le, and_true, true_and, x_nb0, x_nb1, x_nbp, x_isL_int, x_isL_ref, x_isL_junk, x_isR_ref, x_cat_nil, x_cat_int, x_cat_ref, x_cat_long, Option.toList_some, Option.toList_none, List.cons_append, List.nil_append, Nat.reduceAdd, Nat.reduceLeDiff, Nat.reduceLT, t_tag_si, t_tag_sr, t_tag_sI, x_r_si, x_i_sr, t_r_sI, x_ia_si, x_ia_sI, x_ia_sr, x_ra_si, x_ra_sI, x_ra_sr, e232, k_t1 hs, h6, h7, nI_sub hse, ee, eq_false h, if_false]
def wT (v : Nat) : Nat := if v < 12 then 256 + v else 302
theorem S116w (hs : ShT w) (hT : TPx w b n) {s e : Nat} (h6 : x_i w 1 6 = nI s) (h7 : x_i w 1 7 = nI e) (hse : s ≤ e) (he : e ≤ n) : ∀ m q, q + m = 12 → X_R L xs (d + 5) 116 41 [.ref 1, .int (nI q)] [] w Q = Q (some (.int (nI (wT (wdF b s e m q))))) w := by
  intro m
  induction m with
  | zero =>
    intro q hq
    obtain rfl : q = 12 := by omega
    rw [X116_41]
    simp only [X116_42, X116_44, X116_70, X116_73, Nat.zero_le, and_true, true_and, x_nb0, x_nb1, x_nbp, x_isL_int, x_isL_ref, x_isL_junk, x_isR_ref, x_cat_nil, x_cat_int, x_cat_ref, x_cat_long, Option.toList_some, Option.toList_none, List.cons_append, List.nil_append, Nat.reduceAdd, Nat.reduceLeDiff, Nat.reduceLT, t_tag_si, t_tag_sr, t_tag_sI, x_r_si, x_i_sr, t_r_sI, x_ia_si, x_ia_sI, x_ia_sr, x_ra_si, x_ra_sI, x_ra_sr, nI_leT (Nat.le_refl 12) (show 12 < 2 ^ 31 by decide), if_true]
    rfl
  | succ m ih =>
    intro q hq
    have e117 := fun (Q' : Option Value → x_W → Prop) => S117 (L := L) (xs := xs) (d := d + 4) (w := w) (Q := Q') (show q < 12 by omega)
    have e118 := fun (Q' : Option Value → x_W → Prop) => S118 (L := L) (xs := xs) (d := d) (w := w) (Q := Q') hs hT (show q < 12 by omega) h6 h7 hse he
    unfold wdF
    by_cases h : wdE b s e q = true
    · rw [bI_t h] at e118
      rw [if_pos h, X116_41]
      unfold wT
      rw [if_pos (show q < 12 by omega)]
      simp only [X116_42, X116_44, X116_47, X116_48, X116_49, X116_52, X116_55, X116_58, X116_61, X116_62, X116_63, Nat.zero_le, and_true, true_and, x_nb0, x_nb1, x_nbp, x_isL_int, x_isL_ref, x_isL_junk, x_isR_ref, x_cat_nil, x_cat_int, x_cat_ref, x_cat_long, Option.toList_some, Option.toList_none, List.cons_append, List.nil_append, Nat.reduceAdd, Nat.reduceLeDiff, Nat.reduceLT, t_tag_si, t_tag_sr, t_tag_sI, x_r_si, x_i_sr, t_r_sI, x_ia_si, x_ia_sI, x_ia_sr, x_ra_si, x_ra_sI, x_ra_sr, nI_leF (show q < 12 by omega) (show 12 < 2 ^ 31 by decide), if_false, e117, k_t1 hs, e118, n10, nI_add]
    · rw [bI_f h] at e118
      rw [if_neg h, ← ih (q + 1) (by omega), X116_41]
      simp only [X116_42, X116_44, X116_47, X116_48, X116_49, X116_52, X116_55, X116_64, X116_67, Nat.zero_le, and_true, true_and, x_nb0, x_nb1, x_nbp, x_isL_int, x_isL_ref, x_isL_junk, x_isR_ref, x_cat_nil, x_cat_int, x_cat_ref, x_cat_long, Option.toList_some, Option.toList_none, List.cons_append, List.nil_append, Nat.reduceAdd, Nat.reduceLeDiff, Nat.reduceLT, t_tag_si, t_tag_sr, t_tag_sI, x_r_si, x_i_sr, t_r_sI, x_ia_si, x_ia_sI, x_ia_sr, x_ra_si, x_ra_sI, x_ra_sr, nI_leF (show q < 12 by omega) (show 12 < 2 ^ 31 by decide), if_false, e117, k_t1 hs, e118, if_true, nI_add]
theorem S120k (hs : ShT w) (hT : TPx w b n) {s : Nat} : ∀ m k, s + k + m = n → ∀ w1, Ch pA w w1 → x_i w1 1 7 = nI (s + k) → x_i w1 1 8 = nI (vN b s k) → ∃ w2, Ch (gp [] [(1, 7), (1, 8)]) w1 w2 ∧ x_i w2 1 7 = nI (spn isDg b m (s + k)) ∧ x_i w2 1 8 = nI (vN b s (spn isDg b m (s + k) - s)) ∧ ∀ Q, X_R L xs (d + 1) 120 5 [.ref 1] [] w1 Q = X_R L xs (d + 1) 120 68 [.ref 1] [] w2 Q := by
  intro m
  induction m with
  | zero =>
    intro k hk w1 c1 h7 h8
    have hs1 := c1.shT hs
    have hT1 := hT.ch c1 rfl (fun _ => rfl)
    have h160 := hT.1
    have ek : s + k = n := by omega
    unfold spn
    refine ⟨w1, Ch.refl, h7, by rw [Nat.add_sub_cancel_left]; exact h8, fun Q => ?_⟩
    rw [X120_5]
    simp only [X120_6, X120_9, X120_10, X120_13, Nat.zero_le, and_true, true_and, x_nb0, x_nb1, x_nbp, x_isL_int, x_isL_ref, x_isL_junk, x_isR_ref, x_cat_nil, x_cat_int, x_cat_ref, x_cat_long, Option.toList_some, Option.toList_none, List.cons_append, List.nil_append, Nat.reduceAdd, Nat.reduceLeDiff, Nat.reduceLT, t_tag_si, t_tag_sr, t_tag_sI, x_r_si, x_i_sr, t_r_sI, x_ia_si, x_ia_sI, x_ia_sr, x_ra_si, x_ra_sI, x_ra_sr, k_t1 hs1, h7, hT1.2.1, nI_leT (show n ≤ s + k by omega) (show s + k < 2 ^ 31 by omega), if_true]
  | succ m ih =>
    intro k hk w1 c1 h7 h8
    have hs1 := c1.shT hs
    have hT1 := hT.ch c1 rfl (fun _ => rfl)
    have h160 := hT.1
    obtain ⟨hb, hb2⟩ := hT1.2.2 (s + k) (by omega)
    have lt := nI_leF (show s + k < n by omega) (show n < 2 ^ 31 by omega)
    have tx := x_ix_nI (show s + k < 160 by omega) (show 160 < 2 ^ 31 by decide)
    have tc := nI_cl (show s + k < 2 ^ 31 by omega)
    have e119 := fun (Q' : Option Value → x_W → Prop) => S119 (L := L) (xs := xs) (d := d) (w := w1) (Q := Q') hb2
    unfold spn
    by_cases h : isDg (b (s + k)) = true
    · rw [bI_t h] at e119
      have h48 : 48 ≤ b (s + k) := by
        unfold isDg at h
        rw [Bool.and_eq_true] at h
        exact of_decide_eq_true h.1
      have eN : nI 10 * nI (vN b s k) + nI (b (s + k)) - nI 48 = nI (vN b s (k + 1)) := by
        rw [nI_mul, nI_add, nI_sub (by omega)]
        rw [Nat.add_sub_assoc h48]
        rfl
      have c2 : Ch (gp [] [(1, 7), (1, 8)]) w1 (x_si (x_si w1 1 8 (nI (vN b s (k + 1)))) 1 7 (nI (s + k + 1))) := (Ch_si rfl).trans (Ch_si rfl)
      have c2' : Ch pA w1 (x_si (x_si w1 1 8 (nI (vN b s (k + 1)))) 1 7 (nI (s + k + 1))) := (Ch_si rfl).trans (Ch_si rfl)
      obtain ⟨w2, c3, h3, h4, e3⟩ := ih (k + 1) (by omega) _ (c1.trans c2') (by rw [x_i_si, upd_s]; rfl) (by rw [x_i_si, upd_o (show 8 ≠ 7 by decide), x_i_si, upd_s])
      have e17 : x_i (x_si w1 1 8 (nI (vN b s (k + 1)))) 1 7 = nI (s + k) := by rw [x_i_si, upd_o (show 7 ≠ 8 by decide)]; exact h7
      refine ⟨w2, c2.trans c3, by rw [if_pos h]; exact h3, by rw [if_pos h]; exact h4, fun Q => ?_⟩
      rw [← e3 Q, X120_5]
      simp only [X120_6, X120_9, X120_10, X120_13, X120_16, X120_17, X120_20, X120_21, X120_24, X120_25, X120_28, X120_31, X120_32, X120_34, X120_35, X120_38, X120_39, X120_40, X120_43, X120_44, X120_47, X120_48, X120_49, X120_51, X120_52, X120_55, X120_56i, X120_56, X120_57, X120_60, X120_61, X120_62, X120_65, Nat.zero_le, and_true, true_and, x_nb0, x_nb1, x_nbp, x_isL_int, x_isL_ref, x_isL_junk, x_isR_ref, x_cat_nil, x_cat_int, x_cat_ref, x_cat_long, Option.toList_some, Option.toList_none, List.cons_append, List.nil_append, Nat.reduceAdd, Nat.reduceLeDiff, Nat.reduceLT, t_tag_si, t_tag_sr, t_tag_sI, x_r_si, x_i_sr, t_r_sI, x_ia_si, x_ia_sI, x_ia_sr, x_ra_si, x_ra_sI, x_ra_sr, k_t1 hs1, k_r1_0 hs1, k_a2 hs1, h7, h8, hT1.2.1, lt, if_false, tx, tc, hb, e119, n10, eN, e17, nI_add]
    · rw [bI_f h] at e119
      refine ⟨w1, Ch.refl, by rw [if_neg h]; exact h7, by rw [if_neg h, Nat.add_sub_cancel_left]; exact h8, fun Q => ?_⟩
      rw [X120_5]
      simp only [X120_6, X120_9, X120_10, X120_13, X120_16, X120_17, X120_20, X120_21, X120_24, X120_25, X120_28, Nat.zero_le, and_true, true_and, x_nb0, x_nb1, x_nbp, x_isL_int, x_isL_ref, x_isL_junk, x_isR_ref, x_cat_nil, x_cat_int, x_cat_ref, x_cat_long, Option.toList_some, Option.toList_none, List.cons_append, List.nil_append, Nat.reduceAdd, Nat.reduceLeDiff, Nat.reduceLT, t_tag_si, t_tag_sr, t_tag_sI, x_r_si, x_i_sr, t_r_sI, x_ia_si, x_ia_sI, x_ia_sr, x_ra_si, x_ra_sI, x_ra_sr, k_t1 hs1, k_r1_0 hs1, k_a2 hs1, h7, hT1.2.1, lt, if_false, tx, tc, hb, e119, if_true]
end S9989
