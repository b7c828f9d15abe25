/-! ===== copy, sleepersBy, taken ===== -/
def hrP (i n : Int32) (z : Nat) : Prop := nI 0 ≤ i ∧ nI 0 ≤ n ∧ i ≤ nI z ∧ n ≤ nI z - i
def hrP_dec (i n : Int32) (z : Nat) : Decidable (hrP i n z) := inferInstanceAs (Decidable (_ ∧ _ ∧ _ ∧ _))
theorem hrP_of {i n : Int32} {z : Nat} (hz : z ≤ 40) (h : hrP i n z) : ∃ a m, i = nI a ∧ n = nI m ∧ a + m ≤ z := by
  obtain ⟨h1, h2, h3, h4⟩ := h
  obtain ⟨a, ha, rfl⟩ := in_of (n := 40) (M := nI 40) rfl ⟨h1, Int32.le_trans h3 (nI_le hz (by decide))⟩
  have haz := (nI_leI (show a < 2 ^ 31 by omega) (show z < 2 ^ 31 by omega)).mp h3
  rw [nI_sub haz] at h4
  obtain ⟨m, hm, rfl⟩ := in_of (n := 40) (M := nI 40) rfl ⟨h2, Int32.le_trans h4 (nI_le (by omega) (by decide))⟩
  have hmz := (nI_leI (show m < 2 ^ 31 by omega) (show z - a < 2 ^ 31 by omega)).mp h4
  exact ⟨a, m, rfl, rfl, by omega⟩
theorem hrP_nI {a m z : Nat} (hz : z ≤ 40) (h : a + m ≤ z) : hrP (nI a) (nI m) z := by
  refine ⟨nI_le (Nat.zero_le _) (by omega), nI_le (Nat.zero_le _) (by omega), nI_le (by omega) (by omega), ?_⟩
  rw [nI_sub (by omega)]
  exact nI_le (by omega) (by omega)
/-- copied k of m cells, from A to B, in the order that harms nothing -/
def cpF (A B m k : Nat) (g : Nat → Int32) : Nat → Int32 := fun q => if (A < B ∧ B + (m - k) ≤ q ∧ q < B + m) ∨ (¬ A < B ∧ B ≤ q ∧ q < B + k) then g (A + (q - B)) else g q
theorem cpF_0 (A B m : Nat) (g : Nat → Int32) : cpF A B m 0 g = g := by
  funext q
  unfold cpF
  rw [if_neg (by omega)]
theorem cpF_r {A B m k x : Nat} {g : Nat → Int32} (hk : k < m) (hx : x = if A < B then m - 1 - k else k) : cpF A B m k g (A + x) = g (A + x) := by
  unfold cpF
  rw [if_neg]
  subst hx
  split <;> omega
theorem cpF_s {A B m k x : Nat} {g : Nat → Int32} (hk : k < m) (hx : x = if A < B then m - 1 - k else k) : upd (cpF A B m k g) (B + x) (g (A + x)) = cpF A B m (k + 1) g := by
  funext q
  unfold upd cpF
  by_cases hq : q = B + x
  · subst hq
    rw [if_pos rfl, if_pos (by subst hx; split <;> omega), Nat.add_sub_cancel_left]
  · rw [if_neg hq]
    by_cases hAB : A < B
    · rw [if_pos hAB] at hx
      by_cases h2 : B + (m - k) ≤ q ∧ q < B + m
      · rw [if_pos (Or.inl ⟨hAB, h2⟩), if_pos (Or.inl ⟨hAB, by omega, by omega⟩)]
      · rw [if_neg (by omega), if_neg (by omega)]
    · rw [if_neg hAB] at hx
      by_cases h2 : B ≤ q ∧ q < B + k
      · rw [if_pos (Or.inr ⟨hAB, h2⟩), if_pos (Or.inr ⟨hAB, by omega, by omega⟩)]
      · rw [if_neg (by omega), if_neg (by omega)]
theorem cpF_m (A B m : Nat) (g : Nat → Int32) (q : Nat) : cpF A B m m g q = if B ≤ q ∧ q < B + m then g (A + (q - B)) else g q := by
  unfold cpF
  by_cases h : B ≤ q ∧ q < B + m
  · rw [if_pos h, if_pos (by omega)]
  · rw [if_neg h, if_neg (by omega)]
section S9983
variable {L : Nat} {xs : Nat → Int32} {d : Nat} {w w' : x_W} {S nt r : Nat} {kd td mo kt : Nat → Nat} {tls : Nat → Nat → Nat} {tks : Nat → Nat → Nat → Nat} {so : Nat → Int32} {sz : Nat → Nat}
theorem S104 (hs : Sh w) {s : Nat} (h4 : s < 4) {i n : Int32} {z : Nat} (hz : x_i w (14 + 2 * s) 1 = nI z) {Q : Option Value → x_W → Prop} : X_R L xs d 104 0 [.ref (14 + 2 * s), .int i, .int n] [] w Q = Q (some (.int (@bI (hrP i n z) (hrP_dec i n z)))) w := by
  obtain ⟨r1, r2, r3, r4⟩ := g_sh hs s h4
  by_cases h : hrP i n z
  · rw [@bI_t _ (hrP_dec i n z) h]
    obtain ⟨h1, h2, h3, h5⟩ := h
    simp only [X104_0, X104_1, X104_4, X104_5, X104_8, X104_9, X104_10, X104_13, X104_16, X104_17, X104_18, X104_21, X104_22, X104_23, X104_26, X104_27, X104_30, X104_31, Nat.zero_le, and_true, true_and, x_nb0, x_nb1, x_nbp, x_isL_int, x_isL_ref, x_isL_junk, x_isR_ref, x_cat_nil, x_cat_int, x_cat_ref, x_cat_long, Option.toList_some, Option.toList_none, List.cons_append, List.nil_append, Nat.reduceAdd, Nat.reduceLeDiff, Nat.reduceLT, t_tag_si, t_tag_sr, t_tag_sI, x_r_si, x_i_sr, t_r_sI, x_ia_si, x_ia_sI, x_ia_sr, x_ra_si, x_ra_sI, x_ra_sr, r2, hz, Int32.not_lt.mpr h1, Int32.not_lt.mpr h2, Int32.not_lt.mpr h3, Int32.not_lt.mpr h5, if_false]
  · rw [@bI_f _ (hrP_dec i n z) h]
    by_cases h1 : i < nI 0
    · simp only [X104_0, X104_1, X104_4, X104_5, X104_8, X104_9, X104_10, X104_13, X104_16, X104_17, X104_18, X104_21, X104_22, X104_23, X104_26, X104_27, X104_30, X104_31, Nat.zero_le, and_true, true_and, x_nb0, x_nb1, x_nbp, x_isL_int, x_isL_ref, x_isL_junk, x_isR_ref, x_cat_nil, x_cat_int, x_cat_ref, x_cat_long, Option.toList_some, Option.toList_none, List.cons_append, List.nil_append, Nat.reduceAdd, Nat.reduceLeDiff, Nat.reduceLT, t_tag_si, t_tag_sr, t_tag_sI, x_r_si, x_i_sr, t_r_sI, x_ia_si, x_ia_sI, x_ia_sr, x_ra_si, x_ra_sI, x_ra_sr, h1, if_true]
    · by_cases h2 : n < nI 0
      · simp only [X104_0, X104_1, X104_4, X104_5, X104_8, X104_9, X104_10, X104_13, X104_16, X104_17, X104_18, X104_21, X104_22, X104_23, X104_26, X104_27, X104_30, X104_31, Nat.zero_le, and_true, true_and, x_nb0, x_nb1, x_nbp, x_isL_int, x_isL_ref, x_isL_junk, x_isR_ref, x_cat_nil, x_cat_int, x_cat_ref, x_cat_long, Option.toList_some, Option.toList_none, List.cons_append, List.nil_append, Nat.reduceAdd, Nat.reduceLeDiff, Nat.reduceLT, t_tag_si, t_tag_sr, t_tag_sI, x_r_si, x_i_sr, t_r_sI, x_ia_si, x_ia_sI, x_ia_sr, x_ra_si, x_ra_sI, x_ra_sr, h1, h2, if_false, if_true]
      · by_cases h3 : nI z < i
        · simp only [X104_0, X104_1, X104_4, X104_5, X104_8, X104_9, X104_10, X104_13, X104_16, X104_17, X104_18, X104_21, X104_22, X104_23, X104_26, X104_27, X104_30, X104_31, Nat.zero_le, and_true, true_and, x_nb0, x_nb1, x_nbp, x_isL_int, x_isL_ref, x_isL_junk, x_isR_ref, x_cat_nil, x_cat_int, x_cat_ref, x_cat_long, Option.toList_some, Option.toList_none, List.cons_append, List.nil_append, Nat.reduceAdd, Nat.reduceLeDiff, Nat.reduceLT, t_tag_si, t_tag_sr, t_tag_sI, x_r_si, x_i_sr, t_r_sI, x_ia_si, x_ia_sI, x_ia_sr, x_ra_si, x_ra_sI, x_ra_sr, r2, hz, h1, h2, h3, if_false, if_true]
        · have h5 : nI z - i < n := Int32.not_le.mp (fun q => h ⟨Int32.not_lt.mp h1, Int32.not_lt.mp h2, Int32.not_lt.mp h3, q⟩)
          simp only [X104_0, X104_1, X104_4, X104_5, X104_8, X104_9, X104_10, X104_13, X104_16, X104_17, X104_18, X104_21, X104_22, X104_23, X104_26, X104_27, X104_30, X104_31, Nat.zero_le, and_true, true_and, x_nb0, x_nb1, x_nbp, x_isL_int, x_isL_ref, x_isL_junk, x_isR_ref, x_cat_nil, x_cat_int, x_cat_ref, x_cat_long, Option.toList_some, Option.toList_none, List.cons_append, List.nil_append, Nat.reduceAdd, Nat.reduceLeDiff, Nat.reduceLT, t_tag_si, t_tag_sr, t_tag_sI, x_r_si, x_i_sr, t_r_sI, x_ia_si, x_ia_sI, x_ia_sr, x_ra_si, x_ra_sI, x_ra_sr, r2, hz, h1, h2, h3, h5, if_false, if_true]
theorem n1l (m k : Nat) (h : k < m) : nI m - nI 1 - nI k = nI (m - 1 - k) := by rw [nI_sub (by omega), nI_sub (by omega)]
theorem S228l (hs : Sh w) {A B m : Nat} (hA : A + m ≤ 160) (hB : B + m ≤ 160) {v1 v2 v3 v4 : Int32} {Q : Option Value → x_W → Prop} : ∀ n k, k + n = m → ∀ u9 : Value, x_isL u9 = false → X_R L xs d 228 147 [.ref 41, .int v1, .int v2, .int v3, .int v4, .int (nI m), .int (nI A), .int (nI B), .int (nI k), u9] [] (x_sI w 54 (cpF A B m k (x_i w 54))) Q = Q (some (.int (nI m))) (x_sI w 54 (cpF A B m m (x_i w 54))) := by
  intro n
  induction n with
  | zero =>
    intro k hk u9 h9
    obtain rfl : k = m := by omega
    rw [X228_147]
    simp only [X228_149, X228_151, X228_201, X228_203, Nat.zero_le, and_true, true_and, x_nb0, x_nb1, x_nbp, x_isL_int, x_isL_ref, x_isL_junk, x_isR_ref, x_cat_nil, x_cat_int, x_cat_ref, x_cat_long, Option.toList_some, Option.toList_none, List.cons_append, List.nil_append, Nat.reduceAdd, Nat.reduceLeDiff, Nat.reduceLT, t_tag_si, t_tag_sr, t_tag_sI, x_r_si, x_i_sr, t_r_sI, x_ia_si, x_ia_sI, x_ia_sr, x_ra_si, x_ra_sI, x_ra_sr, nI_leT (Nat.le_refl k) (show k < 2 ^ 31 by omega), if_true]
  | succ n ih =>
    intro k hk u9 h9
    obtain ⟨x, hx⟩ : ∃ x, x = if A < B then m - 1 - k else k := ⟨_, rfl⟩
    have hxm : x < m := by subst hx; split <;> omega
    have e1 := cpF_r (g := x_i w 54) (show k < m by omega) hx
    have e2 := cpF_s (g := x_i w 54) (show k < m by omega) hx
    have ax := x_ix_nI (show A + x < 160 by omega) (show 160 < 2 ^ 31 by decide)
    have ac := nI_cl (show A + x < 2 ^ 31 by omega)
    have bx := x_ix_nI (show B + x < 160 by omega) (show 160 < 2 ^ 31 by decide)
    have bc := nI_cl (show B + x < 2 ^ 31 by omega)
    have e54 : x_i (x_sI w 54 (cpF A B m k (x_i w 54))) 54 = cpF A B m k (x_i w 54) := x_i_sI _ _ _
    rw [← ih (k + 1) (by omega) (.int (nI x)) rfl, X228_147]
    by_cases hAB : A < B
    · have hx' : m - 1 - k = x := by rw [hx, if_pos hAB]
      simp only [X228_149, X228_151, X228_154, X228_156, X228_158, X228_161, X228_163, X228_164, X228_165, X228_167, X228_168, X228_173, X228_175, X228_176, X228_179, X228_181, X228_183, X228_184, X228_185, X228_188, X228_190, X228_192, X228_193, X228_194, X228_195, X228_198, Nat.zero_le, and_true, true_and, x_nb0, x_nb1, x_nbp, x_isL_int, x_isL_ref, x_isL_junk, x_isR_ref, x_cat_nil, x_cat_int, x_cat_ref, x_cat_long, Option.toList_some, Option.toList_none, List.cons_append, List.nil_append, Nat.reduceAdd, Nat.reduceLeDiff, Nat.reduceLT, t_tag_si, t_tag_sr, t_tag_sI, x_r_si, x_i_sr, t_r_sI, x_ia_si, x_ia_sI, x_ia_sr, x_ra_si, x_ra_sI, x_ra_sr, h9, nI_leF (show k < m by omega) (show m < 2 ^ 31 by omega), if_false, nI_leF hAB (show B < 2 ^ 31 by omega), n1l m k (by omega), hx', nI_add, g_t41 hs, g_r41_21 hs, g_a54 hs, ax, ac, bx, bc, e54, e1, x_si_sI, e2]
    · have hx' : k = x := by rw [hx, if_neg hAB]
      rw [← hx'] at e1 e2 ax ac bx bc ⊢
      simp only [X228_149, X228_151, X228_154, X228_156, X228_158, X228_171, X228_173, X228_175, X228_176, X228_179, X228_181, X228_183, X228_184, X228_185, X228_188, X228_190, X228_192, X228_193, X228_194, X228_195, X228_198, Nat.zero_le, and_true, true_and, x_nb0, x_nb1, x_nbp, x_isL_int, x_isL_ref, x_isL_junk, x_isR_ref, x_cat_nil, x_cat_int, x_cat_ref, x_cat_long, Option.toList_some, Option.toList_none, List.cons_append, List.nil_append, Nat.reduceAdd, Nat.reduceLeDiff, Nat.reduceLT, t_tag_si, t_tag_sr, t_tag_sI, x_r_si, x_i_sr, t_r_sI, x_ia_si, x_ia_sI, x_ia_sr, x_ra_si, x_ra_sI, x_ra_sr, h9, nI_leF (show k < m by omega) (show m < 2 ^ 31 by omega), if_false, nI_leT (Nat.not_lt.mp hAB) (show A < 2 ^ 31 by omega), if_true, nI_add, g_t41 hs, g_r41_21 hs, g_a54 hs, ax, ac, bx, bc, e54, e1, x_si_sI, e2]
theorem CA_copy (hJ : J w S kd td mo kt nt r tls tks so sz) (u i v j n : Int32) : CA L xs (d + 12) 48 228 [.ref 0, .int u, .int i, .int v, .int j, .int n, x_junk, x_junk] [.ref 41, .int u, .int i, .int v, .int j, .int n, x_junk, x_junk, x_junk, x_junk] w := by
  have hs := hJ.sh
  by_cases hu : shn u
  · have e37 : ∀ (w : x_W) (Q' : Option Value → x_W → Prop), X_R L xs (d + 11) 37 0 [.int u] [] w Q' = Q' (some (.int (nI 1))) w := fun w Q' => by rw [S37 (d := d + 10), bI_t hu]
    have e138 := fun (w : x_W) (Q' : Option Value → x_W → Prop) => b138 (L := L) (xs := xs) (d := d + 11) (w := w) (Q := Q') hu
    by_cases hv : shn v
    · have f37 : ∀ (w : x_W) (Q' : Option Value → x_W → Prop), X_R L xs (d + 11) 37 0 [.int v] [] w Q' = Q' (some (.int (nI 1))) w := fun w Q' => by rw [S37 (d := d + 10), bI_t hv]
      have f138' := fun (w : x_W) (Q' : Option Value → x_W → Prop) => b138 (L := L) (xs := xs) (d := d + 11) (w := w) (Q := Q') hv
      obtain ⟨s, h4, rfl⟩ := sh_of hu
      obtain ⟨o, o4, rfl⟩ := sh_of hv
      obtain ⟨r1, r2, r3, r4⟩ := g_sh hs s h4
      obtain ⟨p1, p2, p3, p4⟩ := g_sh hs o o4
      have sx := x_ix_nI h4 (show 4 < 2 ^ 31 by decide)
      have sc' := nI_cl (show s < 2 ^ 31 by omega)
      have ox := x_ix_nI o4 (show 4 < 2 ^ 31 by decide)
      have oc := nI_cl (show o < 2 ^ 31 by omega)
      obtain ⟨⟨q1, q2, q3, q4⟩, q5, q6, q7⟩ := hJ.2.1 s h4
      obtain ⟨⟨t1, t2, t3, t4⟩, t5, t6, t7⟩ := hJ.2.1 o o4
      by_cases h1 : so s = -1
      · refine CA_no (v := .int (-11)) hJ (fun Q => ?_) (fun Q => ?_)
        · simp only [X48_0, X48_1, X48_4, X48_7, X48_8, X48_11, X48_17, X48_18, X48_21, X48_22, X48_23, X48_25, X48_26, X48_29, X48_30, X48_31, X48_33, X48_35, X48_38, X48_39, X48_51, X48_53, Nat.zero_le, and_true, true_and, x_nb0, x_nb1, x_nbp, x_isL_int, x_isL_ref, x_isL_junk, x_isR_ref, x_cat_nil, x_cat_int, x_cat_ref, x_cat_long, Option.toList_some, Option.toList_none, List.cons_append, List.nil_append, Nat.reduceAdd, Nat.reduceLeDiff, Nat.reduceLT, t_tag_si, t_tag_sr, t_tag_sI, x_r_si, x_i_sr, t_r_sI, x_ia_si, x_ia_sI, x_ia_sr, x_ra_si, x_ra_sI, x_ra_sr, e37, f37, n10, if_false, g_t0 hs, g_r0_6 hs, g_a6 hs, sx, sc', ox, oc, r1, r2, p1, p2, q1, h1, if_true]
        · simp only [X228_0, X228_1, X228_2, X228_3, X228_6, X228_9, X228_10, X228_11, X228_12, X228_15, X228_21, X228_22, X228_25, X228_26, X228_27, X228_28, X228_41, X228_43, Nat.zero_le, and_true, true_and, x_nb0, x_nb1, x_nbp, x_isL_int, x_isL_ref, x_isL_junk, x_isR_ref, x_cat_nil, x_cat_int, x_cat_ref, x_cat_long, Option.toList_some, Option.toList_none, List.cons_append, List.nil_append, Nat.reduceAdd, Nat.reduceLeDiff, Nat.reduceLT, t_tag_si, t_tag_sr, t_tag_sI, x_r_si, x_i_sr, t_r_sI, x_ia_si, x_ia_sI, x_ia_sr, x_ra_si, x_ra_sI, x_ra_sr, e138, f138', n10, if_false, g_t41 hs, g_r41_19 hs, g_a52 hs, sx, sc', q3, h1, if_true]
      · by_cases h2 : so o = -1
        · refine CA_no (v := .int (-11)) hJ (fun Q => ?_) (fun Q => ?_)
          · simp only [X48_0, X48_1, X48_4, X48_7, X48_8, X48_11, X48_17, X48_18, X48_21, X48_22, X48_23, X48_25, X48_26, X48_29, X48_30, X48_31, X48_33, X48_35, X48_38, X48_39, X48_42, X48_44, X48_47, X48_48, X48_51, X48_53, Nat.zero_le, and_true, true_and, x_nb0, x_nb1, x_nbp, x_isL_int, x_isL_ref, x_isL_junk, x_isR_ref, x_cat_nil, x_cat_int, x_cat_ref, x_cat_long, Option.toList_some, Option.toList_none, List.cons_append, List.nil_append, Nat.reduceAdd, Nat.reduceLeDiff, Nat.reduceLT, t_tag_si, t_tag_sr, t_tag_sI, x_r_si, x_i_sr, t_r_sI, x_ia_si, x_ia_sI, x_ia_sr, x_ra_si, x_ra_sI, x_ra_sr, e37, f37, n10, if_false, g_t0 hs, g_r0_6 hs, g_a6 hs, sx, sc', ox, oc, r1, r2, p1, p2, q1, t1, eq_false h1, eq_true h2, if_true]
          · simp only [X228_0, X228_1, X228_2, X228_3, X228_6, X228_9, X228_10, X228_11, X228_12, X228_15, X228_21, X228_22, X228_25, X228_26, X228_27, X228_28, X228_31, X228_32, X228_35, X228_36, X228_37, X228_38, X228_41, X228_43, Nat.zero_le, and_true, true_and, x_nb0, x_nb1, x_nbp, x_isL_int, x_isL_ref, x_isL_junk, x_isR_ref, x_cat_nil, x_cat_int, x_cat_ref, x_cat_long, Option.toList_some, Option.toList_none, List.cons_append, List.nil_append, Nat.reduceAdd, Nat.reduceLeDiff, Nat.reduceLT, t_tag_si, t_tag_sr, t_tag_sI, x_r_si, x_i_sr, t_r_sI, x_ia_si, x_ia_sI, x_ia_sr, x_ra_si, x_ra_sI, x_ra_sr, e138, f138', n10, if_false, g_t41 hs, g_r41_19 hs, g_a52 hs, sx, sc', ox, oc, q3, t3, eq_false h1, eq_true h2, if_true]
        · by_cases h3 : so s = so o
          · have e104s := fun (Q' : Option Value → x_W → Prop) => S104 (L := L) (xs := xs) (d := d + 11) hs h4 (i := i) (n := n) q2 (Q := Q')
            have e104o := fun (Q' : Option Value → x_W → Prop) => S104 (L := L) (xs := xs) (d := d + 11) hs o4 (i := j) (n := n) t2 (Q := Q')
            by_cases g1 : hrP i n (sz s)
            · rw [@bI_t _ (hrP_dec _ _ _) g1] at e104s
              by_cases g2 : hrP j n (sz o)
              · rw [@bI_t _ (hrP_dec _ _ _) g2] at e104o
                obtain ⟨a, m, rfl, rfl, ham⟩ := hrP_of q5 g1
                obtain ⟨b, m', rfl, hmm, hbm⟩ := hrP_of t5 g2
                have gm : m' = m := by
                  have hm40 : m' < 2 ^ 31 := by omega
                  exact ((nI_eq (show m < 2 ^ 31 by omega) hm40).mp hmm).symm
                rw [gm] at hbm
                have t15s : x_tag w (15 + 2 * s) = some (1, 40) := four (p := fun s => x_tag w (15 + 2 * s) = some (1, 40)) ⟨g_t15 hs, g_t17 hs, g_t19 hs, g_t21 hs⟩ s h4
                have t15o : x_tag w (15 + 2 * o) = some (1, 40) := four (p := fun s => x_tag w (15 + 2 * s) = some (1, 40)) ⟨g_t15 hs, g_t17 hs, g_t19 hs, g_t21 hs⟩ o o4
                obtain ⟨n15s, _⟩ := tn_of t15s
                obtain ⟨n15o, _⟩ := tn_of t15o
                have ca := nI_cl (show a < 2 ^ 31 by omega)
                have cb := nI_cl (show b < 2 ^ 31 by omega)
                have cm := nI_cl (show m < 2 ^ 31 by omega)
                have hneg : ¬ (nI m < 0 ∨ nI a < 0 ∨ nI b < 0) := by
                  rintro (q | q | q)
                  · exact nI_pos (show m < 2 ^ 31 by omega) q
                  · exact nI_pos (show a < 2 ^ 31 by omega) q
                  · exact nI_pos (show b < 2 ^ 31 by omega) q
                have la : a + m ≤ 40 := by omega
                have lb : b + m ≤ 40 := by omega
                have c1 : Ch pH w (x_sI w (15 + 2 * o) (va_cpy (x_i w (15 + 2 * s)) (x_i w (15 + 2 * o)) a b m)) := Ch_sI (fun k => (pH_s o o4 k).2)
                have hs1 := c1.sh hs
                have i1 : x_i (x_sI w (15 + 2 * o) (va_cpy (x_i w (15 + 2 * s)) (x_i w (15 + 2 * o)) a b m)) (15 + 2 * o) = va_cpy (x_i w (15 + 2 * s)) (x_i w (15 + 2 * o)) a b m := x_i_sI _ _ _
                have i2 : ∀ z, z ≠ 15 + 2 * o → x_i (x_sI w (15 + 2 * o) (va_cpy (x_i w (15 + 2 * s)) (x_i w (15 + 2 * o)) a b m)) z = x_i w z := fun z hz => x_i_sIn _ _ _ hz
                have e48 : ∀ Q, X_R L xs (d + 12) 48 0 [.ref 0, .int (nI s), .int (nI a), .int (nI o), .int (nI b), .int (nI m), x_junk, x_junk] [] w Q = Q (some (.int (nI m))) (x_sI w (15 + 2 * o) (va_cpy (x_i w (15 + 2 * s)) (x_i w (15 + 2 * o)) a b m)) := by
                  intro Q
                  simp only [X48_0, X48_1, X48_4, X48_7, X48_8, X48_11, X48_14, X48_16, X48_17, X48_18, X48_21, X48_22, X48_23, X48_25, X48_26, X48_29, X48_30, X48_31, X48_33, X48_35, X48_38, X48_39, X48_42, X48_44, X48_47, X48_48, X48_51, X48_53, X48_54, X48_56, X48_59, X48_61, X48_64, X48_67, X48_69, X48_70, X48_72, X48_73, X48_75, X48_78, X48_81, X48_83, X48_85, X48_87, X48_90, X48_93, X48_95, X48_96, X48_98, X48_101, X48_102, X48_104, X48_107, X48_109, X48_111, X48_114, X48_116, Nat.zero_le, and_true, true_and, x_nb0, x_nb1, x_nbp, x_isL_int, x_isL_ref, x_isL_junk, x_isR_ref, x_cat_nil, x_cat_int, x_cat_ref, x_cat_long, Option.toList_some, Option.toList_none, List.cons_append, List.nil_append, Nat.reduceAdd, Nat.reduceLeDiff, Nat.reduceLT, t_tag_si, t_tag_sr, t_tag_sI, x_r_si, x_i_sr, t_r_sI, x_ia_si, x_ia_sI, x_ia_sr, x_ra_si, x_ra_sI, x_ra_sr, e37, f37, n10, if_false, g_t0 hs, g_r0_6 hs, g_a6 hs, sx, sc', ox, oc, r1, r2, r3, p1, p2, p3, q1, t1, eq_false h1, eq_false h2, eq_true h3, if_true, e104s, e104o, t15s, t15o, n15s, n15o, ca, cb, cm, hneg, not_false_eq_true, la, lb]
                generalize x_sI w (15 + 2 * o) (va_cpy (x_i w (15 + 2 * s)) (x_i w (15 + 2 * o)) a b m) = w1 at *
                have l2 := fun Q => S228l (L := L) (xs := xs) (d := d + 12) hs1 (A := 40 * s + a) (B := 40 * o + b) (m := m) (by omega) (by omega) (v1 := nI s) (v2 := nI a) (v3 := nI o) (v4 := nI b) (Q := Q) m 0 (by omega) x_junk rfl
                rw [cpF_0, x_sI_id] at l2
                have k54 : x_i (x_sI w1 54 (cpF (40 * s + a) (40 * o + b) m m (x_i w1 54))) 54 = cpF (40 * s + a) (40 * o + b) m m (x_i w 54) := by rw [x_i_sI, i2 54 (by omega)]
                have ko : ∀ z, z ≠ 54 → x_i (x_sI w1 54 (cpF (40 * s + a) (40 * o + b) m m (x_i w1 54))) z = x_i w1 z := fun z hz => x_i_sIn _ _ _ hz
                have c2 : Ch pH w1 (x_sI w1 54 (cpF (40 * s + a) (40 * o + b) m m (x_i w1 54))) := Ch_sI (fun _ => rfl)
                generalize x_sI w1 54 (cpF (40 * s + a) (40 * o + b) m m (x_i w1 54)) = w2 at *
                have cc := c1.trans c2
                have hSH : SHT w2 so sz := by
                  intro z hz
                  obtain ⟨⟨z1, z2, z3, z4⟩, z5, z6, z7⟩ := hJ.2.1 z hz
                  rw [ko _ (by omega), ko 52 (by decide), ko 53 (by decide), ko (15 + 2 * z) (by omega), i2 _ (by omega), i2 52 (by omega), i2 53 (by omega), k54]
                  refine ⟨⟨z1, z2, z3, z4⟩, z5, z6, fun k hk => ?_⟩
                  rw [cpF_m]
                  by_cases hzo : z = o
                  · subst hzo
                    rw [i1]
                    by_cases hkb : b ≤ k ∧ k < b + m
                    · rw [pk_cpy_in hkb.1 hkb.2, if_pos (by omega), show 40 * s + a + (40 * z + k - (40 * z + b)) = 40 * s + (a + (k - b)) by omega]
                      exact q7 (a + (k - b)) (by omega)
                    · rw [pk_cpy_out (by omega), if_neg (by omega)]
                      exact z7 k hk
                  · rw [i2 _ (by omega), if_neg (by omega)]
                    exact z7 k hk
                have hF : FarOk w2 := hJ.ag.1.2.2.of (cc.2.2 23 6 rfl) (cc.i (fun _ => rfl)) (cc.i (fun _ => rfl))
                have p52s : x_i w1 52 s = so s := by rw [i2 52 (by omega)]; exact q3
                have p52o : x_i w1 52 o = so o := by rw [i2 52 (by omega)]; exact t3
                have p53s : x_i w1 53 s = nI (sz s) := by rw [i2 53 (by omega)]; exact q4
                have p53o : x_i w1 53 o = nI (sz o) := by rw [i2 53 (by omega)]; exact t4
                have nn : ∀ z, z ≤ 40 → (nI z < nI 0) = False := fun z hz => nI_nlt0 (by omega)
                refine ⟨.int (nI m), w1, w2, (hJ.sht cc KA_H hF ⟨fun _ => ⟨rfl, rfl, rfl, rfl, rfl, rfl, rfl, rfl⟩, rfl, rfl, rfl, rfl, rfl, rfl⟩ hSH).jj, e48, fun Q => ?_⟩
                rw [← l2 Q]
                simp only [X228_0, X228_1, X228_2, X228_3, X228_6, X228_9, X228_10, X228_11, X228_12, X228_15, X228_21, X228_22, X228_25, X228_26, X228_27, X228_28, X228_31, X228_32, X228_35, X228_36, X228_37, X228_38, X228_44, X228_45, X228_48, X228_49, X228_50, X228_51, X228_54, X228_55, X228_56, X228_62, X228_64, X228_67, X228_68, X228_71, X228_73, X228_76, X228_77, X228_78, X228_81, X228_82, X228_83, X228_86, X228_88, X228_89, X228_92, X228_93, X228_94, X228_97, X228_99, X228_100, X228_103, X228_104, X228_105, X228_106, X228_107, X228_110, X228_112, X228_113, X228_116, X228_117, X228_118, X228_120, X228_121, X228_127, X228_129, X228_130, X228_131, X228_132, X228_133, X228_135, X228_137, X228_138, X228_139, X228_141, X228_142, X228_144, X228_145, Nat.zero_le, and_true, true_and, x_nb0, x_nb1, x_nbp, x_isL_int, x_isL_ref, x_isL_junk, x_isR_ref, x_cat_nil, x_cat_int, x_cat_ref, x_cat_long, Option.toList_some, Option.toList_none, List.cons_append, List.nil_append, Nat.reduceAdd, Nat.reduceLeDiff, Nat.reduceLT, t_tag_si, t_tag_sr, t_tag_sI, x_r_si, x_i_sr, t_r_sI, x_ia_si, x_ia_sI, x_ia_sr, x_ra_si, x_ra_sI, x_ra_sr, e138, f138', n10, if_false, g_t41 hs1, g_r41_19 hs1, g_a52 hs1, sx, sc', ox, oc, p52s, p52o, eq_false h1, eq_false h2, eq_true h3, if_true, nn m (by omega), nn a (by omega), nn b (by omega), g_r41_20 hs1, g_a53 hs1, p53s, p53o, nI_ltF (show a ≤ sz s by omega) (show sz s < 2 ^ 31 by omega), nI_ltF (show b ≤ sz o by omega) (show sz o < 2 ^ 31 by omega), nI_sub (show a ≤ sz s by omega), nI_sub (show b ≤ sz o by omega), nI_ltF (show m ≤ sz s - a by omega) (show sz s - a < 2 ^ 31 by omega), nI_leT (show m ≤ sz o - b by omega) (show sz o - b < 2 ^ 31 by omega), nI_mul, nI_add]
              · rw [@bI_f _ (hrP_dec _ _ _) g2] at e104o
                refine CA_no (v := .int (-12)) hJ (fun Q => ?_) (fun Q => ?_)
                · simp only [X48_0, X48_1, X48_4, X48_7, X48_8, X48_11, X48_14, X48_16, X48_17, X48_18, X48_21, X48_22, X48_23, X48_25, X48_26, X48_29, X48_30, X48_31, X48_33, X48_35, X48_38, X48_39, X48_42, X48_44, X48_47, X48_48, X48_51, X48_53, X48_54, X48_56, X48_59, X48_61, X48_64, X48_67, X48_69, X48_70, X48_72, X48_73, X48_75, X48_78, X48_81, X48_83, X48_85, X48_87, X48_90, X48_93, X48_95, X48_96, X48_98, X48_101, X48_102, X48_104, X48_107, X48_109, X48_111, X48_114, X48_116, Nat.zero_le, and_true, true_and, x_nb0, x_nb1, x_nbp, x_isL_int, x_isL_ref, x_isL_junk, x_isR_ref, x_cat_nil, x_cat_int, x_cat_ref, x_cat_long, Option.toList_some, Option.toList_none, List.cons_append, List.nil_append, Nat.reduceAdd, Nat.reduceLeDiff, Nat.reduceLT, t_tag_si, t_tag_sr, t_tag_sI, x_r_si, x_i_sr, t_r_sI, x_ia_si, x_ia_sI, x_ia_sr, x_ra_si, x_ra_sI, x_ra_sr, e37, f37, n10, if_false, g_t0 hs, g_r0_6 hs, g_a6 hs, sx, sc', ox, oc, r1, r2, p1, p2, q1, t1, eq_false h1, eq_false h2, eq_true h3, if_true, e104s, e104o]
                · have hb1 : ¬ (nI 0 ≤ j ∧ j ≤ nI (sz o) ∧ n ≤ nI (sz o) - j) := fun q => g2 ⟨q.1, g1.2.1, q.2.1, q.2.2⟩
                  obtain ⟨g3, g4, g5, g6⟩ := g1
                  by_cases y1 : j < nI 0
                  · simp only [X228_0, X228_1, X228_2, X228_3, X228_6, X228_9, X228_10, X228_11, X228_12, X228_15, X228_21, X228_22, X228_25, X228_26, X228_27, X228_28, X228_31, X228_32, X228_35, X228_36, X228_37, X228_38, X228_44, X228_45, X228_48, X228_49, X228_50, X228_51, X228_54, X228_55, X228_56, X228_62, X228_64, X228_67, X228_68, X228_71, X228_73, X228_124, X228_126, Nat.zero_le, and_true, true_and, x_nb0, x_nb1, x_nbp, x_isL_int, x_isL_ref, x_isL_junk, x_isR_ref, x_cat_nil, x_cat_int, x_cat_ref, x_cat_long, Option.toList_some, Option.toList_none, List.cons_append, List.nil_append, Nat.reduceAdd, Nat.reduceLeDiff, Nat.reduceLT, t_tag_si, t_tag_sr, t_tag_sI, x_r_si, x_i_sr, t_r_sI, x_ia_si, x_ia_sI, x_ia_sr, x_ra_si, x_ra_sI, x_ra_sr, e138, f138', n10, if_false, g_t41 hs, g_r41_19 hs, g_a52 hs, sx, sc', ox, oc, q3, t3, eq_false h1, eq_false h2, eq_true h3, if_true, Int32.not_lt.mpr g4, Int32.not_lt.mpr g3, y1]
                  · by_cases y2 : nI (sz o) < j
                    · simp only [X228_0, X228_1, X228_2, X228_3, X228_6, X228_9, X228_10, X228_11, X228_12, X228_15, X228_21, X228_22, X228_25, X228_26, X228_27, X228_28, X228_31, X228_32, X228_35, X228_36, X228_37, X228_38, X228_44, X228_45, X228_48, X228_49, X228_50, X228_51, X228_54, X228_55, X228_56, X228_62, X228_64, X228_67, X228_68, X228_71, X228_73, X228_76, X228_77, X228_78, X228_81, X228_82, X228_83, X228_86, X228_88, X228_89, X228_92, X228_93, X228_94, X228_124, X228_126, Nat.zero_le, and_true, true_and, x_nb0, x_nb1, x_nbp, x_isL_int, x_isL_ref, x_isL_junk, x_isR_ref, x_cat_nil, x_cat_int, x_cat_ref, x_cat_long, Option.toList_some, Option.toList_none, List.cons_append, List.nil_append, Nat.reduceAdd, Nat.reduceLeDiff, Nat.reduceLT, t_tag_si, t_tag_sr, t_tag_sI, x_r_si, x_i_sr, t_r_sI, x_ia_si, x_ia_sI, x_ia_sr, x_ra_si, x_ra_sI, x_ra_sr, e138, f138', n10, if_false, g_t41 hs, g_r41_19 hs, g_a52 hs, sx, sc', ox, oc, q3, t3, eq_false h1, eq_false h2, eq_true h3, if_true, Int32.not_lt.mpr g4, Int32.not_lt.mpr g3, y1, g_r41_20 hs, g_a53 hs, q4, t4, Int32.not_lt.mpr g5, y2]
                    · have y3 : ¬ n ≤ nI (sz o) - j := fun q => hb1 ⟨Int32.not_lt.mp y1, Int32.not_lt.mp y2, q⟩
                      simp only [X228_0, X228_1, X228_2, X228_3, X228_6, X228_9, X228_10, X228_11, X228_12, X228_15, X228_21, X228_22, X228_25, X228_26, X228_27, X228_28, X228_31, X228_32, X228_35, X228_36, X228_37, X228_38, X228_44, X228_45, X228_48, X228_49, X228_50, X228_51, X228_54, X228_55, X228_56, X228_62, X228_64, X228_67, X228_68, X228_71, X228_73, X228_76, X228_77, X228_78, X228_81, X228_82, X228_83, X228_86, X228_88, X228_89, X228_92, X228_93, X228_94, X228_97, X228_99, X228_100, X228_103, X228_104, X228_105, X228_106, X228_107, X228_110, X228_112, X228_113, X228_116, X228_117, X228_118, X228_120, X228_121, X228_124, X228_126, Nat.zero_le, and_true, true_and, x_nb0, x_nb1, x_nbp, x_isL_int, x_isL_ref, x_isL_junk, x_isR_ref, x_cat_nil, x_cat_int, x_cat_ref, x_cat_long, Option.toList_some, Option.toList_none, List.cons_append, List.nil_append, Nat.reduceAdd, Nat.reduceLeDiff, Nat.reduceLT, t_tag_si, t_tag_sr, t_tag_sI, x_r_si, x_i_sr, t_r_sI, x_ia_si, x_ia_sI, x_ia_sr, x_ra_si, x_ra_sI, x_ra_sr, e138, f138', n10, if_false, g_t41 hs, g_r41_19 hs, g_a52 hs, sx, sc', ox, oc, q3, t3, eq_false h1, eq_false h2, eq_true h3, if_true, Int32.not_lt.mpr g4, Int32.not_lt.mpr g3, y1, g_r41_20 hs, g_a53 hs, q4, t4, Int32.not_lt.mpr g5, y2, Int32.not_lt.mpr g6, y3]
            · rw [@bI_f _ (hrP_dec _ _ _) g1] at e104s
              refine CA_no (v := .int (-12)) hJ (fun Q => ?_) (fun Q => ?_)
              · simp only [X48_0, X48_1, X48_4, X48_7, X48_8, X48_11, X48_14, X48_16, X48_17, X48_18, X48_21, X48_22, X48_23, X48_25, X48_26, X48_29, X48_30, X48_31, X48_33, X48_35, X48_38, X48_39, X48_42, X48_44, X48_47, X48_48, X48_51, X48_53, X48_54, X48_56, X48_59, X48_61, X48_64, X48_67, X48_69, X48_70, X48_72, X48_73, X48_75, X48_78, X48_81, X48_83, X48_85, X48_87, X48_90, X48_93, X48_95, X48_96, X48_98, X48_101, X48_102, X48_104, X48_107, X48_109, X48_111, X48_114, X48_116, Nat.zero_le, and_true, true_and, x_nb0, x_nb1, x_nbp, x_isL_int, x_isL_ref, x_isL_junk, x_isR_ref, x_cat_nil, x_cat_int, x_cat_ref, x_cat_long, Option.toList_some, Option.toList_none, List.cons_append, List.nil_append, Nat.reduceAdd, Nat.reduceLeDiff, Nat.reduceLT, t_tag_si, t_tag_sr, t_tag_sI, x_r_si, x_i_sr, t_r_sI, x_ia_si, x_ia_sI, x_ia_sr, x_ra_si, x_ra_sI, x_ra_sr, e37, f37, n10, if_false, g_t0 hs, g_r0_6 hs, g_a6 hs, sx, sc', ox, oc, r1, r2, p1, p2, q1, t1, eq_false h1, eq_false h2, eq_true h3, if_true, e104s]
              · by_cases y1 : n < nI 0
                · simp only [X228_0, X228_1, X228_2, X228_3, X228_6, X228_9, X228_10, X228_11, X228_12, X228_15, X228_21, X228_22, X228_25, X228_26, X228_27, X228_28, X228_31, X228_32, X228_35, X228_36, X228_37, X228_38, X228_44, X228_45, X228_48, X228_49, X228_50, X228_51, X228_54, X228_55, X228_56, X228_62, X228_64, X228_124, X228_126, Nat.zero_le, and_true, true_and, x_nb0, x_nb1, x_nbp, x_isL_int, x_isL_ref, x_isL_junk, x_isR_ref, x_cat_nil, x_cat_int, x_cat_ref, x_cat_long, Option.toList_some, Option.toList_none, List.cons_append, List.nil_append, Nat.reduceAdd, Nat.reduceLeDiff, Nat.reduceLT, t_tag_si, t_tag_sr, t_tag_sI, x_r_si, x_i_sr, t_r_sI, x_ia_si, x_ia_sI, x_ia_sr, x_ra_si, x_ra_sI, x_ra_sr, e138, f138', n10, if_false, g_t41 hs, g_r41_19 hs, g_a52 hs, sx, sc', ox, oc, q3, t3, eq_false h1, eq_false h2, eq_true h3, if_true, y1]
                · by_cases y2 : i < nI 0
                  · simp only [X228_0, X228_1, X228_2, X228_3, X228_6, X228_9, X228_10, X228_11, X228_12, X228_15, X228_21, X228_22, X228_25, X228_26, X228_27, X228_28, X228_31, X228_32, X228_35, X228_36, X228_37, X228_38, X228_44, X228_45, X228_48, X228_49, X228_50, X228_51, X228_54, X228_55, X228_56, X228_62, X228_64, X228_67, X228_68, X228_124, X228_126, Nat.zero_le, and_true, true_and, x_nb0, x_nb1, x_nbp, x_isL_int, x_isL_ref, x_isL_junk, x_isR_ref, x_cat_nil, x_cat_int, x_cat_ref, x_cat_long, Option.toList_some, Option.toList_none, List.cons_append, List.nil_append, Nat.reduceAdd, Nat.reduceLeDiff, Nat.reduceLT, t_tag_si, t_tag_sr, t_tag_sI, x_r_si, x_i_sr, t_r_sI, x_ia_si, x_ia_sI, x_ia_sr, x_ra_si, x_ra_sI, x_ra_sr, e138, f138', n10, if_false, g_t41 hs, g_r41_19 hs, g_a52 hs, sx, sc', ox, oc, q3, t3, eq_false h1, eq_false h2, eq_true h3, if_true, y1, y2]
                  · by_cases y3 : j < nI 0
                    · simp only [X228_0, X228_1, X228_2, X228_3, X228_6, X228_9, X228_10, X228_11, X228_12, X228_15, X228_21, X228_22, X228_25, X228_26, X228_27, X228_28, X228_31, X228_32, X228_35, X228_36, X228_37, X228_38, X228_44, X228_45, X228_48, X228_49, X228_50, X228_51, X228_54, X228_55, X228_56, X228_62, X228_64, X228_67, X228_68, X228_71, X228_73, X228_124, X228_126, Nat.zero_le, and_true, true_and, x_nb0, x_nb1, x_nbp, x_isL_int, x_isL_ref, x_isL_junk, x_isR_ref, x_cat_nil, x_cat_int, x_cat_ref, x_cat_long, Option.toList_some, Option.toList_none, List.cons_append, List.nil_append, Nat.reduceAdd, Nat.reduceLeDiff, Nat.reduceLT, t_tag_si, t_tag_sr, t_tag_sI, x_r_si, x_i_sr, t_r_sI, x_ia_si, x_ia_sI, x_ia_sr, x_ra_si, x_ra_sI, x_ra_sr, e138, f138', n10, if_false, g_t41 hs, g_r41_19 hs, g_a52 hs, sx, sc', ox, oc, q3, t3, eq_false h1, eq_false h2, eq_true h3, if_true, y1, y2, y3]
                    · by_cases y4 : nI (sz s) < i
                      · simp only [X228_0, X228_1, X228_2, X228_3, X228_6, X228_9, X228_10, X228_11, X228_12, X228_15, X228_21, X228_22, X228_25, X228_26, X228_27, X228_28, X228_31, X228_32, X228_35, X228_36, X228_37, X228_38, X228_44, X228_45, X228_48, X228_49, X228_50, X228_51, X228_54, X228_55, X228_56, X228_62, X228_64, X228_67, X228_68, X228_71, X228_73, X228_76, X228_77, X228_78, X228_81, X228_82, X228_83, X228_124, X228_126, Nat.zero_le, and_true, true_and, x_nb0, x_nb1, x_nbp, x_isL_int, x_isL_ref, x_isL_junk, x_isR_ref, x_cat_nil, x_cat_int, x_cat_ref, x_cat_long, Option.toList_some, Option.toList_none, List.cons_append, List.nil_append, Nat.reduceAdd, Nat.reduceLeDiff, Nat.reduceLT, t_tag_si, t_tag_sr, t_tag_sI, x_r_si, x_i_sr, t_r_sI, x_ia_si, x_ia_sI, x_ia_sr, x_ra_si, x_ra_sI, x_ra_sr, e138, f138', n10, if_false, g_t41 hs, g_r41_19 hs, g_a52 hs, sx, sc', ox, oc, q3, t3, eq_false h1, eq_false h2, eq_true h3, if_true, y1, y2, y3, g_r41_20 hs, g_a53 hs, q4, y4]
                      · by_cases y5 : nI (sz o) < j
                        · simp only [X228_0, X228_1, X228_2, X228_3, X228_6, X228_9, X228_10, X228_11, X228_12, X228_15, X228_21, X228_22, X228_25, X228_26, X228_27, X228_28, X228_31, X228_32, X228_35, X228_36, X228_37, X228_38, X228_44, X228_45, X228_48, X228_49, X228_50, X228_51, X228_54, X228_55, X228_56, X228_62, X228_64, X228_67, X228_68, X228_71, X228_73, X228_76, X228_77, X228_78, X228_81, X228_82, X228_83, X228_86, X228_88, X228_89, X228_92, X228_93, X228_94, X228_124, X228_126, Nat.zero_le, and_true, true_and, x_nb0, x_nb1, x_nbp, x_isL_int, x_isL_ref, x_isL_junk, x_isR_ref, x_cat_nil, x_cat_int, x_cat_ref, x_cat_long, Option.toList_some, Option.toList_none, List.cons_append, List.nil_append, Nat.reduceAdd, Nat.reduceLeDiff, Nat.reduceLT, t_tag_si, t_tag_sr, t_tag_sI, x_r_si, x_i_sr, t_r_sI, x_ia_si, x_ia_sI, x_ia_sr, x_ra_si, x_ra_sI, x_ra_sr, e138, f138', n10, if_false, g_t41 hs, g_r41_19 hs, g_a52 hs, sx, sc', ox, oc, q3, t3, eq_false h1, eq_false h2, eq_true h3, if_true, y1, y2, y3, g_r41_20 hs, g_a53 hs, q4, t4, y4, y5]
                        · have y6 : nI (sz s) - i < n := Int32.not_le.mp (fun q => g1 ⟨Int32.not_lt.mp y2, Int32.not_lt.mp y1, Int32.not_lt.mp y4, q⟩)
                          simp only [X228_0, X228_1, X228_2, X228_3, X228_6, X228_9, X228_10, X228_11, X228_12, X228_15, X228_21, X228_22, X228_25, X228_26, X228_27, X228_28, X228_31, X228_32, X228_35, X228_36, X228_37, X228_38, X228_44, X228_45, X228_48, X228_49, X228_50, X228_51, X228_54, X228_55, X228_56, X228_62, X228_64, X228_67, X228_68, X228_71, X228_73, X228_76, X228_77, X228_78, X228_81, X228_82, X228_83, X228_86, X228_88, X228_89, X228_92, X228_93, X228_94, X228_97, X228_99, X228_100, X228_103, X228_104, X228_105, X228_106, X228_107, X228_124, X228_126, Nat.zero_le, and_true, true_and, x_nb0, x_nb1, x_nbp, x_isL_int, x_isL_ref, x_isL_junk, x_isR_ref, x_cat_nil, x_cat_int, x_cat_ref, x_cat_long, Option.toList_some, Option.toList_none, List.cons_append, List.nil_append, Nat.reduceAdd, Nat.reduceLeDiff, Nat.reduceLT, t_tag_si, t_tag_sr, t_tag_sI, x_r_si, x_i_sr, t_r_sI, x_ia_si, x_ia_sI, x_ia_sr, x_ra_si, x_ra_sI, x_ra_sr, e138, f138', n10, if_false, g_t41 hs, g_r41_19 hs, g_a52 hs, sx, sc', ox, oc, q3, t3, eq_false h1, eq_false h2, eq_true h3, if_true, y1, y2, y3, g_r41_20 hs, g_a53 hs, q4, t4, y4, y5, y6]
          · refine CA_no (v := .int (-13)) hJ (fun Q => ?_) (fun Q => ?_)
            · simp only [X48_0, X48_1, X48_4, X48_7, X48_8, X48_11, X48_17, X48_18, X48_21, X48_22, X48_23, X48_25, X48_26, X48_29, X48_30, X48_31, X48_33, X48_35, X48_38, X48_39, X48_42, X48_44, X48_47, X48_48, X48_54, X48_56, X48_59, X48_61, X48_64, X48_67, X48_69, Nat.zero_le, and_true, true_and, x_nb0, x_nb1, x_nbp, x_isL_int, x_isL_ref, x_isL_junk, x_isR_ref, x_cat_nil, x_cat_int, x_cat_ref, x_cat_long, Option.toList_some, Option.toList_none, List.cons_append, List.nil_append, Nat.reduceAdd, Nat.reduceLeDiff, Nat.reduceLT, t_tag_si, t_tag_sr, t_tag_sI, x_r_si, x_i_sr, t_r_sI, x_ia_si, x_ia_sI, x_ia_sr, x_ra_si, x_ra_sI, x_ra_sr, e37, f37, n10, if_false, g_t0 hs, g_r0_6 hs, g_a6 hs, sx, sc', ox, oc, r1, r2, p1, p2, q1, t1, eq_false h1, eq_false h2, eq_false h3]
            · simp only [X228_0, X228_1, X228_2, X228_3, X228_6, X228_9, X228_10, X228_11, X228_12, X228_15, X228_21, X228_22, X228_25, X228_26, X228_27, X228_28, X228_31, X228_32, X228_35, X228_36, X228_37, X228_38, X228_44, X228_45, X228_48, X228_49, X228_50, X228_51, X228_54, X228_55, X228_56, X228_59, X228_61, Nat.zero_le, and_true, true_and, x_nb0, x_nb1, x_nbp, x_isL_int, x_isL_ref, x_isL_junk, x_isR_ref, x_cat_nil, x_cat_int, x_cat_ref, x_cat_long, Option.toList_some, Option.toList_none, List.cons_append, List.nil_append, Nat.reduceAdd, Nat.reduceLeDiff, Nat.reduceLT, t_tag_si, t_tag_sr, t_tag_sI, x_r_si, x_i_sr, t_r_sI, x_ia_si, x_ia_sI, x_ia_sr, x_ra_si, x_ra_sI, x_ra_sr, e138, f138', n10, if_false, g_t41 hs, g_r41_19 hs, g_a52 hs, sx, sc', ox, oc, q3, t3, eq_false h1, eq_false h2, eq_false h3]
    · refine CA_no (v := .int (-2)) hJ (fun Q => ?_) (fun Q => ?_)
      · simp only [X48_0, X48_1, X48_4, X48_7, X48_8, X48_11, X48_14, X48_16, Nat.zero_le, and_true, true_and, x_nb0, x_nb1, x_nbp, x_isL_int, x_isL_ref, x_isL_junk, x_isR_ref, x_cat_nil, x_cat_int, x_cat_ref, x_cat_long, Option.toList_some, Option.toList_none, List.cons_append, List.nil_append, Nat.reduceAdd, Nat.reduceLeDiff, Nat.reduceLT, t_tag_si, t_tag_sr, t_tag_sI, x_r_si, x_i_sr, t_r_sI, x_ia_si, x_ia_sI, x_ia_sr, x_ra_si, x_ra_sI, x_ra_sr, e37, n10, if_false, S37, bI_f hv, if_true]
      · simp only [X228_0, X228_1, X228_2, X228_3, X228_6, X228_9, X228_10, X228_11, X228_12, X228_15, X228_18, X228_20, Nat.zero_le, and_true, true_and, x_nb0, x_nb1, x_nbp, x_isL_int, x_isL_ref, x_isL_junk, x_isR_ref, x_cat_nil, x_cat_int, x_cat_ref, x_cat_long, Option.toList_some, Option.toList_none, List.cons_append, List.nil_append, Nat.reduceAdd, Nat.reduceLeDiff, Nat.reduceLT, t_tag_si, t_tag_sr, t_tag_sI, x_r_si, x_i_sr, t_r_sI, x_ia_si, x_ia_sI, x_ia_sr, x_ra_si, x_ra_sI, x_ra_sr, e138, n10, if_false, f138 hv, if_true]
  · refine CA_no (v := .int (-2)) hJ (fun Q => ?_) (fun Q => ?_)
    · simp only [X48_0, X48_1, X48_4, X48_14, X48_16, Nat.zero_le, and_true, true_and, x_nb0, x_nb1, x_nbp, x_isL_int, x_isL_ref, x_isL_junk, x_isR_ref, x_cat_nil, x_cat_int, x_cat_ref, x_cat_long, Option.toList_some, Option.toList_none, List.cons_append, List.nil_append, Nat.reduceAdd, Nat.reduceLeDiff, Nat.reduceLT, t_tag_si, t_tag_sr, t_tag_sI, x_r_si, x_i_sr, t_r_sI, x_ia_si, x_ia_sI, x_ia_sr, x_ra_si, x_ra_sI, x_ra_sr, S37, bI_f hu, if_true]
    · simp only [X228_0, X228_1, X228_2, X228_3, X228_6, X228_18, X228_20, Nat.zero_le, and_true, true_and, x_nb0, x_nb1, x_nbp, x_isL_int, x_isL_ref, x_isL_junk, x_isR_ref, x_cat_nil, x_cat_int, x_cat_ref, x_cat_long, Option.toList_some, Option.toList_none, List.cons_append, List.nil_append, Nat.reduceAdd, Nat.reduceLeDiff, Nat.reduceLT, t_tag_si, t_tag_sr, t_tag_sI, x_r_si, x_i_sr, t_r_sI, x_ia_si, x_ia_sI, x_ia_sr, x_ra_si, x_ra_sI, x_ra_sr, f138 hu, if_true]
end S9983
