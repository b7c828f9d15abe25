/-! ===== the calls roll, rolled ===== -/
def chL (b k : Nat) : Bool := orc (orc (sc SA) 30) 46 b k
/-- answered alike, and all lie alike afterwards -/
def AL (L : Nat) (xs : Nat → Int32) (d mx mm : Nat) (ax am : List Value) (w : x_W) : Prop := ∃ (v : Value) (w1 w' : x_W) (kt' : Nat → Nat), Ch chL w w' ∧ FarOk w' ∧ (∀ q, q < 6 → x_i w' 30 q = nI (kt' q) ∧ x_i w' 46 q = nI (kt' q) ∧ kt' q < 20) ∧ (∀ Q, X_R L xs d mx 0 ax [] w Q = Q (some v) w1) ∧ ∀ Q, X_R L xs d mm 0 am [] w1 Q = Q (some v) w'
theorem chL_30 {l : List Nat} {w w' : x_W} (h : Ch (orc (sc l) 30) w w') (hl : (l.all fun x => SA.elem x) = true) : Ch chL w w' := h.mono fun b k hb => by
  unfold chL orc at *
  rw [Bool.or_eq_false_iff, Bool.or_eq_false_iff] at hb
  rw [sc_sub (elem_sub hl) hb.1.1, hb.1.2]
  rfl
theorem chL_46 {l : List Nat} {w w' : x_W} (h : Ch (orc (sm l) 46) w w') (hl : (l.all fun x => SA.elem x) = true) : Ch chL w w' := (orc_ma h hl).mono fun b k hb => by
  unfold chL orc at *
  rw [Bool.or_eq_false_iff, Bool.or_eq_false_iff] at hb
  rw [hb.1.1, hb.2]
  rfl
section S993
variable {L : Nat} {xs : Nat → Int32} {d : Nat} {w w' : x_W} {S : Nat} {kd td mo kt tl : Nat → Nat} {tk : Nat → Nat → Nat}
/-- the class lies as the reference does: the reference's run may follow -/
theorem EM_of30 (h : EM w S kd td mo kt tl tk) {l : List Nat} (hc : Ch (orc (sc l) 30) w w') (hl : (l.all fun x => SA.elem x) = true) : EM w' S kd td mo kt tl tk := by
  have hc' := orc_a hc hl
  refine ⟨h.1.gen hc' rfl (fun _ => ⟨rfl, rfl, rfl, rfl⟩), ?_⟩
  obtain ⟨r, r6, hr, hp⟩ := h.2
  refine ⟨r, r6, by rw [hc'.2.2 41 12 rfl]; exact hr, fun p p3 => ?_⟩
  unfold PartM
  rw [hc'.i (fun k => rfl : ∀ k, orc (sc SA) 30 49 k = false), hc'.i (fun k => rfl : ∀ k, orc (sc SA) 30 48 k = false)]
  exact hp p p3
theorem b138 {v lo hi : Int32} (h : lo ≤ v ∧ v ≤ hi) {Q : Option Value → x_W → Prop} : X_R L xs d 138 0 [.int v, .int lo, .int hi] [] w Q = Q (some (.int (nI 1))) w := by rw [S138, bI_t h]
theorem b10 {v lo hi : Int32} (h : lo ≤ v ∧ v ≤ hi) {Q : Option Value → x_W → Prop} : X_R L xs d 10 0 [.int v, .int lo, .int hi] [] w Q = Q (some (.int (nI 1))) w := by rw [S10, bI_t h]
theorem f138 {v lo hi : Int32} (h : ¬ (lo ≤ v ∧ v ≤ hi)) {Q : Option Value → x_W → Prop} : X_R L xs d 138 0 [.int v, .int lo, .int hi] [] w Q = Q (some (.int (nI 0))) w := by rw [S138, bI_f h]
theorem f10 {v lo hi : Int32} (h : ¬ (lo ≤ v ∧ v ≤ hi)) {Q : Option Value → x_W → Prop} : X_R L xs d 10 0 [.int v, .int lo, .int hi] [] w Q = Q (some (.int (nI 0))) w := by rw [S10, bI_f h]
/-- a number within bounds -/
theorem in_of {v M : Int32} {n : Nat} (hM : M.toInt = n) (h : nI 0 ≤ v ∧ v ≤ M) : ∃ j, j ≤ n ∧ v = nI j := nI_of2 hM (Int32.not_lt.mpr h.1) h.2
theorem AL_no {mx mm : Nat} {ax am : List Value} {v : Value} (h : AG w S kd td mo kt tl tk) (h1 : ∀ Q, X_R L xs d mx 0 ax [] w Q = Q (some v) w) (h2 : ∀ Q, X_R L xs d mm 0 am [] w Q = Q (some v) w) : AL L xs d mx mm ax am w := ⟨v, w, w, kt, Ch.refl, h.1.2.2, fun q hq => ⟨(h.1.1.X.1 q hq).2.2.2, (h.2.1.1.M q hq).2.2.2.1, (h.1.1.bd q hq).2.2.2⟩, h1, h2⟩
/-- both roll -/
theorem rollXM (h : AG w S kd td mo kt tl tk) {w0 : x_W} (c0 : ChA w w0) (hF0 : FarOk w0) {N : Nat} (hN : N ≤ 20) : ∃ (kt' : Nat → Nat) (C : Nat) (w1 : x_W), (∀ q, q < 6 → kt' q < 20) ∧ (∀ q, S ≤ q → kt' q = kt q) ∧ Ch (orc (sc LC) 30) w0 w1 ∧ FarOk w1 ∧ (∀ q, x_i w1 30 q = if q < S then nI (kt' q) else x_i w 30 q) ∧ (∀ Q, X_R L xs (d + 6) 59 0 [.ref 22, .int (nI N), x_junk, x_junk] [] w0 Q = Q (some (.int (nI C))) w1) ∧ ∀ w2, EM w2 S kd td mo kt tl tk → x_i w2 42 = x_i w 42 → x_i w2 41 1 = x_i w 41 1 → ∃ w3, Ch (orc (sm LM) 46) w2 w3 ∧ (∀ q, x_i w3 46 q = if q < S then nI (kt' q) else x_i w2 46 q) ∧ ∀ Q, X_R L xs (d + 6) 184 0 [.ref 41, .int (nI N), x_junk, x_junk] [] w2 Q = Q (some (.int (nI C))) w3 := by
  have h6 := h.1.1.S6
  have hkt : ∀ q, q < 6 → kt q < 20 := fun q hq => (h.1.1.bd q hq).2.2.2
  obtain ⟨w1, c1, hF1, hl1, e1⟩ := S59 (L := L) (xs := xs) (d := d) (h.1.ch c0 hF0) hN
  have e24 : x_i w0 24 = x_i w 24 := EX.C c0
  have e231 : x_i w0 23 1 = x_i w 23 1 := c0.2.2 23 1 rfl
  have e30 : x_i w0 30 = x_i w 30 := c0.i (fun _ => rfl)
  rw [e24, e231] at hl1 e1
  have hK := rlK_lt (C := x_i w 24) (T := x_i w 23 1) (S := S) (kd := kd) (td := td) (mo := mo) (tl := tl) (tk := tk) hkt N
  have hhi : ∀ q, S ≤ q → rlK (rtX (x_i w 24) (x_i w 23 1) S kd td mo tl tk) S kt N q = kt q := fun q hq => rlK_hi hq N
  have hcg := rl_cg h.2.2.1.1 (x_i w 23 1) h6 kd td mo tl tk hkt N
  refine ⟨rlK (rtX (x_i w 24) (x_i w 23 1) S kd td mo tl tk) S kt N, rlC (rtX (x_i w 24) (x_i w 23 1) S kd td mo tl tk) S kt N, w1, hK, hhi, c1, hF1, ?_, e1, fun w2 hM2 e42 e411 => ?_⟩
  · intro q
    rw [hl1 q, e30]
  · obtain ⟨w3, c3, hl3, e3⟩ := S184 (L := L) (xs := xs) (d := d) hM2 hN
    rw [e42, e411, ← h.2.2.1.2] at hl3 e3
    rw [← hcg.1] at hl3
    rw [← hcg.2] at e3
    exact ⟨w3, c3, hl3, e3⟩
theorem AL_roll (h : AG w S kd td mo kt tl tk) (v : Int32) : AL L xs (d + 12) 21 183 [.ref 0, .int v] [.ref 41, .int v] w := by
  have hs := h.1.sh
  have h6 := h.1.1.S6
  by_cases hv : nI 0 ≤ v ∧ v ≤ nI 20
  · obtain ⟨N, hN, rfl⟩ := in_of (n := 20) rfl hv
    have e10 := fun (Q' : Option Value → x_W → Prop) => b10 (L := L) (xs := xs) (d := d + 11) (w := w) (Q := Q') hv
    obtain ⟨kt', C, w1, hk20, hhi, c1, hF1, hl1, e1, hM⟩ := rollXM (L := L) (xs := xs) (d := d + 5) h Ch.refl h.1.2.2 hN
    have hM1 := EM_of30 h.2.1 c1 rfl
    have hs1 := hM1.sh
    obtain ⟨w3, c3, hl3, e3⟩ := hM w1 hM1 (c1.i (fun _ => rfl)) (c1.2.2 41 1 rfl)
    have e138 := fun (Q' : Option Value → x_W → Prop) => b138 (L := L) (xs := xs) (d := d + 11) (w := w1) (Q := Q') hv
    have e461 : x_i w1 46 = x_i w 46 := c1.i (fun _ => rfl)
    refine ⟨.int (nI C), w1, w3, kt', (chL_30 c1 rfl).trans (chL_46 c3 rfl), hF1.of (c3.2.2 23 6 rfl) (c3.i (fun _ => rfl)) (c3.i (fun _ => rfl)), fun q hq => ⟨?_, ?_, hk20 q hq⟩, fun Q => ?_, fun Q => ?_⟩
    · rw [c3.i (fun _ => rfl : ∀ k, orc (sm LM) 46 30 k = false), hl1 q]
      by_cases hqS : q < S
      · rw [if_pos hqS]
      · rw [if_neg hqS, hhi q (by omega)]; exact (h.1.1.X.1 q hq).2.2.2
    · rw [hl3 q, e461]
      by_cases hqS : q < S
      · rw [if_pos hqS]
      · rw [if_neg hqS, hhi q (by omega)]; exact (h.2.1.1.M q hq).2.2.2.1
    · simp only [X21_0, X21_1, X21_2, X21_4, X21_7, X21_10, X21_12, X21_13, X21_14, X21_17, X21_18, X21_21, Nat.zero_le, and_true, true_and, x_nb0, x_nb1, x_nbp, x_isL_int, x_isL_ref, x_isL_junk, x_isR_ref, x_cat_nil, x_cat_int, x_cat_ref, x_cat_long, Option.toList_some, Option.toList_none, List.cons_append, List.nil_append, Nat.reduceAdd, Nat.reduceLeDiff, Nat.reduceLT, t_tag_si, t_tag_sr, t_tag_sI, x_r_si, x_i_sr, t_r_sI, x_ia_si, x_ia_sI, x_ia_sr, x_ra_si, x_ra_sI, x_ra_sr, e10, n10, if_false, g_t0 hs, g_r0_4 hs, g_t22 hs, e1]
    · simp only [X183_0, X183_1, X183_2, X183_4, X183_7, X183_10, X183_11, X183_12, X183_15, X183_18, X183_20, Nat.zero_le, and_true, true_and, x_nb0, x_nb1, x_nbp, x_isL_int, x_isL_ref, x_isL_junk, x_isR_ref, x_cat_nil, x_cat_int, x_cat_ref, x_cat_long, Option.toList_some, Option.toList_none, List.cons_append, List.nil_append, Nat.reduceAdd, Nat.reduceLeDiff, Nat.reduceLT, t_tag_si, t_tag_sr, t_tag_sI, x_r_si, x_i_sr, t_r_sI, x_ia_si, x_ia_sI, x_ia_sr, x_ra_si, x_ra_sI, x_ra_sr, e138, n10, if_false, g_t41 hs1, e3]
  · refine AL_no (v := .int (-2)) h (fun Q => ?_) (fun Q => ?_)
    · simp only [X21_0, X21_1, X21_2, X21_4, X21_7, X21_10, X21_12, X21_13, X21_14, X21_17, X21_18, X21_21, Nat.zero_le, and_true, true_and, x_nb0, x_nb1, x_nbp, x_isL_int, x_isL_ref, x_isL_junk, x_isR_ref, x_cat_nil, x_cat_int, x_cat_ref, x_cat_long, Option.toList_some, Option.toList_none, List.cons_append, List.nil_append, Nat.reduceAdd, Nat.reduceLeDiff, Nat.reduceLT, t_tag_si, t_tag_sr, t_tag_sI, x_r_si, x_i_sr, t_r_sI, x_ia_si, x_ia_sI, x_ia_sr, x_ra_si, x_ra_sI, x_ra_sr, f10 hv, if_true]
    · simp only [X183_0, X183_1, X183_2, X183_4, X183_7, X183_10, X183_11, X183_12, X183_15, X183_18, X183_20, Nat.zero_le, and_true, true_and, x_nb0, x_nb1, x_nbp, x_isL_int, x_isL_ref, x_isL_junk, x_isR_ref, x_cat_nil, x_cat_int, x_cat_ref, x_cat_long, Option.toList_some, Option.toList_none, List.cons_append, List.nil_append, Nat.reduceAdd, Nat.reduceLeDiff, Nat.reduceLT, t_tag_si, t_tag_sr, t_tag_sI, x_r_si, x_i_sr, t_r_sI, x_ia_si, x_ia_sI, x_ia_sr, x_ra_si, x_ra_sI, x_ra_sr, f138 hv, if_true]
theorem tn_of {w : x_W} {a n : Nat} (h : x_tag w a = some (1, n)) : x_tn w a = n ∧ x_tag w a = some (1, x_tn w a) := by
  have e : x_tn w a = n := by unfold x_tn; rw [h]; rfl
  rw [e]
  exact ⟨rfl, h⟩
theorem neg6 : ¬ (nI 6 < 0 ∨ nI 0 < 0 ∨ nI 0 < 0) := by decide
theorem cl0 : (nI 0).toNatClampNeg = 0 := nI_cl (by decide)
theorem cl6 : (nI 6).toNatClampNeg = 6 := nI_cl (by decide)
theorem S62 (hs : Sh w) {Q : Option Value → x_W → Prop} : X_R L xs d 62 0 [.ref 22] [] w Q = Q none (x_sI w 31 (va_cpy (x_i w 30) (x_i w 31) 0 0 6)) := by
  obtain ⟨a1, a2⟩ := tn_of (g_t30 hs)
  obtain ⟨b1, b2⟩ := tn_of (g_t31 hs)
  have l1 : (nI 0).toNatClampNeg + (nI 6).toNatClampNeg ≤ x_tn w 30 := by rw [a1]; decide
  have l2 : (nI 0).toNatClampNeg + (nI 6).toNatClampNeg ≤ x_tn w 31 := by rw [b1]; decide
  rw [a1] at a2
  rw [b1] at b2
  simp only [X62_0, X62_1, X62_4, X62_5, X62_6, X62_9, X62_10, X62_12, X62_15, Nat.zero_le, and_true, true_and, x_nb0, x_nb1, x_nbp, x_isL_int, x_isL_ref, x_isL_junk, x_isR_ref, x_cat_nil, x_cat_int, x_cat_ref, x_cat_long, Option.toList_some, Option.toList_none, List.cons_append, List.nil_append, Nat.reduceAdd, Nat.reduceLeDiff, Nat.reduceLT, t_tag_si, t_tag_sr, t_tag_sI, x_r_si, x_i_sr, t_r_sI, x_ia_si, x_ia_sI, x_ia_sr, x_ra_si, x_ra_sI, x_ra_sr, g_t22 hs, g_r22_3 hs, g_r22_5 hs, g_t30 hs, g_t31 hs, a1, b1, neg6, not_false_eq_true, cl0, cl6]
theorem S63 (hs : Sh w) {Q : Option Value → x_W → Prop} : X_R L xs d 63 0 [.ref 22] [] w Q = Q none (x_sI w 30 (va_cpy (x_i w 31) (x_i w 30) 0 0 6)) := by
  obtain ⟨a1, a2⟩ := tn_of (g_t30 hs)
  obtain ⟨b1, b2⟩ := tn_of (g_t31 hs)
  simp only [X63_0, X63_1, X63_4, X63_5, X63_6, X63_9, X63_10, X63_12, X63_15, Nat.zero_le, and_true, true_and, x_nb0, x_nb1, x_nbp, x_isL_int, x_isL_ref, x_isL_junk, x_isR_ref, x_cat_nil, x_cat_int, x_cat_ref, x_cat_long, Option.toList_some, Option.toList_none, List.cons_append, List.nil_append, Nat.reduceAdd, Nat.reduceLeDiff, Nat.reduceLT, t_tag_si, t_tag_sr, t_tag_sI, x_r_si, x_i_sr, t_r_sI, x_ia_si, x_ia_sI, x_ia_sr, x_ra_si, x_ra_sI, x_ra_sr, g_t22 hs, g_r22_3 hs, g_r22_5 hs, g_t30 hs, g_t31 hs, a1, b1, neg6, not_false_eq_true, cl0, cl6]
theorem S188 (hs : Sh w) {Q : Option Value → x_W → Prop} : X_R L xs d 188 0 [.ref 41, x_junk] [] w Q = Q none (x_sI w 64 (x_fn 6 (x_i w 46) (x_i w 64))) := by
  have loop : ∀ n j, j + n = 6 → X_R L xs d 188 2 [.ref 41, .int (nI j)] [] (x_sI w 64 (x_fn j (x_i w 46) (x_i w 64))) Q = Q none (x_sI w 64 (x_fn 6 (x_i w 46) (x_i w 64))) := by
    intro n
    induction n with
    | zero =>
      intro j hj
      obtain rfl : j = 6 := by omega
      rw [X188_2]
      simp only [X188_3, X188_5, X188_26, Nat.zero_le, and_true, true_and, x_nb0, x_nb1, x_nbp, x_isL_int, x_isL_ref, x_isL_junk, x_isR_ref, x_cat_nil, x_cat_int, x_cat_ref, x_cat_long, Option.toList_some, Option.toList_none, List.cons_append, List.nil_append, Nat.reduceAdd, Nat.reduceLeDiff, Nat.reduceLT, t_tag_si, t_tag_sr, t_tag_sI, x_r_si, x_i_sr, t_r_sI, x_ia_si, x_ia_sI, x_ia_sr, x_ra_si, x_ra_sI, x_ra_sr, nI_leT (Nat.le_refl 6) (show 6 < 2 ^ 31 by decide), if_true]
    | succ n ih =>
      intro j hj
      have jx := x_ix_nI (show j < 6 by omega) (show 6 < 2 ^ 31 by decide)
      have jc := nI_cl (show j < 2 ^ 31 by omega)
      have hsA : Sh (x_sI w 64 (x_fn j (x_i w 46) (x_i w 64))) := hs
      have e46 : x_i (x_sI w 64 (x_fn j (x_i w 46) (x_i w 64))) 46 = x_i w 46 := x_i_sIn _ _ _ (by decide)
      rw [← ih (j + 1) (by omega), X188_2]
      simp only [X188_3, X188_5, X188_8, X188_9, X188_12, X188_13, X188_14, X188_17, X188_18, X188_19, X188_20, X188_23, Nat.zero_le, and_true, true_and, x_nb0, x_nb1, x_nbp, x_isL_int, x_isL_ref, x_isL_junk, x_isR_ref, x_cat_nil, x_cat_int, x_cat_ref, x_cat_long, Option.toList_some, Option.toList_none, List.cons_append, List.nil_append, Nat.reduceAdd, Nat.reduceLeDiff, Nat.reduceLT, t_tag_si, t_tag_sr, t_tag_sI, x_r_si, x_i_sr, t_r_sI, x_ia_si, x_ia_sI, x_ia_sr, x_ra_si, x_ra_sI, x_ra_sr, nI_leF (show j < 6 by omega) (show 6 < 2 ^ 31 by decide), if_false, g_t41 hsA, g_r41_38 hs, g_r41_6 hs, g_t41 hs, g_a64 hs, g_a46 hs, jx, jc, e46, x_si_sI, x_fn_s, nI_add]
  have e := loop 6 0 rfl
  rw [x_fn_0, x_sI_id] at e
  rw [← e]
  simp only [X188_0, X188_1, Nat.zero_le, and_true, true_and, x_nb0, x_nb1, x_nbp, x_isL_int, x_isL_ref, x_isL_junk, x_isR_ref, x_cat_nil, x_cat_int, x_cat_ref, x_cat_long, Option.toList_some, Option.toList_none, List.cons_append, List.nil_append, Nat.reduceAdd, Nat.reduceLeDiff, Nat.reduceLT, t_tag_si, t_tag_sr, t_tag_sI, x_r_si, x_i_sr, t_r_sI, x_ia_si, x_ia_sI, x_ia_sr, x_ra_si, x_ra_sI, x_ra_sr]
theorem S189 (hs : Sh w) {Q : Option Value → x_W → Prop} : X_R L xs d 189 0 [.ref 41, x_junk] [] w Q = Q none (x_sI w 46 (x_fn 6 (x_i w 64) (x_i w 46))) := by
  have loop : ∀ n j, j + n = 6 → X_R L xs d 189 2 [.ref 41, .int (nI j)] [] (x_sI w 46 (x_fn j (x_i w 64) (x_i w 46))) Q = Q none (x_sI w 46 (x_fn 6 (x_i w 64) (x_i w 46))) := by
    intro n
    induction n with
    | zero =>
      intro j hj
      obtain rfl : j = 6 := by omega
      rw [X189_2]
      simp only [X189_3, X189_5, X189_26, Nat.zero_le, and_true, true_and, x_nb0, x_nb1, x_nbp, x_isL_int, x_isL_ref, x_isL_junk, x_isR_ref, x_cat_nil, x_cat_int, x_cat_ref, x_cat_long, Option.toList_some, Option.toList_none, List.cons_append, List.nil_append, Nat.reduceAdd, Nat.reduceLeDiff, Nat.reduceLT, t_tag_si, t_tag_sr, t_tag_sI, x_r_si, x_i_sr, t_r_sI, x_ia_si, x_ia_sI, x_ia_sr, x_ra_si, x_ra_sI, x_ra_sr, nI_leT (Nat.le_refl 6) (show 6 < 2 ^ 31 by decide), if_true]
    | succ n ih =>
      intro j hj
      have jx := x_ix_nI (show j < 6 by omega) (show 6 < 2 ^ 31 by decide)
      have jc := nI_cl (show j < 2 ^ 31 by omega)
      have e46 : x_i (x_sI w 46 (x_fn j (x_i w 64) (x_i w 46))) 64 = x_i w 64 := x_i_sIn _ _ _ (by decide)
      rw [← ih (j + 1) (by omega), X189_2]
      simp only [X189_3, X189_5, X189_8, X189_9, X189_12, X189_13, X189_14, X189_17, X189_18, X189_19, X189_20, X189_23, Nat.zero_le, and_true, true_and, x_nb0, x_nb1, x_nbp, x_isL_int, x_isL_ref, x_isL_junk, x_isR_ref, x_cat_nil, x_cat_int, x_cat_ref, x_cat_long, Option.toList_some, Option.toList_none, List.cons_append, List.nil_append, Nat.reduceAdd, Nat.reduceLeDiff, Nat.reduceLT, t_tag_si, t_tag_sr, t_tag_sI, x_r_si, x_i_sr, t_r_sI, x_ia_si, x_ia_sI, x_ia_sr, x_ra_si, x_ra_sI, x_ra_sr, nI_leF (show j < 6 by omega) (show 6 < 2 ^ 31 by decide), if_false, g_r41_38 hs, g_r41_6 hs, g_t41 hs, g_a64 hs, g_a46 hs, jx, jc, e46, x_si_sI, x_fn_s, nI_add]
  have e := loop 6 0 rfl
  rw [x_fn_0, x_sI_id] at e
  rw [← e]
  simp only [X189_0, X189_1, Nat.zero_le, and_true, true_and, x_nb0, x_nb1, x_nbp, x_isL_int, x_isL_ref, x_isL_junk, x_isR_ref, x_cat_nil, x_cat_int, x_cat_ref, x_cat_long, Option.toList_some, Option.toList_none, List.cons_append, List.nil_append, Nat.reduceAdd, Nat.reduceLeDiff, Nat.reduceLT, t_tag_si, t_tag_sr, t_tag_sI, x_r_si, x_i_sr, t_r_sI, x_ia_si, x_ia_sI, x_ia_sr, x_ra_si, x_ra_sI, x_ra_sr]
theorem AQ_rolled (h : AG w S kd td mo kt tl tk) (u v : Int32) : AQ L xs (d + 12) 22 187 [.ref 0, .int u, .int v, x_junk] [.ref 41, .int u, .int v, x_junk] w := by
  have hs := h.1.sh
  have h6 := h.1.1.S6
  have h55 := fun (v : Int32) (Q' : Option Value → x_W → Prop) => S55 (L := L) (xs := xs) (d := d + 11) (v := v) (Q := Q') h.1.1
  by_cases h1 : slp S u
  · by_cases hv : nI 0 ≤ v ∧ v ≤ nI 20
    · obtain ⟨s, hS, rfl⟩ := slp_of h6 h1
      obtain ⟨N, hN, rfl⟩ := in_of (n := 20) rfl hv
      have sx := x_ix_nI (show s < 6 by omega) (show 6 < 2 ^ 31 by decide)
      have sc' := nI_cl (show s < 2 ^ 31 by omega)
      have e10 := fun (Q' : Option Value → x_W → Prop) => b10 (L := L) (xs := xs) (d := d + 11) (w := w) (Q := Q') hv
      have e62 := fun (Q' : Option Value → x_W → Prop) => S62 (L := L) (xs := xs) (d := d + 11) (Q := Q') hs
      have c0 : ChA w (x_sI w 31 (va_cpy (x_i w 30) (x_i w 31) 0 0 6)) := Ch_sI (fun _ => rfl)
      have hF0 : FarOk (x_sI w 31 (va_cpy (x_i w 30) (x_i w 31) 0 0 6)) := h.1.2.2.of (by rw [x_i_sIn _ _ _ (by decide)]) (by rw [x_i_sIn _ _ _ (by decide)]) (by rw [x_i_sIn _ _ _ (by decide)])
      have h31 : x_i (x_sI w 31 (va_cpy (x_i w 30) (x_i w 31) 0 0 6)) 31 = va_cpy (x_i w 30) (x_i w 31) 0 0 6 := x_i_sI _ _ _
      generalize hw0 : x_sI w 31 (va_cpy (x_i w 30) (x_i w 31) 0 0 6) = w0 at *
      obtain ⟨kt', C, w1, hk20, hhi, c1, hF1, hl1, e1, hM⟩ := rollXM (L := L) (xs := xs) (d := d + 5) h c0 hF0 hN
      have hs0 := c0.sh hs
      have hs1 := c1.sh hs0
      have e63 := fun (Q' : Option Value → x_W → Prop) => S63 (L := L) (xs := xs) (d := d + 11) (Q := Q') hs1
      have e311 : x_i w1 31 = va_cpy (x_i w 30) (x_i w 31) 0 0 6 := (c1.i (fun _ => rfl)).trans h31
      have e301 : ∀ q, 6 ≤ q → x_i w1 30 q = x_i w 30 q := fun q hq => by rw [hl1 q, if_neg (by omega)]
      have cell : x_i (x_sI w1 30 (va_cpy (x_i w1 31) (x_i w1 30) 0 0 6)) 30 = x_i w0 30 := by
        rw [x_i_sI, e311]
        funext q
        have e300 : x_i w0 30 = x_i w 30 := c0.i (fun _ => rfl)
        rw [e300]
        by_cases hq : q < 6
        · rw [pk_cpy_in (by omega) (by omega), pk_cpy_in (by omega) (by omega)]
          congr 1
          omega
        · rw [pk_cpy_out (by omega)]
          exact e301 q (by omega)
      have c1' : Ch (sc LC) w0 (x_sI w1 30 (va_cpy (x_i w1 31) (x_i w1 30) 0 0 6)) := (c1.trans Ch_orcI).cell cell
      have hF1' : FarOk (x_sI w1 30 (va_cpy (x_i w1 31) (x_i w1 30) 0 0 6)) := hF1.of (by rw [x_i_sIn _ _ _ (by decide)]) (by rw [x_i_sIn _ _ _ (by decide)]) (by rw [x_i_sIn _ _ _ (by decide)])
      generalize hw1' : x_sI w1 30 (va_cpy (x_i w1 31) (x_i w1 30) 0 0 6) = w1' at *
      have cA := c0.trans (c1'.a rfl)
      have hM1 := h.2.1.ch cA
      have hs1' := hM1.sh
      have e188 := fun (Q' : Option Value → x_W → Prop) => S188 (L := L) (xs := xs) (d := d + 11) (Q := Q') hs1'
      have c2 : Ch (sm [64]) w1' (x_sI w1' 64 (x_fn 6 (x_i w1' 46) (x_i w1' 64))) := Ch_sI (fun _ => rfl)
      have h64 : x_i (x_sI w1' 64 (x_fn 6 (x_i w1' 46) (x_i w1' 64))) 64 = x_fn 6 (x_i w1' 46) (x_i w1' 64) := x_i_sI _ _ _
      generalize hw2 : x_sI w1' 64 (x_fn 6 (x_i w1' 46) (x_i w1' 64)) = w2 at *
      have hM2 := hM1.ch (c2.ma rfl)
      have cA2 := cA.trans (c2.ma rfl)
      obtain ⟨w3, c3, hl3, e3⟩ := hM w2 hM2 (EM.C cA2) (cA2.2.2 41 1 rfl)
      have hs2 := hM2.sh
      have hs3 := c3.sh hs2
      have e189 := fun (Q' : Option Value → x_W → Prop) => S189 (L := L) (xs := xs) (d := d + 11) (Q := Q') hs3
      have e643 : x_i w3 64 = x_fn 6 (x_i w1' 46) (x_i w1' 64) := (c3.i (fun _ => rfl)).trans h64
      have e462 : x_i w2 46 = x_i w1' 46 := c2.i (fun _ => rfl)
      have cell3 : x_i (x_sI w3 46 (x_fn 6 (x_i w3 64) (x_i w3 46))) 46 = x_i w2 46 := by
        rw [x_i_sI, e643, e462]
        funext q
        by_cases hq : q < 6
        · rw [x_fn_in hq, x_fn_in hq]
        · rw [x_fn_out (by omega), hl3 q, if_neg (by omega), e462]
      have c3' : Ch (sm LM) w2 (x_sI w3 46 (x_fn 6 (x_i w3 64) (x_i w3 46))) := (c3.trans Ch_orcI).cell cell3
      have h169' := fun (v : Int32) (Q' : Option Value → x_W → Prop) => S169 (L := L) (xs := xs) (d := d + 10) (v := v) (Q := Q') hM1.1
      have e138 := fun (Q' : Option Value → x_W → Prop) => b138 (L := L) (xs := xs) (d := d + 11) (w := w1') (Q := Q') hv
      have a1 : x_i w1 30 s = nI (kt' s) := by rw [hl1 s, if_pos hS]
      have a3 : x_i w3 46 s = nI (kt' s) := by rw [hl3 s, if_pos hS]
      refine ⟨.int (nI (kt' s)), w1', _, cA2.trans (c3'.ma rfl), (hF1'.m c2 rfl rfl rfl).m c3' rfl rfl rfl, fun Q => ?_, fun Q => ?_⟩
      · simp only [X22_0, X22_1, X22_4, X22_5, X22_8, X22_11, X22_13, X22_14, X22_15, X22_16, X22_18, X22_21, X22_24, X22_26, X22_27, X22_28, X22_31, X22_34, X22_35, X22_38, X22_39, X22_42, X22_42r, X22_43, X22_44, X22_47, X22_50, X22_51, X22_52, X22_53, X22_54, X22_57, X22_60, X22_61, Nat.zero_le, and_true, true_and, x_nb0, x_nb1, x_nbp, x_isL_int, x_isL_ref, x_isL_junk, x_isR_ref, x_cat_nil, x_cat_int, x_cat_ref, x_cat_long, Option.toList_some, Option.toList_none, List.cons_append, List.nil_append, Nat.reduceAdd, Nat.reduceLeDiff, Nat.reduceLT, t_tag_si, t_tag_sr, t_tag_sI, x_r_si, x_i_sr, t_r_sI, x_ia_si, x_ia_sI, x_ia_sr, x_ra_si, x_ra_sI, x_ra_sr, g_t0 hs, g_r0_4 hs, g_t22 hs, h55, bI_t h1, n10, if_false, e10, e62, hw0, g_t0 hs0, g_r0_4 hs0, g_t22 hs0, e1, g_t0 hs1, g_r0_4 hs1, g_t22 hs1, g_r22_3 hs1, g_a30 hs1, sx, sc', a1, e63, hw1']
      · simp only [X187_0, X187_1, X187_2, X187_5, X187_8, X187_10, X187_11, X187_12, X187_13, X187_15, X187_18, X187_21, X187_23, X187_24, X187_25, X187_28, X187_29, X187_30, X187_33, X187_33r, X187_34, X187_35, X187_38, X187_39, X187_40, X187_41, X187_42, X187_45, X187_46, Nat.zero_le, and_true, true_and, x_nb0, x_nb1, x_nbp, x_isL_int, x_isL_ref, x_isL_junk, x_isR_ref, x_cat_nil, x_cat_int, x_cat_ref, x_cat_long, Option.toList_some, Option.toList_none, List.cons_append, List.nil_append, Nat.reduceAdd, Nat.reduceLeDiff, Nat.reduceLT, t_tag_si, t_tag_sr, t_tag_sI, x_r_si, x_i_sr, t_r_sI, x_ia_si, x_ia_sI, x_ia_sr, x_ra_si, x_ra_sI, x_ra_sr, g_t41 hs1', h169', bI_t h1, n10, if_false, e138, e188, hw2, g_t41 hs2, e3, g_t41 hs3, g_r41_6 hs3, g_a46 hs3, sx, sc', a3, e189]
    · have h169 := fun (v : Int32) (Q' : Option Value → x_W → Prop) => S169 (L := L) (xs := xs) (d := d + 10) (v := v) (Q := Q') h.2.1.1
      refine AQ_no (v := .int (-7)) h.1.2.2 (fun Q => ?_) (fun Q => ?_)
      · simp only [X22_0, X22_1, X22_4, X22_5, X22_8, X22_14, X22_15, X22_16, X22_18, X22_21, X22_24, X22_26, Nat.zero_le, and_true, true_and, x_nb0, x_nb1, x_nbp, x_isL_int, x_isL_ref, x_isL_junk, x_isR_ref, x_cat_nil, x_cat_int, x_cat_ref, x_cat_long, Option.toList_some, Option.toList_none, List.cons_append, List.nil_append, Nat.reduceAdd, Nat.reduceLeDiff, Nat.reduceLT, t_tag_si, t_tag_sr, t_tag_sI, x_r_si, x_i_sr, t_r_sI, x_ia_si, x_ia_sI, x_ia_sr, x_ra_si, x_ra_sI, x_ra_sr, g_t0 hs, g_r0_4 hs, g_t22 hs, h55, bI_t h1, n10, if_false, f10 hv, if_true]
      · simp only [X187_0, X187_1, X187_2, X187_5, X187_11, X187_12, X187_13, X187_15, X187_18, X187_21, X187_23, Nat.zero_le, and_true, true_and, x_nb0, x_nb1, x_nbp, x_isL_int, x_isL_ref, x_isL_junk, x_isR_ref, x_cat_nil, x_cat_int, x_cat_ref, x_cat_long, Option.toList_some, Option.toList_none, List.cons_append, List.nil_append, Nat.reduceAdd, Nat.reduceLeDiff, Nat.reduceLT, t_tag_si, t_tag_sr, t_tag_sI, x_r_si, x_i_sr, t_r_sI, x_ia_si, x_ia_sI, x_ia_sr, x_ra_si, x_ra_sI, x_ra_sr, g_t41 hs, h169, bI_t h1, n10, if_false, f138 hv, if_true]
  · have h169 := fun (v : Int32) (Q' : Option Value → x_W → Prop) => S169 (L := L) (xs := xs) (d := d + 10) (v := v) (Q := Q') h.2.1.1
    refine AQ_no (v := .int (-5)) h.1.2.2 (fun Q => ?_) (fun Q => ?_)
    · simp only [X22_0, X22_1, X22_4, X22_5, X22_8, X22_11, X22_13, Nat.zero_le, and_true, true_and, x_nb0, x_nb1, x_nbp, x_isL_int, x_isL_ref, x_isL_junk, x_isR_ref, x_cat_nil, x_cat_int, x_cat_ref, x_cat_long, Option.toList_some, Option.toList_none, List.cons_append, List.nil_append, Nat.reduceAdd, Nat.reduceLeDiff, Nat.reduceLT, t_tag_si, t_tag_sr, t_tag_sI, x_r_si, x_i_sr, t_r_sI, x_ia_si, x_ia_sI, x_ia_sr, x_ra_si, x_ra_sI, x_ra_sr, g_t0 hs, g_r0_4 hs, g_t22 hs, h55, bI_f h1, if_true]
    · simp only [X187_0, X187_1, X187_2, X187_5, X187_8, X187_10, Nat.zero_le, and_true, true_and, x_nb0, x_nb1, x_nbp, x_isL_int, x_isL_ref, x_isL_junk, x_isR_ref, x_cat_nil, x_cat_int, x_cat_ref, x_cat_long, Option.toList_some, Option.toList_none, List.cons_append, List.nil_append, Nat.reduceAdd, Nat.reduceLeDiff, Nat.reduceLT, t_tag_si, t_tag_sr, t_tag_sI, x_r_si, x_i_sr, t_r_sI, x_ia_si, x_ia_sI, x_ia_sr, x_ra_si, x_ra_sI, x_ra_sr, g_t41 hs, h169, bI_f h1, if_true]
end S993
