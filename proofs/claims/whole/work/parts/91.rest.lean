/-! ===== who would rather lie elsewhere: rest ===== -/
def occM (kt : Nat → Nat) : Nat → Int32
  | 0 => nI 0
  | n + 1 => occM kt n ||| nI 1 <<< (nI (kt n) &&& 31)
theorem occ_bit {kt : Nat → Nat} {k : Nat} (hk : k < 20) : ∀ n, (∀ q, q < n → kt q < 20) → (meB (occM kt n) k = true ↔ ∃ q, q < n ∧ kt q = k) := by
  intro n
  induction n with
  | zero =>
    intro _
    have e : meB (occM kt 0) k = false := meB_0 k (by omega)
    rw [e]
    exact ⟨fun h => absurd h (by decide), fun ⟨q, h, _⟩ => absurd h (Nat.not_lt_zero _)⟩
  | succ n ih =>
    intro h
    have e : meB (occM kt (n + 1)) k = (meB (occM kt n) k || decide (k = kt n)) := by
      show meB (occM kt n ||| nI 1 <<< (nI (kt n) &&& 31)) k = _
      rw [meB_or, meB_one (kt n) (h n (Nat.lt_succ_self _)) k hk]
    rw [e, Bool.or_eq_true, ih (fun q hq => h q (by omega)), decide_eq_true_eq]
    constructor
    · rintro (⟨q, h1, h2⟩ | h1)
      · exact ⟨q, by omega, h2⟩
      · exact ⟨n, Nat.lt_succ_self _, h1.symm⟩
    · rintro ⟨q, h1, h2⟩
      by_cases hq : q = n
      · subst hq; exact Or.inr h2.symm
      · exact Or.inl ⟨q, by omega, h2⟩
/-- of the first j knots one is free where fewer would wake the sleeper -/
def btB (free : Nat → Bool) (g : Nat → Nat) (now : Nat) : Nat → Bool
  | 0 => false
  | j + 1 => btB free g now j || (free j && decide (g j < now))
theorem btB_up {free : Nat → Bool} {g : Nat → Nat} {now : Nat} {j : Nat} (h : btB free g now j = true) : ∀ n, btB free g now (j + n) = true := by
  intro n
  induction n with
  | zero => exact h
  | succ n ih =>
    show (btB free g now (j + n) || _) = true
    rw [ih, Bool.true_or]
theorem btB_cg {free free' : Nat → Bool} {g g' : Nat → Nat} {now : Nat} (n : Nat) (hf : ∀ k, k < n → free k = free' k) (hg : ∀ k, k < n → g k = g' k) : btB free g now n = btB free' g' now n := by
  induction n with
  | zero => rfl
  | succ n ih =>
    unfold btB
    rw [ih (fun k hk => hf k (by omega)) (fun k hk => hg k (by omega)), hf n (Nat.lt_succ_self _), hg n (Nat.lt_succ_self _)]
def freeB (kt : Nat → Nat) (S k : Nat) : Bool := !meB (occM kt S) k
def wcX (w : x_W) (S : Nat) (kd td mo tl : Nat → Nat) (tk : Nat → Nat → Nat) (s : Nat) (kt : Nat → Nat) : Nat := wkC (fun b => wkB kd td mo kt tl tk (farX w kt) s b) S
def wcM (w : x_W) (S : Nat) (kd td mo tl : Nat → Nat) (tk : Nat → Nat → Nat) (s : Nat) (kt : Nat → Nat) : Nat := wkC (fun b => wkB kd td mo kt tl tk (farM w kt) s b) S
section S91
variable {L : Nat} {xs : Nat → Int32} {d : Nat} {w w' : x_W} {S : Nat} {kd td mo kt tl : Nat → Nat} {tk : Nat → Nat → Nat}
theorem wcX_le (h6 : S ≤ 6) (w1 : x_W) (s : Nat) (kt' : Nat → Nat) : wcX w1 S kd td mo tl tk s kt' ≤ 6 := Nat.le_trans (wkC_le _ S) h6
theorem wcM_le (h6 : S ≤ 6) (w1 : x_W) (s : Nat) (kt' : Nat → Nat) : wcM w1 S kd td mo tl tk s kt' ≤ 6 := Nat.le_trans (wkC_le _ S) h6
theorem S207 (h : EM w S kd td mo kt tl tk) {k : Nat} (hk : k < 20) {Q : Option Value → x_W → Prop} : X_R L xs d 207 0 [.ref 41, .int (nI k), x_junk] [] w Q = Q (some (.int (bI (freeB kt S k = true)))) w := by
  have h6 := h.1.S6
  have hs := h.sh
  have hb := occ_bit (kt := kt) hk S (fun q hq => (h.1.M q (by omega)).2.2.2.2)
  have loop : ∀ n j, j + n = S → (∀ q, q < j → kt q ≠ k) → X_R L xs d 207 2 [.ref 41, .int (nI k), .int (nI j)] [] w Q = Q (some (.int (bI (freeB kt S k = true)))) w := by
    intro n
    induction n with
    | zero =>
      intro j hj hn
      obtain rfl : j = S := by omega
      have hf : freeB kt j k = true := by
        unfold freeB
        rw [Bool.not_eq_true']
        cases hm : meB (occM kt j) k with
        | false => rfl
        | true => obtain ⟨q, h1, h2⟩ := hb.mp hm; exact absurd h2 (hn q h1)
      rw [X207_2, bI_t hf]
      simp only [X207_3, X207_4, X207_7, X207_28, X207_29, Nat.zero_le, and_true, true_and, x_nb0, x_nb1, x_nbp, x_isL_int, x_isL_ref, x_isL_junk, x_isR_ref, x_cat_nil, x_cat_int, x_cat_ref, x_cat_long, Option.toList_some, Option.toList_none, List.cons_append, List.nil_append, Nat.reduceAdd, Nat.reduceLeDiff, Nat.reduceLT, t_tag_si, t_tag_sr, t_tag_sI, x_r_si, x_i_sr, t_r_sI, x_ia_si, x_ia_sI, x_ia_sr, x_ra_si, x_ra_sI, x_ra_sr, g_t41 hs, h.1.hS, nI_leT (Nat.le_refl j) (show j < 2 ^ 31 by omega), if_true]
    | succ n ih =>
      intro j hj hn
      have jx := x_ix_nI (show j < 6 by omega) (show 6 < 2 ^ 31 by decide)
      have jc := nI_cl (show j < 2 ^ 31 by omega)
      obtain ⟨hkt, hlt⟩ := (h.1.M j (by omega)).2.2.2
      rw [X207_2]
      by_cases hq : kt j = k
      · have hf : ¬ freeB kt S k = true := by
          unfold freeB
          rw [hb.mpr ⟨j, by omega, hq⟩]
          decide
        rw [bI_f hf]
        simp only [X207_3, X207_4, X207_7, X207_10, X207_11, X207_14, X207_15, X207_16, X207_17, X207_20, X207_21, Nat.zero_le, and_true, true_and, x_nb0, x_nb1, x_nbp, x_isL_int, x_isL_ref, x_isL_junk, x_isR_ref, x_cat_nil, x_cat_int, x_cat_ref, x_cat_long, Option.toList_some, Option.toList_none, List.cons_append, List.nil_append, Nat.reduceAdd, Nat.reduceLeDiff, Nat.reduceLT, t_tag_si, t_tag_sr, t_tag_sI, x_r_si, x_i_sr, t_r_sI, x_ia_si, x_ia_sI, x_ia_sr, x_ra_si, x_ra_sI, x_ra_sr, g_t41 hs, g_r41_6 hs, g_a46 hs, h.1.hS, nI_leF (show j < S by omega) (show S < 2 ^ 31 by omega), if_false, jx, jc, hkt, hq, if_true]
      · rw [← ih (j + 1) (by omega) (fun q hq' => by
          by_cases hqj : q = j
          · subst hqj; exact hq
          · exact hn q (by omega))]
        simp only [X207_3, X207_4, X207_7, X207_10, X207_11, X207_14, X207_15, X207_16, X207_17, X207_22, X207_25, Nat.zero_le, and_true, true_and, x_nb0, x_nb1, x_nbp, x_isL_int, x_isL_ref, x_isL_junk, x_isR_ref, x_cat_nil, x_cat_int, x_cat_ref, x_cat_long, Option.toList_some, Option.toList_none, List.cons_append, List.nil_append, Nat.reduceAdd, Nat.reduceLeDiff, Nat.reduceLT, t_tag_si, t_tag_sr, t_tag_sI, x_r_si, x_i_sr, t_r_sI, x_ia_si, x_ia_sI, x_ia_sr, x_ra_si, x_ra_sI, x_ra_sr, g_t41 hs, g_r41_6 hs, g_a46 hs, h.1.hS, nI_leF (show j < S by omega) (show S < 2 ^ 31 by omega), if_false, jx, jc, hkt, nI_eqF hq (show kt j < 2 ^ 31 by omega) (show k < 2 ^ 31 by omega), nI_add]
  have e := loop S 0 (by omega) (fun q hq => absurd hq (Nat.not_lt_zero _))
  rw [← e]
  simp only [X207_0, X207_1, Nat.zero_le, and_true, true_and, x_nb0, x_nb1, x_nbp, x_isL_int, x_isL_ref, x_isL_junk, x_isR_ref, x_cat_nil, x_cat_int, x_cat_ref, x_cat_long, Option.toList_some, Option.toList_none, List.cons_append, List.nil_append, Nat.reduceAdd, Nat.reduceLeDiff, Nat.reduceLT, t_tag_si, t_tag_sr, t_tag_sI, x_r_si, x_i_sr, t_r_sI, x_ia_si, x_ia_sI, x_ia_sr, x_ra_si, x_ra_sI, x_ra_sr]
theorem S72o (h : EX w S kd td mo kt tl tk) (s : Nat) {v4 v5 v6 : Value} : ∀ n j, j + n = S → ∀ Q, X_R L xs (d + 10) 72 4 [.ref 22, .int (nI s), .int (occM kt j), .int (nI j), v4, v5, v6] [] w Q = X_R L xs (d + 10) 72 29 [.ref 22, .int (nI s), .int (occM kt S), .int (nI S), v4, v5, v6] [] w Q := by
  have h6 := h.1.S6
  have hs := h.sh
  intro n
  induction n with
  | zero =>
    intro j hj Q
    obtain rfl : j = S := by omega
    rw [X72_4]
    simp only [X72_5, X72_6, X72_9, Nat.zero_le, and_true, true_and, x_nb0, x_nb1, x_nbp, x_isL_int, x_isL_ref, x_isL_junk, x_isR_ref, x_cat_nil, x_cat_int, x_cat_ref, x_cat_long, Option.toList_some, Option.toList_none, List.cons_append, List.nil_append, Nat.reduceAdd, Nat.reduceLeDiff, Nat.reduceLT, t_tag_si, t_tag_sr, t_tag_sI, x_r_si, x_i_sr, t_r_sI, x_ia_si, x_ia_sI, x_ia_sr, x_ra_si, x_ra_sI, x_ra_sr, g_t22 hs, h.1.hS, nI_leT (Nat.le_refl j) (show j < 2 ^ 31 by omega), if_true]
  | succ n ih =>
    intro j hj Q
    have jx := x_ix_nI (show j < 6 by omega) (show 6 < 2 ^ 31 by decide)
    have jc := nI_cl (show j < 2 ^ 31 by omega)
    have hkt := (h.1.X.1 j (by omega)).2.2.2
    have eo : occM kt (j + 1) = occM kt j ||| nI 1 <<< (nI (kt j) &&& 31) := rfl
    rw [← ih (j + 1) (by omega), X72_4, eo]
    simp only [X72_5, X72_6, X72_9, X72_12, X72_13, X72_14, X72_15, X72_18, X72_19, X72_20, X72_21, X72_22, X72_23, X72_26, Nat.zero_le, and_true, true_and, x_nb0, x_nb1, x_nbp, x_isL_int, x_isL_ref, x_isL_junk, x_isR_ref, x_cat_nil, x_cat_int, x_cat_ref, x_cat_long, Option.toList_some, Option.toList_none, List.cons_append, List.nil_append, Nat.reduceAdd, Nat.reduceLeDiff, Nat.reduceLT, t_tag_si, t_tag_sr, t_tag_sI, x_r_si, x_i_sr, t_r_sI, x_ia_si, x_ia_sI, x_ia_sr, x_ra_si, x_ra_sI, x_ra_sr, g_t22 hs, g_r22_3 hs, g_a30 hs, h.1.hS, nI_leF (show j < S by omega) (show S < 2 ^ 31 by omega), if_false, jx, jc, hkt, nI_add]
theorem bI_or {p : Prop} [Decidable p] : True := trivial
theorem S72l (h : EX w S kd td mo kt tl tk) {s : Nat} (hs : s < S) (lay : Int32) {now : Nat} (hnow : now ≤ 6) : ∀ n j, j + n = 20 → ∀ w1, Ch (orc (sc [28, 34]) 30) w w1 → FarOk w1 → (∀ q, q ≠ s → x_i w1 30 q = x_i w 30 q) → ∃ w2 i', Ch (orc (sc [28, 34]) 30) w w2 ∧ FarOk w2 ∧ (∀ q, q ≠ s → x_i w2 30 q = x_i w 30 q) ∧ ∀ Q, X_R L xs (d + 10) 72 49 [.ref 22, .int (nI s), .int (occM kt S), .int lay, .int (nI now), .int (bI (btB (freeB kt S) (fun k => wcX w S kd td mo tl tk s (updN kt s k)) now j = true)), .int (nI j)] [] w1 Q = X_R L xs (d + 10) 72 101 [.ref 22, .int (nI s), .int (occM kt S), .int lay, .int (nI now), .int (bI (btB (freeB kt S) (fun k => wcX w S kd td mo tl tk s (updN kt s k)) now 20 = true)), .int i'] [] w2 Q := by
  have h6 := h.1.S6
  have hsx := x_ix_nI (show s < 6 by omega) (show 6 < 2 ^ 31 by decide)
  have hsc := nI_cl (show s < 2 ^ 31 by omega)
  have ebv : ∀ m q : Int32, m >>> (q &&& 31) &&& nI 1 = bv m q := fun _ _ => rfl
  intro n
  induction n with
  | zero =>
    intro j hj w1 c1 hF1 h30
    obtain rfl : j = 20 := by omega
    refine ⟨w1, nI 20, c1, hF1, h30, fun Q => ?_⟩
    rw [X72_49]
    simp only [X72_51, X72_53, Nat.zero_le, and_true, true_and, x_nb0, x_nb1, x_nbp, x_isL_int, x_isL_ref, x_isL_junk, x_isR_ref, x_cat_nil, x_cat_int, x_cat_ref, x_cat_long, Option.toList_some, Option.toList_none, List.cons_append, List.nil_append, Nat.reduceAdd, Nat.reduceLeDiff, Nat.reduceLT, t_tag_si, t_tag_sr, t_tag_sI, x_r_si, x_i_sr, t_r_sI, x_ia_si, x_ia_sI, x_ia_sr, x_ra_si, x_ra_sI, x_ra_sr, nI_leT (Nat.le_refl 20) (show 20 < 2 ^ 31 by decide), if_true]
  | succ n ih =>
    intro j hj w1 c1 hF1 h30
    have hs1 := c1.sh h.sh
    by_cases hb : btB (freeB kt S) (fun k => wcX w S kd td mo tl tk s (updN kt s k)) now j = true
    · have hb20 : btB (freeB kt S) (fun k => wcX w S kd td mo tl tk s (updN kt s k)) now 20 = true := by
        have := btB_up hb (20 - j)
        rw [show j + (20 - j) = 20 by omega] at this
        exact this
      refine ⟨w1, nI j, c1, hF1, h30, fun Q => ?_⟩
      rw [bI_t hb, bI_t hb20, X72_49]
      simp only [X72_51, X72_53, X72_56, X72_58, Nat.zero_le, and_true, true_and, x_nb0, x_nb1, x_nbp, x_isL_int, x_isL_ref, x_isL_junk, x_isR_ref, x_cat_nil, x_cat_int, x_cat_ref, x_cat_long, Option.toList_some, Option.toList_none, List.cons_append, List.nil_append, Nat.reduceAdd, Nat.reduceLeDiff, Nat.reduceLT, t_tag_si, t_tag_sr, t_tag_sI, x_r_si, x_i_sr, t_r_sI, x_ia_si, x_ia_sI, x_ia_sr, x_ra_si, x_ra_sI, x_ra_sr, nI_leF (show j < 20 by omega) (show 20 < 2 ^ 31 by decide), if_false, n10]
    · by_cases hf : freeB kt S j = true
      · have hbit : bv (occM kt S) (nI j) = nI 0 := by
          unfold freeB meB at hf
          rw [Bool.not_eq_true', decide_eq_false_iff_not] at hf
          rcases bv_cases (occM kt S) (nI j) with q | q
          · exact q
          · exact absurd q hf
        have hX2 := lieX h c1 hF1 (show s < 6 by omega) h30 (show j < 20 by omega)
        obtain ⟨w3, c3, hF3, e70⟩ := S70 (L := L) (xs := xs) (d := d + 4) hX2 hs
        have c13 : Ch (orc (sc [28, 34]) 30) w w3 := (c1.trans Ch_orc).trans c3.orc
        have h303 : ∀ q, q ≠ s → x_i w3 30 q = x_i w 30 q := fun q hq => by
          rw [c3.i (fun _ => rfl : ∀ k, sc [28, 34] 30 k = false), x_i_si, upd_o hq]
          exact h30 q hq
        have eC : farX (x_si w1 30 s (nI j)) (updN kt s j) = farX w (updN kt s j) := by
          funext p q
          unfold farX
          rw [x_i_sin _ _ _ _ (by decide), orc_C (orc_a c1 rfl)]
        rw [eC] at e70
        have enu : wkC (fun b => wkB kd td mo (updN kt s j) tl tk (farX w (updN kt s j)) s b) S = wcX w S kd td mo tl tk s (updN kt s j) := rfl
        rw [enu] at e70
        have hle := wcX_le (S := S) (kd := kd) (td := td) (mo := mo) (tl := tl) (tk := tk) h6 w s (updN kt s j)
        obtain ⟨w4, i', c4, hF4, h304, e4⟩ := ih (j + 1) (by omega) w3 c13 hF3 h303
        have hsI : Sh (x_si w1 30 s (nI j)) := hs1
        refine ⟨w4, i', c4, hF4, h304, fun Q => ?_⟩
        rw [← e4 Q, X72_49, bI_f hb]
        have hstep : btB (freeB kt S) (fun k => wcX w S kd td mo tl tk s (updN kt s k)) now (j + 1) = decide (wcX w S kd td mo tl tk s (updN kt s j) < now) := by
          unfold btB
          rw [Bool.not_eq_true _ |>.mp hb, hf, Bool.false_or, Bool.true_and]
        rw [hstep]
        by_cases hl : wcX w S kd td mo tl tk s (updN kt s j) < now
        · rw [bI_t (decide_eq_true hl)]
          simp only [X72_51, X72_53, X72_56, X72_58, X72_61, X72_62, X72_64, X72_65, X72_66, X72_67, X72_70, X72_71, X72_74, X72_75, X72_77, X72_78, X72_79, X72_80, X72_83, X72_85, X72_88, X72_89, X72_93, X72_95, X72_98, Nat.zero_le, and_true, true_and, x_nb0, x_nb1, x_nbp, x_isL_int, x_isL_ref, x_isL_junk, x_isR_ref, x_cat_nil, x_cat_int, x_cat_ref, x_cat_long, Option.toList_some, Option.toList_none, List.cons_append, List.nil_append, Nat.reduceAdd, Nat.reduceLeDiff, Nat.reduceLT, t_tag_si, t_tag_sr, t_tag_sI, x_r_si, x_i_sr, t_r_sI, x_ia_si, x_ia_sI, x_ia_sr, x_ra_si, x_ra_sI, x_ra_sr, nI_leF (show j < 20 by omega) (show 20 < 2 ^ 31 by decide), if_false, if_true, ebv, hbit, g_t22 hs1, g_r22_3 hs1, g_a30 hs1, hsx, hsc, e70, nI_leF hl (show now < 2 ^ 31 by omega), nI_add]
        · rw [bI_f (by rw [decide_eq_false hl]; decide)]
          simp only [X72_51, X72_53, X72_56, X72_58, X72_61, X72_62, X72_64, X72_65, X72_66, X72_67, X72_70, X72_71, X72_74, X72_75, X72_77, X72_78, X72_79, X72_80, X72_83, X72_85, X72_92, X72_93, X72_95, X72_98, Nat.zero_le, and_true, true_and, x_nb0, x_nb1, x_nbp, x_isL_int, x_isL_ref, x_isL_junk, x_isR_ref, x_cat_nil, x_cat_int, x_cat_ref, x_cat_long, Option.toList_some, Option.toList_none, List.cons_append, List.nil_append, Nat.reduceAdd, Nat.reduceLeDiff, Nat.reduceLT, t_tag_si, t_tag_sr, t_tag_sI, x_r_si, x_i_sr, t_r_sI, x_ia_si, x_ia_sI, x_ia_sr, x_ra_si, x_ra_sI, x_ra_sr, nI_leF (show j < 20 by omega) (show 20 < 2 ^ 31 by decide), if_false, if_true, ebv, hbit, g_t22 hs1, g_r22_3 hs1, g_a30 hs1, hsx, hsc, e70, nI_leT (Nat.not_lt.mp hl) (show wcX w S kd td mo tl tk s (updN kt s j) < 2 ^ 31 by omega), nI_add]
      · have hbit : bv (occM kt S) (nI j) = nI 1 := by
          unfold freeB meB at hf
          rw [Bool.not_eq_true, Bool.not_eq_false', decide_eq_true_eq] at hf
          exact hf
        obtain ⟨w4, i', c4, hF4, h304, e4⟩ := ih (j + 1) (by omega) w1 c1 hF1 h30
        refine ⟨w4, i', c4, hF4, h304, fun Q => ?_⟩
        have hstep : btB (freeB kt S) (fun k => wcX w S kd td mo tl tk s (updN kt s k)) now (j + 1) = false := by
          unfold btB
          rw [Bool.not_eq_true _ |>.mp hb, Bool.not_eq_true _ |>.mp hf, Bool.false_or, Bool.false_and]
        rw [hstep, bI_f (by decide)] at e4
        rw [← e4 Q, X72_49, bI_f hb]
        simp only [X72_51, X72_53, X72_56, X72_58, X72_61, X72_62, X72_64, X72_65, X72_66, X72_67, X72_95, X72_98, Nat.zero_le, and_true, true_and, x_nb0, x_nb1, x_nbp, x_isL_int, x_isL_ref, x_isL_junk, x_isR_ref, x_cat_nil, x_cat_int, x_cat_ref, x_cat_long, Option.toList_some, Option.toList_none, List.cons_append, List.nil_append, Nat.reduceAdd, Nat.reduceLeDiff, Nat.reduceLT, t_tag_si, t_tag_sr, t_tag_sI, x_r_si, x_i_sr, t_r_sI, x_ia_si, x_ia_sI, x_ia_sr, x_ra_si, x_ra_sI, x_ra_sr, nI_leF (show j < 20 by omega) (show 20 < 2 ^ 31 by decide), if_false, if_true, ebv, hbit, n10, nI_add]
theorem S72 (h : EX w S kd td mo kt tl tk) {s : Nat} (hs : s < S) : ∃ w2, Ch (sc [28, 34]) w w2 ∧ FarOk w2 ∧ ∀ Q, X_R L xs (d + 10) 72 0 [.ref 22, .int (nI s), x_junk, x_junk, x_junk, x_junk, x_junk] [] w Q = Q (some (.int (bI (btB (freeB kt S) (fun k => wcX w S kd td mo tl tk s (updN kt s k)) (wcX w S kd td mo tl tk s kt) 20 = true)))) w2 := by
  have h6 := h.1.S6
  have hsx := x_ix_nI (show s < 6 by omega) (show 6 < 2 ^ 31 by decide)
  have hsc := nI_cl (show s < 2 ^ 31 by omega)
  have hs0 := h.sh
  obtain ⟨w1, c1, hF1, e1⟩ := S70 (L := L) (xs := xs) (d := d + 4) h hs
  have enu : wkC (fun b => wkB kd td mo kt tl tk (farX w kt) s b) S = wcX w S kd td mo tl tk s kt := rfl
  rw [enu] at e1
  have hX1 := h.ch (c1.a rfl) hF1
  obtain ⟨w2, i', c2, hF2, h30, e2⟩ := S72l (L := L) (xs := xs) (d := d) hX1 hs (x_i w 30 s) (wcX_le (kd := kd) (td := td) (mo := mo) (tl := tl) (tk := tk) h6 w s kt) 20 0 rfl w1 Ch.refl hF1 (fun _ _ => rfl)
  have ew : (fun k => wcX w1 S kd td mo tl tk s (updN kt s k)) = (fun k => wcX w S kd td mo tl tk s (updN kt s k)) := by
    funext k
    unfold wcX
    rw [farX_ch (c1.a rfl)]
  rw [ew] at e2
  have hs2 := c2.sh hX1.sh
  have e30 : x_i w1 30 = x_i w 30 := c1.i (fun _ => rfl)
  have c2' : Ch (sc [28, 34]) w1 (x_si w2 30 s (x_i w 30 s)) := (c2.trans Ch_orc).cell (by
    rw [x_i_si, e30]
    funext q
    by_cases hq : q = s
    · subst hq; rw [upd_s]
    · rw [upd_o hq, h30 q hq, e30])
  refine ⟨x_si w2 30 s (x_i w 30 s), c1.trans c2', hF2.of (by rw [x_i_sin _ _ _ _ (by decide)]) (by rw [x_i_sin _ _ _ _ (by decide)]) (by rw [x_i_sin _ _ _ _ (by decide)]), fun Q => ?_⟩
  have eo := S72o (L := L) (xs := xs) (d := d) h s (v4 := x_junk) (v5 := x_junk) (v6 := x_junk) S 0 (by omega) Q
  have e0 : X_R L xs (d + 10) 72 0 [.ref 22, .int (nI s), x_junk, x_junk, x_junk, x_junk, x_junk] [] w Q = X_R L xs (d + 10) 72 4 [.ref 22, .int (nI s), .int (nI 0), .int (nI 0), x_junk, x_junk, x_junk] [] w Q := by
    simp only [X72_0, X72_1, X72_2, X72_3, Nat.zero_le, and_true, true_and, x_nb0, x_nb1, x_nbp, x_isL_int, x_isL_ref, x_isL_junk, x_isR_ref, x_cat_nil, x_cat_int, x_cat_ref, x_cat_long, Option.toList_some, Option.toList_none, List.cons_append, List.nil_append, Nat.reduceAdd, Nat.reduceLeDiff, Nat.reduceLT, t_tag_si, t_tag_sr, t_tag_sI, x_r_si, x_i_sr, t_r_sI, x_ia_si, x_ia_sI, x_ia_sr, x_ra_si, x_ra_sI, x_ra_sr]
  rw [e0]
  refine eo.trans ?_
  have e3 : X_R L xs (d + 10) 72 29 [.ref 22, .int (nI s), .int (occM kt S), .int (nI S), x_junk, x_junk, x_junk] [] w Q = X_R L xs (d + 10) 72 49 [.ref 22, .int (nI s), .int (occM kt S), .int (x_i w 30 s), .int (nI (wcX w S kd td mo tl tk s kt)), .int (nI 0), .int (nI 0)] [] w1 Q := by
    simp only [X72_29, X72_30, X72_33, X72_34, X72_35, X72_36, X72_37, X72_38, X72_41, X72_43, X72_44, X72_46, X72_47, Nat.zero_le, and_true, true_and, x_nb0, x_nb1, x_nbp, x_isL_int, x_isL_ref, x_isL_junk, x_isR_ref, x_cat_nil, x_cat_int, x_cat_ref, x_cat_long, Option.toList_some, Option.toList_none, List.cons_append, List.nil_append, Nat.reduceAdd, Nat.reduceLeDiff, Nat.reduceLT, t_tag_si, t_tag_sr, t_tag_sI, x_r_si, x_i_sr, t_r_sI, x_ia_si, x_ia_sI, x_ia_sr, x_ra_si, x_ra_sI, x_ra_sr, g_t22 hs0, g_r22_3 hs0, g_a30 hs0, hsx, hsc, e1]
  rw [e3]
  refine (e2 Q).trans ?_
  simp only [X72_101, X72_102, X72_105, X72_106, X72_107, X72_108, X72_110, Nat.zero_le, and_true, true_and, x_nb0, x_nb1, x_nbp, x_isL_int, x_isL_ref, x_isL_junk, x_isR_ref, x_cat_nil, x_cat_int, x_cat_ref, x_cat_long, Option.toList_some, Option.toList_none, List.cons_append, List.nil_append, Nat.reduceAdd, Nat.reduceLeDiff, Nat.reduceLT, t_tag_si, t_tag_sr, t_tag_sI, x_r_si, x_i_sr, t_r_sI, x_ia_si, x_ia_sI, x_ia_sr, x_ra_si, x_ra_sI, x_ra_sr, g_t22 hs2, g_r22_3 hs2, g_a30 hs2, hsx, hsc, bI_nb]
/-- the least of the free knots' numbers, and what was -/
def lsN (free : Nat → Bool) (g : Nat → Nat) (now was : Nat) : Nat → Nat
  | 0 => now
  | j + 1 => if (free j && decide (j ≠ was)) = true ∧ g j < lsN free g now was j then g j else lsN free g now was j
theorem lsN_bt {free : Nat → Bool} {g : Nat → Nat} {now was : Nat} (hw : free was = false) : ∀ j, lsN free g now was j ≤ now ∧ (lsN free g now was j < now ↔ btB free g now j = true) := by
  intro j
  induction j with
  | zero => exact ⟨Nat.le_refl _, ⟨fun h => absurd h (Nat.lt_irrefl _), fun h => absurd h (show ¬ (false = true) by decide)⟩⟩
  | succ j ih =>
    have hfw : (free j && decide (j ≠ was)) = free j := by
      by_cases hj : j = was
      · subst hj; rw [hw, Bool.false_and]
      · rw [decide_eq_true hj, Bool.and_true]
    unfold lsN btB
    rw [hfw, Bool.or_eq_true, Bool.and_eq_true, decide_eq_true_eq, ← ih.2]
    split
    · rename_i h1
      refine ⟨by omega, ⟨fun _ => Or.inr ⟨h1.1, by omega⟩, fun _ => by omega⟩⟩
    · rename_i h1
      refine ⟨ih.1, ⟨fun h => Or.inl h, ?_⟩⟩
      rintro (h | ⟨h2, h3⟩)
      · exact h
      · have h4 : ¬ g j < lsN free g now was j := fun q => h1 ⟨h2, q⟩
        omega
theorem S206l (h : EM w S kd td mo kt tl tk) {s : Nat} (hs : s < S) {now : Nat} (hnow : now ≤ 6) : ∀ n j, j + n = 20 → ∀ w1, Ch (sm [58, 59]) w w1 → ∀ u6 : Value, x_isL u6 = false → ∃ w2 u, Ch (sm [58, 59]) w w2 ∧ ∀ Q, X_R L xs (d + 10) 206 19 [.ref 41, .int (nI s), .int (nI (kt s)), .int (nI now), .int (nI (lsN (freeB kt S) (fun k => wcM w S kd td mo tl tk s (updN kt s k)) now (kt s) j)), .int (nI j), u6] [] w1 Q = X_R L xs (d + 10) 206 85 [.ref 41, .int (nI s), .int (nI (kt s)), .int (nI now), .int (nI (lsN (freeB kt S) (fun k => wcM w S kd td mo tl tk s (updN kt s k)) now (kt s) 20)), .int (nI 20), u] [] w2 Q := by
  have h6 := h.1.S6
  have hsx := x_ix_nI (show s < 6 by omega) (show 6 < 2 ^ 31 by decide)
  have hsc := nI_cl (show s < 2 ^ 31 by omega)
  have hkt := (h.1.M s (by omega)).2.2.2
  have hbt : freeB kt S (kt s) = false := by
    unfold freeB
    rw [(occ_bit hkt.2 S (fun q hq => (h.1.M q (by omega)).2.2.2.2)).mpr ⟨s, hs, rfl⟩]
    rfl
  intro n
  induction n with
  | zero =>
    intro j hj w1 c1 u6 h7
    obtain rfl : j = 20 := by omega
    refine ⟨w1, u6, c1, fun Q => ?_⟩
    rw [X206_19]
    simp only [X206_21, X206_23, Nat.zero_le, and_true, true_and, x_nb0, x_nb1, x_nbp, x_isL_int, x_isL_ref, x_isL_junk, x_isR_ref, x_cat_nil, x_cat_int, x_cat_ref, x_cat_long, Option.toList_some, Option.toList_none, List.cons_append, List.nil_append, Nat.reduceAdd, Nat.reduceLeDiff, Nat.reduceLT, t_tag_si, t_tag_sr, t_tag_sI, x_r_si, x_i_sr, t_r_sI, x_ia_si, x_ia_sI, x_ia_sr, x_ra_si, x_ra_sI, x_ra_sr, nI_leT (Nat.le_refl 20) (show 20 < 2 ^ 31 by decide), if_true]
  | succ n ih =>
    intro j hj w1 c1 u6 h7
    have hM1 := h.ch (c1.ma rfl)
    have hs1 := hM1.sh
    have e207 := fun (Q' : Option Value → x_W → Prop) => S207 (L := L) (xs := xs) (d := d + 9) hM1 (show j < 20 by omega) (Q := Q')
    have hls := (lsN_bt (free := freeB kt S) (g := fun k => wcM w S kd td mo tl tk s (updN kt s k)) (now := now) hbt j).1
    by_cases hf : freeB kt S j = true
    · have hne : j ≠ kt s := fun q => by rw [q, hbt] at hf; exact Bool.noConfusion hf
      have hneI := nI_eqF hne (show j < 2 ^ 31 by omega) (show kt s < 2 ^ 31 by omega)
      have hX2 := lieM hM1 (w1 := w1) Ch.refl (show s < 6 by omega) (fun _ _ => rfl) (show j < 20 by omega)
      obtain ⟨w3, c3, e70⟩ := S201 (L := L) (xs := xs) (d := d + 4) hX2 hs
      have eC : farM (x_si w1 46 s (nI j)) (updN kt s j) = farM w (updN kt s j) := by
        funext p q
        unfold farM
        rw [x_i_sin _ _ _ _ (by decide), EM.C (c1.ma rfl)]
      rw [eC] at e70
      have enu : wkC (fun b => wkB kd td mo (updN kt s j) tl tk (farM w (updN kt s j)) s b) S = wcM w S kd td mo tl tk s (updN kt s j) := rfl
      rw [enu] at e70
      have hle := wcM_le (S := S) (kd := kd) (td := td) (mo := mo) (tl := tl) (tk := tk) h6 w s (updN kt s j)
      have hs3 := c3.sh hX2.sh
      have e461 : x_i w1 46 = x_i w 46 := c1.i (fun _ => rfl)
      have c13 : Ch (sm [58, 59]) w1 (x_si w3 46 s (nI (kt s))) := (((Ch_orc (P := sm [58, 59])).trans c3.orc).trans Ch_orc).cell (by
        rw [x_i_si, c3.i (fun _ => rfl : ∀ k, sm [58, 59] 46 k = false), x_i_si]
        funext q
        by_cases hq : q = s
        · subst hq; rw [upd_s, e461]; exact hkt.1.symm
        · rw [upd_o hq, upd_o hq])
      by_cases hl : wcM w S kd td mo tl tk s (updN kt s j) < lsN (freeB kt S) (fun k => wcM w S kd td mo tl tk s (updN kt s k)) now (kt s) j
      · have hstep : lsN (freeB kt S) (fun k => wcM w S kd td mo tl tk s (updN kt s k)) now (kt s) (j + 1) = wcM w S kd td mo tl tk s (updN kt s j) := by
          show (if _ then _ else _) = _
          rw [if_pos ⟨by rw [hf, decide_eq_true hne]; rfl, hl⟩]
        obtain ⟨w4, u4, c4, e4⟩ := ih (j + 1) (by omega) _ (c1.trans c13) (.int (nI (wcM w S kd td mo tl tk s (updN kt s j)))) rfl
        refine ⟨w4, u4, c4, fun Q => ?_⟩
        rw [← e4 Q, X206_19, hstep]
        rw [bI_t hf] at e207
        simp only [X206_0, X206_1, X206_4, X206_5, X206_6, X206_7, X206_8, X206_9, X206_12, X206_13, X206_14, X206_16, X206_17, X206_21, X206_23, X206_26, X206_27, X206_29, X206_32, X206_35, X206_37, X206_38, X206_41, X206_42, X206_45, X206_46, X206_48, X206_49, X206_50, X206_51, X206_54, X206_56, X206_58, X206_60, X206_63, X206_65, X206_68, X206_70, X206_72, X206_73, X206_76, X206_77, X206_78, X206_79, X206_82, X206_85, X206_87, X206_88, X206_91, X206_92, X206_95, X206_96, Nat.zero_le, and_true, true_and, x_nb0, x_nb1, x_nbp, x_isL_int, x_isL_ref, x_isL_junk, x_isR_ref, x_cat_nil, x_cat_int, x_cat_ref, x_cat_long, Option.toList_some, Option.toList_none, List.cons_append, List.nil_append, Nat.reduceAdd, Nat.reduceLeDiff, Nat.reduceLT, t_tag_si, t_tag_sr, t_tag_sI, x_r_si, x_i_sr, t_r_sI, x_ia_si, x_ia_sI, x_ia_sr, x_ra_si, x_ra_sI, x_ra_sr, h7, nI_leF (show j < 20 by omega) (show 20 < 2 ^ 31 by decide), if_false, g_t41 hs1, e207, n10, hneI, g_r41_6 hs1, g_a46 hs1, hsx, hsc, e70, g_t41 hs3, g_r41_6 hs3, g_a46 hs3, nI_leF hl (show lsN (freeB kt S) (fun k => wcM w S kd td mo tl tk s (updN kt s k)) now (kt s) j < 2 ^ 31 by omega), nI_add]
      · have hstep : lsN (freeB kt S) (fun k => wcM w S kd td mo tl tk s (updN kt s k)) now (kt s) (j + 1) = lsN (freeB kt S) (fun k => wcM w S kd td mo tl tk s (updN kt s k)) now (kt s) j := by
          show (if _ then _ else _) = _
          rw [if_neg (fun q => hl q.2)]
        obtain ⟨w4, u4, c4, e4⟩ := ih (j + 1) (by omega) _ (c1.trans c13) (.int (nI (wcM w S kd td mo tl tk s (updN kt s j)))) rfl
        refine ⟨w4, u4, c4, fun Q => ?_⟩
        rw [← e4 Q, X206_19, hstep]
        rw [bI_t hf] at e207
        simp only [X206_0, X206_1, X206_4, X206_5, X206_6, X206_7, X206_8, X206_9, X206_12, X206_13, X206_14, X206_16, X206_17, X206_21, X206_23, X206_26, X206_27, X206_29, X206_32, X206_35, X206_37, X206_38, X206_41, X206_42, X206_45, X206_46, X206_48, X206_49, X206_50, X206_51, X206_54, X206_56, X206_58, X206_60, X206_63, X206_65, X206_68, X206_70, X206_72, X206_73, X206_76, X206_77, X206_78, X206_79, X206_82, X206_85, X206_87, X206_88, X206_91, X206_92, X206_95, X206_96, Nat.zero_le, and_true, true_and, x_nb0, x_nb1, x_nbp, x_isL_int, x_isL_ref, x_isL_junk, x_isR_ref, x_cat_nil, x_cat_int, x_cat_ref, x_cat_long, Option.toList_some, Option.toList_none, List.cons_append, List.nil_append, Nat.reduceAdd, Nat.reduceLeDiff, Nat.reduceLT, t_tag_si, t_tag_sr, t_tag_sI, x_r_si, x_i_sr, t_r_sI, x_ia_si, x_ia_sI, x_ia_sr, x_ra_si, x_ra_sI, x_ra_sr, h7, nI_leF (show j < 20 by omega) (show 20 < 2 ^ 31 by decide), if_false, g_t41 hs1, e207, n10, hneI, g_r41_6 hs1, g_a46 hs1, hsx, hsc, e70, g_t41 hs3, g_r41_6 hs3, g_a46 hs3, nI_leT (Nat.not_lt.mp hl) (show wcM w S kd td mo tl tk s (updN kt s j) < 2 ^ 31 by omega), if_true, nI_add]
    · have hstep : lsN (freeB kt S) (fun k => wcM w S kd td mo tl tk s (updN kt s k)) now (kt s) (j + 1) = lsN (freeB kt S) (fun k => wcM w S kd td mo tl tk s (updN kt s k)) now (kt s) j := by
        show (if _ then _ else _) = _
        rw [if_neg (fun q => by have q1 := q.1; rw [Bool.not_eq_true _ |>.mp hf, Bool.false_and] at q1; exact Bool.noConfusion q1)]
      obtain ⟨w4, u4, c4, e4⟩ := ih (j + 1) (by omega) w1 c1 u6 h7
      refine ⟨w4, u4, c4, fun Q => ?_⟩
      rw [← e4 Q, X206_19, hstep]
      rw [bI_f hf] at e207
      simp only [X206_21, X206_23, X206_26, X206_27, X206_29, X206_32, X206_79, X206_82, Nat.zero_le, and_true, true_and, x_nb0, x_nb1, x_nbp, x_isL_int, x_isL_ref, x_isL_junk, x_isR_ref, x_cat_nil, x_cat_int, x_cat_ref, x_cat_long, Option.toList_some, Option.toList_none, List.cons_append, List.nil_append, Nat.reduceAdd, Nat.reduceLeDiff, Nat.reduceLT, t_tag_si, t_tag_sr, t_tag_sI, x_r_si, x_i_sr, t_r_sI, x_ia_si, x_ia_sI, x_ia_sr, x_ra_si, x_ra_sI, x_ra_sr, nI_leF (show j < 20 by omega) (show 20 < 2 ^ 31 by decide), if_false, g_t41 hs1, e207, if_true, nI_add]
theorem S206 (h : EM w S kd td mo kt tl tk) {s : Nat} (hs : s < S) : ∃ w2, Ch (sm [58, 59]) w w2 ∧ ∀ Q, X_R L xs (d + 10) 206 0 [.ref 41, .int (nI s), x_junk, x_junk, x_junk, x_junk, x_junk] [] w Q = Q (some (.int (bI (btB (freeB kt S) (fun k => wcM w S kd td mo tl tk s (updN kt s k)) (wcM w S kd td mo tl tk s kt) 20 = false)))) w2 := by
  have h6 := h.1.S6
  have hsx := x_ix_nI (show s < 6 by omega) (show 6 < 2 ^ 31 by decide)
  have hsc := nI_cl (show s < 2 ^ 31 by omega)
  have hs0 := h.sh
  have hkt := (h.1.M s (by omega)).2.2.2
  have hbt : freeB kt S (kt s) = false := by
    unfold freeB
    rw [(occ_bit hkt.2 S (fun q hq => (h.1.M q (by omega)).2.2.2.2)).mpr ⟨s, hs, rfl⟩]
    rfl
  obtain ⟨w1, c1, e1⟩ := S201 (L := L) (xs := xs) (d := d + 4) h hs
  have enu : wkC (fun b => wkB kd td mo kt tl tk (farM w kt) s b) S = wcM w S kd td mo tl tk s kt := rfl
  rw [enu] at e1
  have hX1 := h.ch (c1.ma rfl)
  have hnow := wcM_le (kd := kd) (td := td) (mo := mo) (tl := tl) (tk := tk) h6 w s kt
  obtain ⟨w2, u', c2, e2⟩ := S206l (L := L) (xs := xs) (d := d) hX1 hs hnow 20 0 rfl w1 Ch.refl x_junk rfl
  have ew : (fun k => wcM w1 S kd td mo tl tk s (updN kt s k)) = (fun k => wcM w S kd td mo tl tk s (updN kt s k)) := by
    funext k
    unfold wcM
    rw [farM_ch (c1.ma rfl)]
  rw [ew] at e2
  have hls := lsN_bt (free := freeB kt S) (g := fun k => wcM w S kd td mo tl tk s (updN kt s k)) (now := wcM w S kd td mo tl tk s kt) hbt 20
  refine ⟨w2, c1.trans c2, fun Q => ?_⟩
  have e0 : X_R L xs (d + 10) 206 0 [.ref 41, .int (nI s), x_junk, x_junk, x_junk, x_junk, x_junk] [] w Q = X_R L xs (d + 10) 206 19 [.ref 41, .int (nI s), .int (nI (kt s)), .int (nI (wcM w S kd td mo tl tk s kt)), .int (nI (wcM w S kd td mo tl tk s kt)), .int (nI 0), x_junk] [] w1 Q := by
    simp only [X206_0, X206_1, X206_4, X206_5, X206_6, X206_7, X206_8, X206_9, X206_12, X206_13, X206_14, X206_16, X206_17, Nat.zero_le, and_true, true_and, x_nb0, x_nb1, x_nbp, x_isL_int, x_isL_ref, x_isL_junk, x_isR_ref, x_cat_nil, x_cat_int, x_cat_ref, x_cat_long, Option.toList_some, Option.toList_none, List.cons_append, List.nil_append, Nat.reduceAdd, Nat.reduceLeDiff, Nat.reduceLT, t_tag_si, t_tag_sr, t_tag_sI, x_r_si, x_i_sr, t_r_sI, x_ia_si, x_ia_sI, x_ia_sr, x_ra_si, x_ra_sI, x_ra_sr, g_t41 hs0, g_r41_6 hs0, g_a46 hs0, hsx, hsc, hkt.1, e1]
  rw [e0]
  refine (e2 Q).trans ?_
  by_cases hb : btB (freeB kt S) (fun k => wcM w S kd td mo tl tk s (updN kt s k)) (wcM w S kd td mo tl tk s kt) 20 = true
  · have hlt := hls.2.mpr hb
    rw [bI_f (by rw [hb]; decide)]
    simp only [X206_85, X206_87, X206_88, X206_95, X206_96, Nat.zero_le, and_true, true_and, x_nb0, x_nb1, x_nbp, x_isL_int, x_isL_ref, x_isL_junk, x_isR_ref, x_cat_nil, x_cat_int, x_cat_ref, x_cat_long, Option.toList_some, Option.toList_none, List.cons_append, List.nil_append, Nat.reduceAdd, Nat.reduceLeDiff, Nat.reduceLT, t_tag_si, t_tag_sr, t_tag_sI, x_r_si, x_i_sr, t_r_sI, x_ia_si, x_ia_sI, x_ia_sr, x_ra_si, x_ra_sI, x_ra_sr, nI_eqF (Nat.ne_of_lt hlt) (show lsN (freeB kt S) (fun k => wcM w S kd td mo tl tk s (updN kt s k)) (wcM w S kd td mo tl tk s kt) (kt s) 20 < 2 ^ 31 by omega) (show wcM w S kd td mo tl tk s kt < 2 ^ 31 by omega), if_false]
  · have heq : lsN (freeB kt S) (fun k => wcM w S kd td mo tl tk s (updN kt s k)) (wcM w S kd td mo tl tk s kt) (kt s) 20 = wcM w S kd td mo tl tk s kt := by
      have h1 := hls.1
      have h2 : ¬ lsN (freeB kt S) (fun k => wcM w S kd td mo tl tk s (updN kt s k)) (wcM w S kd td mo tl tk s kt) (kt s) 20 < wcM w S kd td mo tl tk s kt := fun q => hb (hls.2.mp q)
      omega
    rw [bI_t (Bool.not_eq_true _ |>.mp hb), heq]
    simp only [X206_85, X206_87, X206_88, X206_91, X206_92, X206_96, Nat.zero_le, and_true, true_and, x_nb0, x_nb1, x_nbp, x_isL_int, x_isL_ref, x_isL_junk, x_isR_ref, x_cat_nil, x_cat_int, x_cat_ref, x_cat_long, Option.toList_some, Option.toList_none, List.cons_append, List.nil_append, Nat.reduceAdd, Nat.reduceLeDiff, Nat.reduceLT, t_tag_si, t_tag_sr, t_tag_sI, x_r_si, x_i_sr, t_r_sI, x_ia_si, x_ia_sI, x_ia_sr, x_ra_si, x_ra_sI, x_ra_sr, nI_eqT, if_true]
theorem AG.wc (h : AG w S kd td mo kt tl tk) {kt' : Nat → Nat} (hk : ∀ q, q < 6 → kt' q < 20) {s : Nat} (hs : s < S) : wcX w S kd td mo tl tk s kt' = wcM w S kd td mo tl tk s kt' := by
  have h6 := h.1.1.S6
  refine wkC_cg (fun b hb => ?_)
  have hf : farX w kt' s b = farM w kt' s b := by
    unfold farX farM
    rw [← far_eq h.2.2.1]
    exact farF_sym h.2.2.2.2 (hk s (by omega)) (hk b (by omega)) 20 0
  unfold wkB
  rw [hf]
theorem AQ_rest (h : AG w S kd td mo kt tl tk) : AQ L xs (d + 12) 29 205 [.ref 0, x_junk] [.ref 41, x_junk] w := by
  have h6 := h.1.1.S6
  obtain ⟨B, hB⟩ : ∃ B : Nat → Bool, B = fun s => btB (freeB kt S) (fun k => wcX w S kd td mo tl tk s (updN kt s k)) (wcX w S kd td mo tl tk s kt) 20 := ⟨_, rfl⟩
  have lx : ∀ n j, j + n = S → ∀ w1, Ch (sc [28, 34]) w w1 → FarOk w1 → ∃ w2, Ch (sc [28, 34]) w w2 ∧ FarOk w2 ∧ ∀ Q, X_R L xs (d + 12) 29 2 [.ref 0, .int (nI j)] [] w1 Q = Q (some (.int (bI (∀ s, s < n → B (j + s) = false)))) w2 := by
    intro n
    induction n with
    | zero =>
      intro j hj w1 c1 hF1
      obtain rfl : j = S := by omega
      have hX1 := h.1.ch (c1.a rfl) hF1
      refine ⟨w1, c1, hF1, fun Q => ?_⟩
      rw [bI_t (fun s hs => absurd hs (Nat.not_lt_zero _)), X29_2]
      simp only [X29_3, X29_4, X29_7, X29_10, X29_32, X29_33, Nat.zero_le, and_true, true_and, x_nb0, x_nb1, x_nbp, x_isL_int, x_isL_ref, x_isL_junk, x_isR_ref, x_cat_nil, x_cat_int, x_cat_ref, x_cat_long, Option.toList_some, Option.toList_none, List.cons_append, List.nil_append, Nat.reduceAdd, Nat.reduceLeDiff, Nat.reduceLT, t_tag_si, t_tag_sr, t_tag_sI, x_r_si, x_i_sr, t_r_sI, x_ia_si, x_ia_sI, x_ia_sr, x_ra_si, x_ra_sI, x_ra_sr, g_t0 hX1.sh, g_r0_4 hX1.sh, g_t22 hX1.sh, hX1.1.hS, nI_leT (Nat.le_refl j) (show j < 2 ^ 31 by omega), if_true]
    | succ n ih =>
      intro j hj w1 c1 hF1
      have hX1 := h.1.ch (c1.a rfl) hF1
      obtain ⟨w2, c2, hF2, e72⟩ := S72 (L := L) (xs := xs) (d := d + 1) hX1 (show j < S by omega)
      have ew : ∀ kt', wcX w1 S kd td mo tl tk j kt' = wcX w S kd td mo tl tk j kt' := by
        intro kt'
        unfold wcX
        rw [farX_ch (c1.a rfl)]
      have eB : btB (freeB kt S) (fun k => wcX w1 S kd td mo tl tk j (updN kt j k)) (wcX w1 S kd td mo tl tk j kt) 20 = B j := by
        rw [hB, ew kt]
        exact btB_cg 20 (fun _ _ => rfl) (fun k _ => ew _)
      rw [eB] at e72
      by_cases hb : B j = true
      · refine ⟨w2, c1.trans c2, hF2, fun Q => ?_⟩
        rw [bI_f (fun q => by have := q 0 (by omega); rw [Nat.add_zero, hb] at this; exact Bool.noConfusion this), X29_2]
        rw [bI_t hb] at e72
        simp only [X29_3, X29_4, X29_7, X29_10, X29_13, X29_14, X29_17, X29_18, X29_21, X29_24, X29_25, Nat.zero_le, and_true, true_and, x_nb0, x_nb1, x_nbp, x_isL_int, x_isL_ref, x_isL_junk, x_isR_ref, x_cat_nil, x_cat_int, x_cat_ref, x_cat_long, Option.toList_some, Option.toList_none, List.cons_append, List.nil_append, Nat.reduceAdd, Nat.reduceLeDiff, Nat.reduceLT, t_tag_si, t_tag_sr, t_tag_sI, x_r_si, x_i_sr, t_r_sI, x_ia_si, x_ia_sI, x_ia_sr, x_ra_si, x_ra_sI, x_ra_sr, g_t0 hX1.sh, g_r0_4 hX1.sh, g_t22 hX1.sh, hX1.1.hS, nI_leF (show j < S by omega) (show S < 2 ^ 31 by omega), if_false, e72, n10]
      · obtain ⟨w3, c3, hF3, e3⟩ := ih (j + 1) (by omega) w2 (c1.trans c2) hF2
        refine ⟨w3, c3, hF3, fun Q => ?_⟩
        have eb : bI (∀ s, s < n + 1 → B (j + s) = false) = bI (∀ s, s < n → B (j + 1 + s) = false) := by
          refine bI_c ⟨fun q s hs => ?_, fun q s hs => ?_⟩
          · have := q (s + 1) (by omega)
            rw [show j + (s + 1) = j + 1 + s by omega] at this
            exact this
          · by_cases hs0 : s = 0
            · subst hs0; rw [Nat.add_zero]; exact Bool.not_eq_true _ |>.mp hb
            · have := q (s - 1) (by omega)
              rw [show j + 1 + (s - 1) = j + s by omega] at this
              exact this
        rw [eb, ← e3 Q, X29_2]
        rw [bI_f hb] at e72
        simp only [X29_3, X29_4, X29_7, X29_10, X29_13, X29_14, X29_17, X29_18, X29_21, X29_26, X29_29, Nat.zero_le, and_true, true_and, x_nb0, x_nb1, x_nbp, x_isL_int, x_isL_ref, x_isL_junk, x_isR_ref, x_cat_nil, x_cat_int, x_cat_ref, x_cat_long, Option.toList_some, Option.toList_none, List.cons_append, List.nil_append, Nat.reduceAdd, Nat.reduceLeDiff, Nat.reduceLT, t_tag_si, t_tag_sr, t_tag_sI, x_r_si, x_i_sr, t_r_sI, x_ia_si, x_ia_sI, x_ia_sr, x_ra_si, x_ra_sI, x_ra_sr, g_t0 hX1.sh, g_r0_4 hX1.sh, g_t22 hX1.sh, hX1.1.hS, nI_leF (show j < S by omega) (show S < 2 ^ 31 by omega), if_false, e72, if_true, nI_add]
  have lm : ∀ w0, ChA w w0 → ∀ n j, j + n = S → ∀ w1, Ch (sm [58, 59]) w0 w1 → ∃ w2, Ch (sm [58, 59]) w0 w2 ∧ ∀ Q, X_R L xs (d + 12) 205 2 [.ref 41, .int (nI j)] [] w1 Q = Q (some (.int (bI (∀ s, s < n → B (j + s) = false)))) w2 := by
    intro w0 c0 n
    induction n with
    | zero =>
      intro j hj w1 c1
      obtain rfl : j = S := by omega
      have hX1 := h.2.1.ch (c0.trans (c1.ma rfl))
      refine ⟨w1, c1, fun Q => ?_⟩
      rw [bI_t (fun s hs => absurd hs (Nat.not_lt_zero _)), X205_2]
      simp only [X205_3, X205_4, X205_7, X205_26, X205_27, Nat.zero_le, and_true, true_and, x_nb0, x_nb1, x_nbp, x_isL_int, x_isL_ref, x_isL_junk, x_isR_ref, x_cat_nil, x_cat_int, x_cat_ref, x_cat_long, Option.toList_some, Option.toList_none, List.cons_append, List.nil_append, Nat.reduceAdd, Nat.reduceLeDiff, Nat.reduceLT, t_tag_si, t_tag_sr, t_tag_sI, x_r_si, x_i_sr, t_r_sI, x_ia_si, x_ia_sI, x_ia_sr, x_ra_si, x_ra_sI, x_ra_sr, g_t41 hX1.sh, hX1.1.hS, nI_leT (Nat.le_refl j) (show j < 2 ^ 31 by omega), if_true]
    | succ n ih =>
      intro j hj w1 c1
      have hX1 := h.2.1.ch (c0.trans (c1.ma rfl))
      obtain ⟨w2, c2, e72⟩ := S206 (L := L) (xs := xs) (d := d + 1) hX1 (show j < S by omega)
      have ew : ∀ kt', (∀ q, q < 6 → kt' q < 20) → wcM w1 S kd td mo tl tk j kt' = wcX w S kd td mo tl tk j kt' := by
        intro kt' hk
        rw [h.wc hk (show j < S by omega)]
        unfold wcM
        rw [farM_ch (c0.trans (c1.ma rfl))]
      have eB : btB (freeB kt S) (fun k => wcM w1 S kd td mo tl tk j (updN kt j k)) (wcM w1 S kd td mo tl tk j kt) 20 = B j := by
        rw [hB, ew kt (fun q hq => (h.1.1.bd q hq).2.2.2)]
        exact btB_cg 20 (fun _ _ => rfl) (fun k hk => ew _ (kt_upd h hk))
      rw [eB] at e72
      by_cases hb : B j = true
      · refine ⟨w2, c1.trans c2, fun Q => ?_⟩
        rw [bI_f (fun q => by have := q 0 (by omega); rw [Nat.add_zero, hb] at this; exact Bool.noConfusion this), X205_2]
        rw [bI_f (by rw [hb]; decide)] at e72
        simp only [X205_3, X205_4, X205_7, X205_10, X205_11, X205_12, X205_15, X205_18, X205_19, Nat.zero_le, and_true, true_and, x_nb0, x_nb1, x_nbp, x_isL_int, x_isL_ref, x_isL_junk, x_isR_ref, x_cat_nil, x_cat_int, x_cat_ref, x_cat_long, Option.toList_some, Option.toList_none, List.cons_append, List.nil_append, Nat.reduceAdd, Nat.reduceLeDiff, Nat.reduceLT, t_tag_si, t_tag_sr, t_tag_sI, x_r_si, x_i_sr, t_r_sI, x_ia_si, x_ia_sI, x_ia_sr, x_ra_si, x_ra_sI, x_ra_sr, g_t41 hX1.sh, hX1.1.hS, nI_leF (show j < S by omega) (show S < 2 ^ 31 by omega), if_false, e72, if_true]
      · obtain ⟨w3, c3, e3⟩ := ih (j + 1) (by omega) w2 (c1.trans c2)
        refine ⟨w3, c3, fun Q => ?_⟩
        have eb : bI (∀ s, s < n + 1 → B (j + s) = false) = bI (∀ s, s < n → B (j + 1 + s) = false) := by
          refine bI_c ⟨fun q s hs => ?_, fun q s hs => ?_⟩
          · have := q (s + 1) (by omega)
            rw [show j + (s + 1) = j + 1 + s by omega] at this
            exact this
          · by_cases hs0 : s = 0
            · subst hs0; rw [Nat.add_zero]; exact Bool.not_eq_true _ |>.mp hb
            · have := q (s - 1) (by omega)
              rw [show j + 1 + (s - 1) = j + s by omega] at this
              exact this
        rw [eb, ← e3 Q, X205_2]
        rw [bI_t (Bool.not_eq_true _ |>.mp hb)] at e72
        simp only [X205_3, X205_4, X205_7, X205_10, X205_11, X205_12, X205_15, X205_20, X205_23, Nat.zero_le, and_true, true_and, x_nb0, x_nb1, x_nbp, x_isL_int, x_isL_ref, x_isL_junk, x_isR_ref, x_cat_nil, x_cat_int, x_cat_ref, x_cat_long, Option.toList_some, Option.toList_none, List.cons_append, List.nil_append, Nat.reduceAdd, Nat.reduceLeDiff, Nat.reduceLT, t_tag_si, t_tag_sr, t_tag_sI, x_r_si, x_i_sr, t_r_sI, x_ia_si, x_ia_sI, x_ia_sr, x_ra_si, x_ra_sI, x_ra_sr, g_t41 hX1.sh, hX1.1.hS, nI_leF (show j < S by omega) (show S < 2 ^ 31 by omega), if_false, e72, n10, nI_add]
  obtain ⟨w1, c1, hF1, e1⟩ := lx S 0 (by omega) w Ch.refl h.1.2.2
  obtain ⟨w2, c2, e2⟩ := lm w1 (c1.a rfl) S 0 (by omega) w1 Ch.refl
  refine ⟨.int (bI (∀ s, s < S → B (0 + s) = false)), w1, w2, (c1.a rfl).trans (c2.ma rfl), hF1.m c2 rfl rfl rfl, fun Q => ?_, fun Q => ?_⟩
  · rw [← e1 Q]
    simp only [X29_0, X29_1, Nat.zero_le, and_true, true_and, x_nb0, x_nb1, x_nbp, x_isL_int, x_isL_ref, x_isL_junk, x_isR_ref, x_cat_nil, x_cat_int, x_cat_ref, x_cat_long, Option.toList_some, Option.toList_none, List.cons_append, List.nil_append, Nat.reduceAdd, Nat.reduceLeDiff, Nat.reduceLT, t_tag_si, t_tag_sr, t_tag_sI, x_r_si, x_i_sr, t_r_sI, x_ia_si, x_ia_sI, x_ia_sr, x_ra_si, x_ra_sI, x_ra_sr]
  · rw [← e2 Q]
    simp only [X205_0, X205_1, Nat.zero_le, and_true, true_and, x_nb0, x_nb1, x_nbp, x_isL_int, x_isL_ref, x_isL_junk, x_isR_ref, x_cat_nil, x_cat_int, x_cat_ref, x_cat_long, Option.toList_some, Option.toList_none, List.cons_append, List.nil_append, Nat.reduceAdd, Nat.reduceLeDiff, Nat.reduceLT, t_tag_si, t_tag_sr, t_tag_sI, x_r_si, x_i_sr, t_r_sI, x_ia_si, x_ia_sI, x_ia_sr, x_ra_si, x_ra_sI, x_ra_sr]
end S91
