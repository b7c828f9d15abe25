/-! ===== nights by lot: drawn, odds ===== -/
def lotN (l : Int64) : Nat → Int64
  | 0 => l
  | n + 1 => lotN l n * 48271 - lotN l n * 48271 / 2147483647 * 2147483647
def lotW (l : Int64) (s : Nat) : Bool := decide (lg_cmp (lotN l (s + 1) - lotN l (s + 1) / 3 * 3) 0 = nI 0)
def lotM (v : Int32) (S : Nat) : Int32 := wkM (lotW (v.toInt64 + 1)) S
theorem k3 : ¬ (3 : Int64) = 0 := by decide
theorem kM : ¬ (2147483647 : Int64) = 0 := by decide
-- the quotient in lowest terms
def dvS (c n : Nat) : Nat → Nat
  | 0 => 0
  | d + 1 => if d = 0 then 1 else if c % (d + 1) = 0 ∧ n % (d + 1) = 0 then d + 1 else dvS c n d
def gcS : Nat → Nat → Nat → Nat
  | 0, a, _ => a
  | f + 1, a, b => if b = 0 then a else gcS f b (a % b)
theorem dv_gc : ∀ n, n < 31 → ∀ c, c < 31 → (decide (n = 0) || decide (c = 0) || (decide (c / dvS c n n = c / gcS 40 c n) && decide (n / dvS c n n = n / gcS 40 c n) && decide (0 < gcS 40 c n))) = true := by decide +kernel
theorem dv_0 : ∀ n, n < 31 → (decide (n = 0) || decide (dvS 0 n n = n)) = true := by decide +kernel
theorem gc_le : ∀ f a b, a ≤ 30 → b ≤ 30 → gcS f a b ≤ 30 := by
  intro f
  induction f with
  | zero => intro a b ha hb; exact ha
  | succ f ih =>
    intro a b ha hb
    unfold gcS
    split
    · exact ha
    · exact ih _ _ hb (by have := Nat.mod_lt a (show 0 < b by omega); omega)
theorem gc_end : ∀ f a b, b < f → gcS f a b = gcS (f + 1) a b := by
  intro f
  induction f with
  | zero => intro a b h; exact absurd h (Nat.not_lt_zero _)
  | succ f ih =>
    intro a b h
    unfold gcS
    by_cases hb : b = 0
    · rw [if_pos hb, if_pos hb]
    · rw [if_neg hb, if_neg hb]
      exact ih b (a % b) (by have := Nat.mod_lt a (show 0 < b by omega); omega)
theorem dvS_le {c n : Nat} : ∀ d, dvS c n d ≤ d := by
  intro d
  induction d with
  | zero => exact Nat.le_refl _
  | succ d ih => unfold dvS; split; omega; split; omega; omega
theorem dvS_pos {c n : Nat} : ∀ d, 0 < d → 0 < dvS c n d := by
  intro d
  induction d with
  | zero => intro h; exact absurd h (Nat.lt_irrefl _)
  | succ d ih => intro _; unfold dvS; split; omega; split; omega; exact ih (by omega)
theorem i30 : ∀ c, c < 31 → ∀ d, d < 31 → (decide (d = 0) || (decide (nI c - nI c / nI d * nI d = nI (c % d)) && decide (nI c / nI d = nI (c / d)))) = true := by decide +kernel
theorem l30 : ∀ c, c < 31 → ∀ d, d < 31 → (decide (d = 0) || (decide (lN c - lN c / lN d * lN d = lN (c % d)) && decide (lN c / lN d = lN (c / d)) && decide (lg_cmp (lN d) 0 ≠ nI 0) && decide (¬ lN d = 0))) = true := by decide +kernel
theorem i30' {c d : Nat} (hc : c < 31) (hd : d < 31) (h0 : d ≠ 0) : nI c - nI c / nI d * nI d = nI (c % d) ∧ nI c / nI d = nI (c / d) := by
  have h := i30 c hc d hd
  rw [decide_eq_false h0, Bool.false_or, Bool.and_eq_true, decide_eq_true_eq, decide_eq_true_eq] at h
  exact h
theorem l30' {c d : Nat} (hc : c < 31) (hd : d < 31) (h0 : d ≠ 0) : (lN c - lN c / lN d * lN d = lN (c % d) ∧ lN c / lN d = lN (c / d)) ∧ ¬ lg_cmp (lN d) 0 = nI 0 ∧ ¬ lN d = 0 := by
  have h := l30 c hc d hd
  rw [decide_eq_false h0, Bool.false_or, Bool.and_eq_true, Bool.and_eq_true, Bool.and_eq_true, decide_eq_true_eq, decide_eq_true_eq, decide_eq_true_eq, decide_eq_true_eq] at h
  exact ⟨h.1.1, h.1.2, h.2⟩
def calmN (f : Int32 → Int32) (v : Int32) (S : Nat) : Nat → Nat
  | 0 => 0
  | n + 1 => calmN f v S n + if f (lotM (v + nI n) S) &&& (lotM (v + nI n) S ^^^ (-1)) = nI 0 then 1 else 0
theorem calmN_le {f : Int32 → Int32} {v : Int32} {S : Nat} (n : Nat) : calmN f v S n ≤ n := by
  induction n with
  | zero => exact Nat.le_refl _
  | succ n ih => unfold calmN; split <;> omega
theorem calm_t {f : Int32 → Int32} {v : Int32} {S n : Nat} (h : f (lotM (v + nI n) S) &&& (lotM (v + nI n) S ^^^ (-1)) = nI 0) : calmN f v S (n + 1) = calmN f v S n + 1 := by
  show calmN f v S n + (if _ then 1 else 0) = _
  rw [if_pos h]
theorem calm_f {f : Int32 → Int32} {v : Int32} {S n : Nat} (h : ¬ f (lotM (v + nI n) S) &&& (lotM (v + nI n) S ^^^ (-1)) = nI 0) : calmN f v S (n + 1) = calmN f v S n := by
  show calmN f v S n + (if _ then 1 else 0) = _
  rw [if_neg h, Nat.add_zero]
section S98
variable {L : Nat} {xs : Nat → Int32} {d : Nat} {w w' : x_W} {S : Nat} {kd td mo kt tl : Nat → Nat} {tk : Nat → Nat → Nat}
theorem S42 {v : Int32} {Q : Option Value → x_W → Prop} (h : CX w S kd td mo kt) : X_R L xs d 42 0 [.ref 0, .int v, x_junk, x_junk, x_junk, x_junk] [] w Q = Q (some (.int (lotM v S))) w := by
  have h6 := h.S6
  have hs := h.sh
  have loop : ∀ n j, j + n = S → X_R L xs d 42 11 [.ref 0, .int v, .long (lotN (v.toInt64 + 1) j), x_junk, .int (wkM (lotW (v.toInt64 + 1)) j), .int (nI j)] [] w Q = Q (some (.int (lotM v S))) w := by
    intro n
    induction n with
    | zero =>
      intro j hj
      obtain rfl : j = S := by omega
      rw [X42_11]
      simp only [X42_13, X42_14, X42_17, X42_20, X42_58, X42_60, Nat.zero_le, and_true, true_and, x_nb0, x_nb1, x_nbp, x_isL_int, x_isL_ref, x_isL_junk, x_isR_ref, x_cat_nil, x_cat_int, x_cat_ref, x_cat_long, Option.toList_some, Option.toList_none, List.cons_append, List.nil_append, Nat.reduceAdd, Nat.reduceLeDiff, Nat.reduceLT, t_tag_si, t_tag_sr, t_tag_sI, x_r_si, x_i_sr, t_r_sI, x_ia_si, x_ia_sI, x_ia_sr, x_ra_si, x_ra_sI, x_ra_sr, g_t0 hs, g_r0_4 hs, g_t22 hs, h.hS, nI_leT (Nat.le_refl j) (show j < 2 ^ 31 by omega), if_true]
      rfl
    | succ n ih =>
      intro j hj
      rw [← ih (j + 1) (by omega), X42_11]
      have e1 : lotN (v.toInt64 + 1) j * 48271 - lotN (v.toInt64 + 1) j * 48271 / 2147483647 * 2147483647 = lotN (v.toInt64 + 1) (j + 1) := rfl
      by_cases hb : lotW (v.toInt64 + 1) j = true
      · rw [wkM_t hb]
        unfold lotW at hb
        rw [decide_eq_true_eq] at hb
        simp only [X42_0, X42_1, X42_2, X42_3, X42_4, X42_5, X42_6, X42_8, X42_9, X42_13, X42_14, X42_17, X42_20, X42_23, X42_24, X42_27, X42_28, X42_31, X42_32, X42_33, X42_34, X42_37, X42_38, X42_39, X42_40, X42_43, X42_45, X42_46, X42_48, X42_49, X42_50, X42_52, X42_55, X42_58, X42_60, Nat.zero_le, and_true, true_and, x_nb0, x_nb1, x_nbp, x_isL_int, x_isL_ref, x_isL_junk, x_isR_ref, x_cat_nil, x_cat_int, x_cat_ref, x_cat_long, Option.toList_some, Option.toList_none, List.cons_append, List.nil_append, Nat.reduceAdd, Nat.reduceLeDiff, Nat.reduceLT, t_tag_si, t_tag_sr, t_tag_sI, x_r_si, x_i_sr, t_r_sI, x_ia_si, x_ia_sI, x_ia_sr, x_ra_si, x_ra_sI, x_ra_sr, g_t0 hs, g_r0_4 hs, g_t22 hs, h.hS, nI_leF (show j < S by omega) (show S < 2 ^ 31 by omega), if_false, kM, k3, not_false_eq_true, e1, hb, if_true, nI_add]
      · rw [wkM_f hb]
        unfold lotW at hb
        rw [decide_eq_true_eq] at hb
        simp only [X42_0, X42_1, X42_2, X42_3, X42_4, X42_5, X42_6, X42_8, X42_9, X42_13, X42_14, X42_17, X42_20, X42_23, X42_24, X42_27, X42_28, X42_31, X42_32, X42_33, X42_34, X42_37, X42_38, X42_39, X42_40, X42_43, X42_45, X42_46, X42_48, X42_49, X42_50, X42_52, X42_55, X42_58, X42_60, Nat.zero_le, and_true, true_and, x_nb0, x_nb1, x_nbp, x_isL_int, x_isL_ref, x_isL_junk, x_isR_ref, x_cat_nil, x_cat_int, x_cat_ref, x_cat_long, Option.toList_some, Option.toList_none, List.cons_append, List.nil_append, Nat.reduceAdd, Nat.reduceLeDiff, Nat.reduceLT, t_tag_si, t_tag_sr, t_tag_sI, x_r_si, x_i_sr, t_r_sI, x_ia_si, x_ia_sI, x_ia_sr, x_ra_si, x_ra_sI, x_ra_sr, g_t0 hs, g_r0_4 hs, g_t22 hs, h.hS, nI_leF (show j < S by omega) (show S < 2 ^ 31 by omega), if_false, kM, k3, not_false_eq_true, e1, hb, nI_add]
  have e := loop S 0 (by omega)
  rw [← e]
  simp only [X42_0, X42_1, X42_2, X42_3, X42_4, X42_5, X42_6, X42_8, X42_9, Nat.zero_le, and_true, true_and, x_nb0, x_nb1, x_nbp, x_isL_int, x_isL_ref, x_isL_junk, x_isR_ref, x_cat_nil, x_cat_int, x_cat_ref, x_cat_long, Option.toList_some, Option.toList_none, List.cons_append, List.nil_append, Nat.reduceAdd, Nat.reduceLeDiff, Nat.reduceLT, t_tag_si, t_tag_sr, t_tag_sI, x_r_si, x_i_sr, t_r_sI, x_ia_si, x_ia_sI, x_ia_sr, x_ra_si, x_ra_sI, x_ra_sr]
  rfl
theorem S221 {v : Int32} {Q : Option Value → x_W → Prop} (h : CM w S kd td mo kt) : X_R L xs d 221 0 [.ref 41, .int v, x_junk, x_junk, x_junk, x_junk] [] w Q = Q (some (.int (lotM v S))) w := by
  have h6 := h.S6
  have hs := h.sh
  have loop : ∀ n j, j + n = S → X_R L xs d 221 11 [.ref 41, .int v, .long (lotN (v.toInt64 + 1) j), x_junk, .int (wkM (lotW (v.toInt64 + 1)) j), .int (nI j)] [] w Q = Q (some (.int (lotM v S))) w := by
    intro n
    induction n with
    | zero =>
      intro j hj
      obtain rfl : j = S := by omega
      rw [X221_11]
      simp only [X221_13, X221_14, X221_17, X221_59, X221_61, Nat.zero_le, and_true, true_and, x_nb0, x_nb1, x_nbp, x_isL_int, x_isL_ref, x_isL_junk, x_isR_ref, x_cat_nil, x_cat_int, x_cat_ref, x_cat_long, Option.toList_some, Option.toList_none, List.cons_append, List.nil_append, Nat.reduceAdd, Nat.reduceLeDiff, Nat.reduceLT, t_tag_si, t_tag_sr, t_tag_sI, x_r_si, x_i_sr, t_r_sI, x_ia_si, x_ia_sI, x_ia_sr, x_ra_si, x_ra_sI, x_ra_sr, g_t41 hs, h.hS, nI_leT (Nat.le_refl j) (show j < 2 ^ 31 by omega), if_true]
      rfl
    | succ n ih =>
      intro j hj
      rw [← ih (j + 1) (by omega), X221_11]
      have e1 : lotN (v.toInt64 + 1) j * 48271 - lotN (v.toInt64 + 1) j * 48271 / 2147483647 * 2147483647 = lotN (v.toInt64 + 1) (j + 1) := rfl
      by_cases hb : lotW (v.toInt64 + 1) j = true
      · rw [wkM_t hb]
        unfold lotW at hb
        rw [decide_eq_true_eq] at hb
        simp only [X221_0, X221_1, X221_2, X221_3, X221_4, X221_5, X221_6, X221_8, X221_9, X221_13, X221_14, X221_17, X221_20, X221_21, X221_24, X221_25, X221_28, X221_29, X221_30, X221_32, X221_33, X221_36, X221_37, X221_38, X221_39, X221_42, X221_43, X221_45, X221_46, X221_49, X221_50, X221_51, X221_53, X221_56, X221_59, X221_61, Nat.zero_le, and_true, true_and, x_nb0, x_nb1, x_nbp, x_isL_int, x_isL_ref, x_isL_junk, x_isR_ref, x_cat_nil, x_cat_int, x_cat_ref, x_cat_long, Option.toList_some, Option.toList_none, List.cons_append, List.nil_append, Nat.reduceAdd, Nat.reduceLeDiff, Nat.reduceLT, t_tag_si, t_tag_sr, t_tag_sI, x_r_si, x_i_sr, t_r_sI, x_ia_si, x_ia_sI, x_ia_sr, x_ra_si, x_ra_sI, x_ra_sr, g_t41 hs, h.hS, nI_leF (show j < S by omega) (show S < 2 ^ 31 by omega), if_false, kM, k3, not_false_eq_true, e1, hb, if_true, nI_add]
      · rw [wkM_f hb]
        unfold lotW at hb
        rw [decide_eq_true_eq] at hb
        simp only [X221_0, X221_1, X221_2, X221_3, X221_4, X221_5, X221_6, X221_8, X221_9, X221_13, X221_14, X221_17, X221_20, X221_21, X221_24, X221_25, X221_28, X221_29, X221_30, X221_32, X221_33, X221_36, X221_37, X221_38, X221_39, X221_42, X221_43, X221_45, X221_46, X221_49, X221_50, X221_51, X221_53, X221_56, X221_59, X221_61, Nat.zero_le, and_true, true_and, x_nb0, x_nb1, x_nbp, x_isL_int, x_isL_ref, x_isL_junk, x_isR_ref, x_cat_nil, x_cat_int, x_cat_ref, x_cat_long, Option.toList_some, Option.toList_none, List.cons_append, List.nil_append, Nat.reduceAdd, Nat.reduceLeDiff, Nat.reduceLT, t_tag_si, t_tag_sr, t_tag_sI, x_r_si, x_i_sr, t_r_sI, x_ia_si, x_ia_sI, x_ia_sr, x_ra_si, x_ra_sI, x_ra_sr, g_t41 hs, h.hS, nI_leF (show j < S by omega) (show S < 2 ^ 31 by omega), if_false, kM, k3, not_false_eq_true, e1, hb, or_0, nI_add]
  have e := loop S 0 (by omega)
  rw [← e]
  simp only [X221_0, X221_1, X221_2, X221_3, X221_4, X221_5, X221_6, X221_8, X221_9, Nat.zero_le, and_true, true_and, x_nb0, x_nb1, x_nbp, x_isL_int, x_isL_ref, x_isL_junk, x_isR_ref, x_cat_nil, x_cat_int, x_cat_ref, x_cat_long, Option.toList_some, Option.toList_none, List.cons_append, List.nil_append, Nat.reduceAdd, Nat.reduceLeDiff, Nat.reduceLT, t_tag_si, t_tag_sr, t_tag_sI, x_r_si, x_i_sr, t_r_sI, x_ia_si, x_ia_sI, x_ia_sr, x_ra_si, x_ra_sI, x_ra_sr]
  rfl
/-- who wakes by whom, noted on both sides -/
theorem noteXM (h : AG w S kd td mo kt tl tk) : ∃ (T : Nat → Int32) (w1 : x_W), Ch (sc [28, 33, 34]) w w1 ∧ FarOk w1 ∧ (∀ b, b < S → x_i w1 33 b = T b) ∧ (∀ Q, X_R L xs (d + 6) 67 0 [.ref 22, x_junk] [] w Q = Q none w1) ∧ ∀ w2, ChA w w2 → ∃ w3, Ch (sm [58, 59, 65]) w2 w3 ∧ (∀ b, b < S → x_i w3 65 b = T b) ∧ ∀ Q, X_R L xs (d + 6) 195 0 [.ref 41, x_junk] [] w2 Q = Q none w3 := by
  have h6 := h.1.1.S6
  obtain ⟨w1, c1, hF1, hT1, e67⟩ := S67 (L := L) (xs := xs) (d := d) h.1
  refine ⟨fun b => wkM (fun s => wkB kd td mo kt tl tk (farX w kt) s b) S, w1, c1, hF1, hT1, e67, fun w2 c2 => ?_⟩
  obtain ⟨w3, c3, hT3, e195⟩ := S195 (L := L) (xs := xs) (d := d) (h.2.1.ch c2)
  rw [farM_ch c2] at hT3
  exact ⟨w3, c3, fun b hb => by rw [hT3 b hb]; exact (h.M (show b < 6 by omega)).symm, e195⟩
theorem AQ_drawn (h : AG w S kd td mo kt tl tk) (u v : Int32) : AQ L xs (d + 12) 41 220 [.ref 0, .int u, .int v, x_junk] [.ref 41, .int u, .int v, x_junk] w := by
  have hs := h.1.sh
  have h6 := h.1.1.S6
  have h01 : bI (nI 0 ≤ v ∧ v ≤ nI 1) = bI (v = nI 0 ∨ v = nI 1) := bI_c (by rw [in01])
  by_cases h1 : nI 0 ≤ u ∧ u ≤ nI 99999
  · by_cases h2 : v = nI 0 ∨ v = nI 1
    · have e4 := fun (w : x_W) (Q' : Option Value → x_W → Prop) => b4_t (L := L) (xs := xs) (d := d + 11) (w := w) (Q := Q') h2
      have e10 : ∀ (w : x_W) (Q' : Option Value → x_W → Prop), X_R L xs (d + 11) 10 0 [.int u, .int (nI 0), .int (nI 99999)] [] w Q' = Q' (some (.int (nI 1))) w := fun w Q' => by rw [S10, bI_t h1]
      have e138 := fun (w : x_W) (Q' : Option Value → x_W → Prop) => b138_t (L := L) (xs := xs) (d := d + 11) (w := w) (Q := Q') h2
      have e138' : ∀ (w : x_W) (Q' : Option Value → x_W → Prop), X_R L xs (d + 11) 138 0 [.int u, .int (nI 0), .int (nI 99999)] [] w Q' = Q' (some (.int (nI 1))) w := fun w Q' => by rw [S138, bI_t h1]
      have e42 := fun (Q' : Option Value → x_W → Prop) => S42 (L := L) (xs := xs) (d := d + 11) (v := u) (Q := Q') h.1.1
      obtain ⟨T, w1, c1, hF1, hT1, e67, hM⟩ := noteXM (L := L) (xs := xs) (d := d + 5) h
      have hX1 := h.1.1.ch (c1.a rfl)
      by_cases hv : v = nI 0
      · obtain ⟨w3, c3, hT3, e195⟩ := hM w Ch.refl
        have e221 := fun (Q' : Option Value → x_W → Prop) => S221 (L := L) (xs := xs) (d := d + 11) (v := u) (Q := Q') h.2.1.1
        refine ⟨.int (lotM u S), w, w3, c3.ma rfl, h.1.2.2.m c3 rfl rfl rfl, fun Q => ?_, fun Q => ?_⟩
        · simp only [X41_0, X41_1, X41_2, X41_4, X41_7, X41_10, X41_11, X41_14, X41_17, X41_19, X41_20, X41_21, X41_22, X41_25, X41_26, X41_27, X41_30, X41_31, X41_32, X41_33, X41_36, X41_39, X41_40, X41_43, X41_44, X41_47, X41_48, X41_49, X41_50, X41_51, Nat.zero_le, and_true, true_and, x_nb0, x_nb1, x_nbp, x_isL_int, x_isL_ref, x_isL_junk, x_isR_ref, x_cat_nil, x_cat_int, x_cat_ref, x_cat_long, Option.toList_some, Option.toList_none, List.cons_append, List.nil_append, Nat.reduceAdd, Nat.reduceLeDiff, Nat.reduceLT, t_tag_si, t_tag_sr, t_tag_sI, x_r_si, x_i_sr, t_r_sI, x_ia_si, x_ia_sI, x_ia_sr, x_ra_si, x_ra_sI, x_ra_sr, e10, n10, if_false, e4, g_t0 hs, e42, eq_true hv, if_true]
        · simp only [X220_0, X220_1, X220_2, X220_5, X220_8, X220_11, X220_12, X220_13, X220_14, X220_17, X220_20, X220_22, X220_23, X220_24, X220_25, X220_28, X220_29, X220_30, X220_33, X220_34, X220_37, X220_38, X220_41, X220_42, X220_43, X220_46, X220_47, X220_48, X220_49, X220_50, Nat.zero_le, and_true, true_and, x_nb0, x_nb1, x_nbp, x_isL_int, x_isL_ref, x_isL_junk, x_isR_ref, x_cat_nil, x_cat_int, x_cat_ref, x_cat_long, Option.toList_some, Option.toList_none, List.cons_append, List.nil_append, Nat.reduceAdd, Nat.reduceLeDiff, Nat.reduceLT, t_tag_si, t_tag_sr, t_tag_sI, x_r_si, x_i_sr, t_r_sI, x_ia_si, x_ia_sI, x_ia_sr, x_ra_si, x_ra_sI, x_ra_sr, e138', n10, if_false, e138, g_t41 hs, e221, e195, eq_true hv, if_true]
      · obtain ⟨w3, c3, hT3, e195⟩ := hM w1 (c1.a rfl)
        have hM1 := h.2.1.1.ch (c1.a rfl)
        have hM3 := hM1.ch (c3.ma rfl)
        have hs1 := hX1.sh
        have hs3 := hM3.sh
        have e221 := fun (Q' : Option Value → x_W → Prop) => S221 (L := L) (xs := xs) (d := d + 11) (v := u) (Q := Q') hM1
        have e68 := fun (Q' : Option Value → x_W → Prop) => S68 (L := L) (xs := xs) (d := d + 11) (Q := Q') hX1 (t := lotM u S) hT1
        have e198 := fun (Q' : Option Value → x_W → Prop) => S198 (L := L) (xs := xs) (d := d + 11) (Q := Q') hM3 (t := lotM u S) hT3
        refine ⟨.int (anyM T (lotM u S) S &&& (lotM u S ^^^ (-1))), w1, w3, (c1.a rfl).trans (c3.ma rfl), hF1.m c3 rfl rfl rfl, fun Q => ?_, fun Q => ?_⟩
        · simp only [X41_0, X41_1, X41_2, X41_4, X41_7, X41_10, X41_11, X41_14, X41_17, X41_19, X41_20, X41_21, X41_22, X41_25, X41_26, X41_27, X41_30, X41_31, X41_32, X41_33, X41_36, X41_39, X41_40, X41_43, X41_44, X41_47, X41_48, X41_49, X41_50, X41_51, Nat.zero_le, and_true, true_and, x_nb0, x_nb1, x_nbp, x_isL_int, x_isL_ref, x_isL_junk, x_isR_ref, x_cat_nil, x_cat_int, x_cat_ref, x_cat_long, Option.toList_some, Option.toList_none, List.cons_append, List.nil_append, Nat.reduceAdd, Nat.reduceLeDiff, Nat.reduceLT, t_tag_si, t_tag_sr, t_tag_sI, x_r_si, x_i_sr, t_r_sI, x_ia_si, x_ia_sI, x_ia_sr, x_ra_si, x_ra_sI, x_ra_sr, e10, n10, if_false, e4, g_t0 hs, e42, eq_false hv, g_r0_4 hs, g_t22 hs, e67, g_t0 hs1, g_r0_4 hs1, g_t22 hs1, e68]
        · simp only [X220_0, X220_1, X220_2, X220_5, X220_8, X220_11, X220_12, X220_13, X220_14, X220_17, X220_20, X220_22, X220_23, X220_24, X220_25, X220_28, X220_29, X220_30, X220_33, X220_34, X220_37, X220_38, X220_41, X220_42, X220_43, X220_46, X220_47, X220_48, X220_49, X220_50, Nat.zero_le, and_true, true_and, x_nb0, x_nb1, x_nbp, x_isL_int, x_isL_ref, x_isL_junk, x_isR_ref, x_cat_nil, x_cat_int, x_cat_ref, x_cat_long, Option.toList_some, Option.toList_none, List.cons_append, List.nil_append, Nat.reduceAdd, Nat.reduceLeDiff, Nat.reduceLT, t_tag_si, t_tag_sr, t_tag_sI, x_r_si, x_i_sr, t_r_sI, x_ia_si, x_ia_sI, x_ia_sr, x_ra_si, x_ra_sI, x_ra_sr, e138', n10, if_false, e138, g_t41 hs1, e221, e195, eq_false hv, g_t41 hs3, e198]
    · have e10 : ∀ (w : x_W) (Q' : Option Value → x_W → Prop), X_R L xs (d + 11) 10 0 [.int u, .int (nI 0), .int (nI 99999)] [] w Q' = Q' (some (.int (nI 1))) w := fun w Q' => by rw [S10, bI_t h1]
      have e138' : ∀ (w : x_W) (Q' : Option Value → x_W → Prop), X_R L xs (d + 11) 138 0 [.int u, .int (nI 0), .int (nI 99999)] [] w Q' = Q' (some (.int (nI 1))) w := fun w Q' => by rw [S138, bI_t h1]
      refine AQ_no (v := .int (-2)) h.1.2.2 (fun Q => ?_) (fun Q => ?_)
      · simp only [X41_0, X41_1, X41_2, X41_4, X41_7, X41_10, X41_11, X41_14, X41_17, X41_19, Nat.zero_le, and_true, true_and, x_nb0, x_nb1, x_nbp, x_isL_int, x_isL_ref, x_isL_junk, x_isR_ref, x_cat_nil, x_cat_int, x_cat_ref, x_cat_long, Option.toList_some, Option.toList_none, List.cons_append, List.nil_append, Nat.reduceAdd, Nat.reduceLeDiff, Nat.reduceLT, t_tag_si, t_tag_sr, t_tag_sI, x_r_si, x_i_sr, t_r_sI, x_ia_si, x_ia_sI, x_ia_sr, x_ra_si, x_ra_sI, x_ra_sr, e10, n10, if_false, S4, bI_f h2, if_true]
      · simp only [X220_0, X220_1, X220_2, X220_5, X220_8, X220_11, X220_12, X220_13, X220_14, X220_17, X220_20, X220_22, Nat.zero_le, and_true, true_and, x_nb0, x_nb1, x_nbp, x_isL_int, x_isL_ref, x_isL_junk, x_isR_ref, x_cat_nil, x_cat_int, x_cat_ref, x_cat_long, Option.toList_some, Option.toList_none, List.cons_append, List.nil_append, Nat.reduceAdd, Nat.reduceLeDiff, Nat.reduceLT, t_tag_si, t_tag_sr, t_tag_sI, x_r_si, x_i_sr, t_r_sI, x_ia_si, x_ia_sI, x_ia_sr, x_ra_si, x_ra_sI, x_ra_sr, e138', n10, if_false, S138, h01, bI_f h2, if_true]
  · refine AQ_no (v := .int (-2)) h.1.2.2 (fun Q => ?_) (fun Q => ?_)
    · simp only [X41_0, X41_1, X41_2, X41_4, X41_7, X41_17, X41_19, Nat.zero_le, and_true, true_and, x_nb0, x_nb1, x_nbp, x_isL_int, x_isL_ref, x_isL_junk, x_isR_ref, x_cat_nil, x_cat_int, x_cat_ref, x_cat_long, Option.toList_some, Option.toList_none, List.cons_append, List.nil_append, Nat.reduceAdd, Nat.reduceLeDiff, Nat.reduceLT, t_tag_si, t_tag_sr, t_tag_sI, x_r_si, x_i_sr, t_r_sI, x_ia_si, x_ia_sI, x_ia_sr, x_ra_si, x_ra_sI, x_ra_sr, S10, bI_f h1, if_true]
    · simp only [X220_0, X220_1, X220_2, X220_5, X220_8, X220_20, X220_22, Nat.zero_le, and_true, true_and, x_nb0, x_nb1, x_nbp, x_isL_int, x_isL_ref, x_isL_junk, x_isR_ref, x_cat_nil, x_cat_int, x_cat_ref, x_cat_long, Option.toList_some, Option.toList_none, List.cons_append, List.nil_append, Nat.reduceAdd, Nat.reduceLeDiff, Nat.reduceLT, t_tag_si, t_tag_sr, t_tag_sI, x_r_si, x_i_sr, t_r_sI, x_ia_si, x_ia_sI, x_ia_sr, x_ra_si, x_ra_sI, x_ra_sr, S138, bI_f h1, if_true]
theorem S43l (h : CX w S kd td mo kt) {T : Nat → Int32} (hT : ∀ b, b < S → x_i w 33 b = T b) (a v3 : Int32) {N : Nat} (hN : N < 31) : ∀ n j, j + n = N → ∀ u6 : Value, x_isL u6 = false → ∃ u, ∀ Q, X_R L xs (d + 12) 43 44 [.ref 0, .int a, .int (nI N), .int v3, .int (nI (calmN (fun t => anyM T t S) a S j)), .int (nI j), u6] [] w Q = X_R L xs (d + 12) 43 86 [.ref 0, .int a, .int (nI N), .int v3, .int (nI (calmN (fun t => anyM T t S) a S N)), .int (nI N), u] [] w Q := by
  have hs := h.sh
  have e68 := fun (t : Int32) (Q' : Option Value → x_W → Prop) => S68 (L := L) (xs := xs) (d := d + 11) (Q := Q') h (t := t) hT
  have e42 := fun (v : Int32) (Q' : Option Value → x_W → Prop) => S42 (L := L) (xs := xs) (d := d + 11) (v := v) (Q := Q') h
  intro n
  induction n with
  | zero =>
    intro j hj u6 h6
    obtain rfl : j = N := by omega
    refine ⟨u6, fun Q => ?_⟩
    rw [X43_44]
    simp only [X43_46, X43_47, Nat.zero_le, and_true, true_and, x_nb0, x_nb1, x_nbp, x_isL_int, x_isL_ref, x_isL_junk, x_isR_ref, x_cat_nil, x_cat_int, x_cat_ref, x_cat_long, Option.toList_some, Option.toList_none, List.cons_append, List.nil_append, Nat.reduceAdd, Nat.reduceLeDiff, Nat.reduceLT, t_tag_si, t_tag_sr, t_tag_sI, x_r_si, x_i_sr, t_r_sI, x_ia_si, x_ia_sI, x_ia_sr, x_ra_si, x_ra_sI, x_ra_sr, nI_leT (Nat.le_refl j) (show j < 2 ^ 31 by omega), if_true]
  | succ n ih =>
    intro j hj u6 h6
    obtain ⟨u, e⟩ := ih (j + 1) (by omega) (.int (lotM (a + nI j) S)) rfl
    refine ⟨u, fun Q => ?_⟩
    rw [← e Q, X43_44]
    by_cases hb : anyM T (lotM (a + nI j) S) S &&& (lotM (a + nI j) S ^^^ (-1)) = nI 0
    · rw [calm_t (f := fun t => anyM T t S) hb]
      simp only [X43_46, X43_47, X43_50, X43_51, X43_52, X43_54, X43_55, X43_58, X43_60, X43_61, X43_64, X43_66, X43_69, X43_71, X43_72, X43_73, X43_74, X43_77, X43_80, X43_83, Nat.zero_le, and_true, true_and, x_nb0, x_nb1, x_nbp, x_isL_int, x_isL_ref, x_isL_junk, x_isR_ref, x_cat_nil, x_cat_int, x_cat_ref, x_cat_long, Option.toList_some, Option.toList_none, List.cons_append, List.nil_append, Nat.reduceAdd, Nat.reduceLeDiff, Nat.reduceLT, t_tag_si, t_tag_sr, t_tag_sI, x_r_si, x_i_sr, t_r_sI, x_ia_si, x_ia_sI, x_ia_sr, x_ra_si, x_ra_sI, x_ra_sr, h6, nI_leF (show j < N by omega) (show N < 2 ^ 31 by omega), if_false, g_t0 hs, g_r0_4 hs, g_t22 hs, e42, e68, hb, if_true, nI_add]
    · rw [calm_f (f := fun t => anyM T t S) hb]
      simp only [X43_46, X43_47, X43_50, X43_51, X43_52, X43_54, X43_55, X43_58, X43_60, X43_61, X43_64, X43_66, X43_69, X43_71, X43_72, X43_73, X43_74, X43_77, X43_80, X43_83, Nat.zero_le, and_true, true_and, x_nb0, x_nb1, x_nbp, x_isL_int, x_isL_ref, x_isL_junk, x_isR_ref, x_cat_nil, x_cat_int, x_cat_ref, x_cat_long, Option.toList_some, Option.toList_none, List.cons_append, List.nil_append, Nat.reduceAdd, Nat.reduceLeDiff, Nat.reduceLT, t_tag_si, t_tag_sr, t_tag_sI, x_r_si, x_i_sr, t_r_sI, x_ia_si, x_ia_sI, x_ia_sr, x_ra_si, x_ra_sI, x_ra_sr, h6, nI_leF (show j < N by omega) (show N < 2 ^ 31 by omega), if_false, g_t0 hs, g_r0_4 hs, g_t22 hs, e42, e68, hb, nI_add]
theorem S43d {a v3 : Int32} {N c : Nat} (hN : N < 31) (hc : c < 31) (v6 : Value) {Q : Option Value → x_W → Prop} : ∀ q, q ≤ N → 0 < q → X_R L xs (d + 12) 43 89 [.ref 0, .int a, .int (nI N), .int v3, .int (nI c), .int (nI q), v6] [] w Q = X_R L xs (d + 12) 43 116 [.ref 0, .int a, .int (nI N), .int v3, .int (nI c), .int (nI (dvS c N q)), v6] [] w Q := by
  intro q
  induction q with
  | zero => intro _ h; exact absurd h (Nat.lt_irrefl _)
  | succ q ih =>
    intro hq _
    unfold dvS
    rw [X43_89]
    by_cases h0 : q = 0
    · subst h0
      rw [if_pos rfl]
      simp only [X43_91, X43_92, Nat.zero_le, and_true, true_and, x_nb0, x_nb1, x_nbp, x_isL_int, x_isL_ref, x_isL_junk, x_isR_ref, x_cat_nil, x_cat_int, x_cat_ref, x_cat_long, Option.toList_some, Option.toList_none, List.cons_append, List.nil_append, Nat.reduceAdd, Nat.reduceLeDiff, Nat.reduceLT, t_tag_si, t_tag_sr, t_tag_sI, x_r_si, x_i_sr, t_r_sI, x_ia_si, x_ia_sI, x_ia_sr, x_ra_si, x_ra_sI, x_ra_sr, nI_leT (Nat.le_refl 1) (show 1 < 2 ^ 31 by decide), if_true, Nat.zero_add]
    · rw [if_neg h0]
      obtain ⟨r1, r2⟩ := i30' hc (show q + 1 < 31 by omega) (by omega)
      obtain ⟨s1, s2⟩ := i30' hN (show q + 1 < 31 by omega) (by omega)
      have hne : ¬ nI (q + 1) = nI 0 := fun z => by have := (nI_eq (show q + 1 < 2 ^ 31 by omega) (by decide)).mp z; omega
      have hle := nI_leF (show 1 < q + 1 by omega) (show q + 1 < 2 ^ 31 by omega)
      have hdec : nI (q + 1) + (-1) = nI q := nI_m1 q
      have m1 : (nI (c % (q + 1)) = nI 0) = (c % (q + 1) = 0) := nI_eqD (by have := Nat.mod_le c (q + 1); omega) (by decide)
      have m2 : (nI (N % (q + 1)) = nI 0) = (N % (q + 1) = 0) := nI_eqD (by have := Nat.mod_le N (q + 1); omega) (by decide)
      by_cases hA : c % (q + 1) = 0
      · by_cases hB : N % (q + 1) = 0
        · rw [if_pos ⟨hA, hB⟩]
          simp only [X43_91, X43_92, X43_95, X43_97, X43_99, X43_100, X43_103, X43_104, X43_106, X43_107, Nat.zero_le, and_true, true_and, x_nb0, x_nb1, x_nbp, x_isL_int, x_isL_ref, x_isL_junk, x_isR_ref, x_cat_nil, x_cat_int, x_cat_ref, x_cat_long, Option.toList_some, Option.toList_none, List.cons_append, List.nil_append, Nat.reduceAdd, Nat.reduceLeDiff, Nat.reduceLT, t_tag_si, t_tag_sr, t_tag_sI, x_r_si, x_i_sr, t_r_sI, x_ia_si, x_ia_sI, x_ia_sr, x_ra_si, x_ra_sI, x_ra_sr, hle, if_false, hne, not_false_eq_true, r1, s1, m1, m2, hA, hB, if_true]
        · rw [if_neg (fun z => hB z.2), ← ih (by omega) (by omega)]
          simp only [X43_91, X43_92, X43_95, X43_97, X43_99, X43_100, X43_103, X43_104, X43_106, X43_107, X43_110, X43_113, Nat.zero_le, and_true, true_and, x_nb0, x_nb1, x_nbp, x_isL_int, x_isL_ref, x_isL_junk, x_isR_ref, x_cat_nil, x_cat_int, x_cat_ref, x_cat_long, Option.toList_some, Option.toList_none, List.cons_append, List.nil_append, Nat.reduceAdd, Nat.reduceLeDiff, Nat.reduceLT, t_tag_si, t_tag_sr, t_tag_sI, x_r_si, x_i_sr, t_r_sI, x_ia_si, x_ia_sI, x_ia_sr, x_ra_si, x_ra_sI, x_ra_sr, hle, if_false, hne, not_false_eq_true, r1, s1, m1, m2, hA, hB, if_true, hdec]
      · rw [if_neg (fun z => hA z.1), ← ih (by omega) (by omega)]
        simp only [X43_91, X43_92, X43_95, X43_97, X43_99, X43_100, X43_110, X43_113, Nat.zero_le, and_true, true_and, x_nb0, x_nb1, x_nbp, x_isL_int, x_isL_ref, x_isL_junk, x_isR_ref, x_cat_nil, x_cat_int, x_cat_ref, x_cat_long, Option.toList_some, Option.toList_none, List.cons_append, List.nil_append, Nat.reduceAdd, Nat.reduceLeDiff, Nat.reduceLT, t_tag_si, t_tag_sr, t_tag_sI, x_r_si, x_i_sr, t_r_sI, x_ia_si, x_ia_sI, x_ia_sr, x_ra_si, x_ra_sI, x_ra_sr, hle, if_false, hne, not_false_eq_true, r1, m1, hA, hdec]
theorem S222l (h : CM w S kd td mo kt) {T : Nat → Int32} (hT : ∀ b, b < S → x_i w 65 b = T b) (a v3 : Int32) {N : Nat} (hN : N < 31) : ∀ n j, j + n = N → ∀ u7 : Value, x_isL u7 = false → ∃ u, ∀ Q, X_R L xs (d + 12) 222 44 [.ref 41, .int a, .int (nI N), .int v3, .long (lN (calmN (fun t => anyM T t S) a S j)), x_junk, .int (nI j), u7] [] w Q = X_R L xs (d + 12) 222 90 [.ref 41, .int a, .int (nI N), .int v3, .long (lN (calmN (fun t => anyM T t S) a S N)), x_junk, .int (nI N), u] [] w Q := by
  have hs := h.sh
  have e198 := fun (t : Int32) (Q' : Option Value → x_W → Prop) => S198 (L := L) (xs := xs) (d := d + 11) (Q := Q') h (t := t) hT
  have e221 := fun (v : Int32) (Q' : Option Value → x_W → Prop) => S221 (L := L) (xs := xs) (d := d + 11) (v := v) (Q := Q') h
  intro n
  induction n with
  | zero =>
    intro j hj u7 h7
    obtain rfl : j = N := by omega
    refine ⟨u7, fun Q => ?_⟩
    rw [X222_44]
    simp only [X222_46, X222_47, Nat.zero_le, and_true, true_and, x_nb0, x_nb1, x_nbp, x_isL_int, x_isL_ref, x_isL_junk, x_isR_ref, x_cat_nil, x_cat_int, x_cat_ref, x_cat_long, Option.toList_some, Option.toList_none, List.cons_append, List.nil_append, Nat.reduceAdd, Nat.reduceLeDiff, Nat.reduceLT, t_tag_si, t_tag_sr, t_tag_sI, x_r_si, x_i_sr, t_r_sI, x_ia_si, x_ia_sI, x_ia_sr, x_ra_si, x_ra_sI, x_ra_sr, nI_leT (Nat.le_refl j) (show j < 2 ^ 31 by omega), if_true]
  | succ n ih =>
    intro j hj u7 h7
    obtain ⟨u, e⟩ := ih (j + 1) (by omega) (.int (lotM (a + nI j) S)) rfl
    refine ⟨u, fun Q => ?_⟩
    rw [← e Q, X222_44]
    have z0 : ∀ x, lN x + 0 = lN x := fun x => (lN_add x 0)
    by_cases hb : anyM T (lotM (a + nI j) S) S &&& (lotM (a + nI j) S ^^^ (-1)) = nI 0
    · rw [calm_t (f := fun t => anyM T t S) hb]
      simp only [X222_46, X222_47, X222_50, X222_51, X222_52, X222_54, X222_55, X222_58, X222_60, X222_62, X222_63, X222_65, X222_68, X222_70, X222_71, X222_72, X222_73, X222_76, X222_77, X222_81, X222_82, X222_84, X222_87, Nat.zero_le, and_true, true_and, x_nb0, x_nb1, x_nbp, x_isL_int, x_isL_ref, x_isL_junk, x_isR_ref, x_cat_nil, x_cat_int, x_cat_ref, x_cat_long, Option.toList_some, Option.toList_none, List.cons_append, List.nil_append, Nat.reduceAdd, Nat.reduceLeDiff, Nat.reduceLT, t_tag_si, t_tag_sr, t_tag_sI, x_r_si, x_i_sr, t_r_sI, x_ia_si, x_ia_sI, x_ia_sr, x_ra_si, x_ra_sI, x_ra_sr, h7, nI_leF (show j < N by omega) (show N < 2 ^ 31 by omega), if_false, g_t41 hs, e221, e198, hb, if_true, nI_add, lN_1]
    · rw [calm_f (f := fun t => anyM T t S) hb]
      simp only [X222_46, X222_47, X222_50, X222_51, X222_52, X222_54, X222_55, X222_58, X222_60, X222_62, X222_63, X222_65, X222_68, X222_70, X222_71, X222_72, X222_73, X222_80, X222_81, X222_82, X222_84, X222_87, Nat.zero_le, and_true, true_and, x_nb0, x_nb1, x_nbp, x_isL_int, x_isL_ref, x_isL_junk, x_isR_ref, x_cat_nil, x_cat_int, x_cat_ref, x_cat_long, Option.toList_some, Option.toList_none, List.cons_append, List.nil_append, Nat.reduceAdd, Nat.reduceLeDiff, Nat.reduceLT, t_tag_si, t_tag_sr, t_tag_sI, x_r_si, x_i_sr, t_r_sI, x_ia_si, x_ia_sI, x_ia_sr, x_ra_si, x_ra_sI, x_ra_sr, h7, nI_leF (show j < N by omega) (show N < 2 ^ 31 by omega), if_false, g_t41 hs, e221, e198, hb, nI_add, z0]
theorem S223g {v0 v2 : Int64} {v4 : Int32} {Q : Option Value → x_W → Prop} : ∀ f a b, b < f → a < 31 → b < 31 → ∀ u9 u10 : Value, ∃ u5 u6 u7 u8, X_R L xs d 223 16 [.long v0, x_junk, .long v2, x_junk, .int v4, .long (lN a), x_junk, .long (lN b), x_junk, u9, u10] [] w Q = X_R L xs d 223 41 [.long v0, x_junk, .long v2, x_junk, .int v4, .long (lN (gcS f a b)), x_junk, u5, u6, u7, u8] [] w Q := by
  intro f
  induction f with
  | zero => intro a b hb; exact absurd hb (Nat.not_lt_zero _)
  | succ f ih =>
    intro a b hf ha hb u9 u10
    unfold gcS
    by_cases h0 : b = 0
    · subst h0
      rw [if_pos rfl]
      refine ⟨.long (lN 0), x_junk, u9, u10, ?_⟩
      have e : lg_cmp (lN 0) 0 = nI 0 := rfl
      simp only [X223_16, X223_18, X223_19, X223_20, Nat.zero_le, and_true, true_and, x_nb0, x_nb1, x_nbp, x_isL_int, x_isL_ref, x_isL_junk, x_isR_ref, x_cat_nil, x_cat_int, x_cat_ref, x_cat_long, Option.toList_some, Option.toList_none, List.cons_append, List.nil_append, Nat.reduceAdd, Nat.reduceLeDiff, Nat.reduceLT, t_tag_si, t_tag_sr, t_tag_sI, x_r_si, x_i_sr, t_r_sI, x_ia_si, x_ia_sI, x_ia_sr, x_ra_si, x_ra_sI, x_ra_sr, e, if_true]
    · rw [if_neg h0]
      obtain ⟨⟨r1, r2⟩, r3, r4⟩ := l30' ha hb h0
      have hmod := Nat.mod_lt a (show 0 < b by omega)
      obtain ⟨u5, u6, u7, u8, e⟩ := ih b (a % b) (by omega) hb (by omega) (.long (lN (a % b))) x_junk
      refine ⟨u5, u6, u7, u8, ?_⟩
      rw [← e, X223_16]
      simp only [X223_18, X223_19, X223_20, X223_23, X223_25, X223_27, X223_28, X223_30, X223_32, X223_34, X223_36, X223_38, Nat.zero_le, and_true, true_and, x_nb0, x_nb1, x_nbp, x_isL_int, x_isL_ref, x_isL_junk, x_isR_ref, x_cat_nil, x_cat_int, x_cat_ref, x_cat_long, Option.toList_some, Option.toList_none, List.cons_append, List.nil_append, Nat.reduceAdd, Nat.reduceLeDiff, Nat.reduceLT, t_tag_si, t_tag_sr, t_tag_sI, x_r_si, x_i_sr, t_r_sI, x_ia_si, x_ia_sI, x_ia_sr, x_ra_si, x_ra_sI, x_ra_sr, r3, if_false, r4, not_false_eq_true, r1]
theorem lt31 {a : Nat} (h : a < 31) : (nI a).toInt64 = lN a := nI_l (by omega)
theorem S223 {c N : Nat} (hc : c < 31) (hN : N < 31) (hN0 : N ≠ 0) {v : Int32} (hv : v = nI 0 ∨ v = nI 1) {Q : Option Value → x_W → Prop} : X_R L xs d 223 0 [.long (lN c), x_junk, .long (lN N), x_junk, .int v, x_junk, x_junk, x_junk, x_junk, x_junk, x_junk] [] w Q = Q (some (.long (if v = nI 0 then lN (c / dvS c N N) else lN (N / dvS c N N)))) w := by
  by_cases h0 : c = 0
  · subst h0
    have e : lg_cmp (lN 0) 0 = nI 0 := rfl
    have hd := dv_0 N hN
    rw [decide_eq_false hN0, Bool.false_or, decide_eq_true_eq] at hd
    rw [hd, Nat.zero_div, Nat.div_self (by omega)]
    rcases hv with rfl | rfl
    · simp only [X223_0, X223_1, X223_2, X223_3, X223_6, X223_8, X223_9, Nat.zero_le, and_true, true_and, x_nb0, x_nb1, x_nbp, x_isL_int, x_isL_ref, x_isL_junk, x_isR_ref, x_cat_nil, x_cat_int, x_cat_ref, x_cat_long, Option.toList_some, Option.toList_none, List.cons_append, List.nil_append, Nat.reduceAdd, Nat.reduceLeDiff, Nat.reduceLT, t_tag_si, t_tag_sr, t_tag_sI, x_r_si, x_i_sr, t_r_sI, x_ia_si, x_ia_sI, x_ia_sr, x_ra_si, x_ra_sI, x_ra_sr, e, if_true]
      rfl
    · simp only [X223_0, X223_1, X223_2, X223_3, X223_6, X223_8, X223_9, Nat.zero_le, and_true, true_and, x_nb0, x_nb1, x_nbp, x_isL_int, x_isL_ref, x_isL_junk, x_isR_ref, x_cat_nil, x_cat_int, x_cat_ref, x_cat_long, Option.toList_some, Option.toList_none, List.cons_append, List.nil_append, Nat.reduceAdd, Nat.reduceLeDiff, Nat.reduceLT, t_tag_si, t_tag_sr, t_tag_sI, x_r_si, x_i_sr, t_r_sI, x_ia_si, x_ia_sI, x_ia_sr, x_ra_si, x_ra_sI, x_ra_sr, e, if_true, n10, if_false]
      rfl
  · obtain ⟨_, r3, _⟩ := l30' (c := 0) (show 0 < 31 by decide) hc h0
    have hg := dv_gc N hN c hc
    rw [decide_eq_false hN0, decide_eq_false h0, Bool.false_or, Bool.false_or, Bool.and_eq_true, Bool.and_eq_true, decide_eq_true_eq, decide_eq_true_eq, decide_eq_true_eq] at hg
    obtain ⟨⟨g1, g2⟩, g3⟩ := hg
    have hgl := gc_le 40 c N (by omega) (by omega)
    obtain ⟨⟨_, s1⟩, _, s3⟩ := l30' hc (show gcS 40 c N < 31 by omega) (by omega)
    obtain ⟨⟨_, s2⟩, _, _⟩ := l30' hN (show gcS 40 c N < 31 by omega) (by omega)
    obtain ⟨u5, u6, u7, u8, e⟩ := S223g (L := L) (xs := xs) (d := d) (w := w) (v0 := lN c) (v2 := lN N) (v4 := v) (Q := Q) 40 c N (by omega) hc hN x_junk x_junk
    have e0 : X_R L xs d 223 0 [.long (lN c), x_junk, .long (lN N), x_junk, .int v, x_junk, x_junk, x_junk, x_junk, x_junk, x_junk] [] w Q = X_R L xs d 223 16 [.long (lN c), x_junk, .long (lN N), x_junk, .int v, .long (lN c), x_junk, .long (lN N), x_junk, x_junk, x_junk] [] w Q := by
      simp only [X223_0, X223_1, X223_2, X223_3, X223_10, X223_11, X223_13, X223_14, Nat.zero_le, and_true, true_and, x_nb0, x_nb1, x_nbp, x_isL_int, x_isL_ref, x_isL_junk, x_isR_ref, x_cat_nil, x_cat_int, x_cat_ref, x_cat_long, Option.toList_some, Option.toList_none, List.cons_append, List.nil_append, Nat.reduceAdd, Nat.reduceLeDiff, Nat.reduceLT, t_tag_si, t_tag_sr, t_tag_sI, x_r_si, x_i_sr, t_r_sI, x_ia_si, x_ia_sI, x_ia_sr, x_ra_si, x_ra_sI, x_ra_sr, r3, if_false]
    rw [e0, e, g1, g2]
    rcases hv with rfl | rfl
    · simp only [X223_41, X223_43, X223_46, X223_47, X223_51, X223_53, X223_54, Nat.zero_le, and_true, true_and, x_nb0, x_nb1, x_nbp, x_isL_int, x_isL_ref, x_isL_junk, x_isR_ref, x_cat_nil, x_cat_int, x_cat_ref, x_cat_long, Option.toList_some, Option.toList_none, List.cons_append, List.nil_append, Nat.reduceAdd, Nat.reduceLeDiff, Nat.reduceLT, t_tag_si, t_tag_sr, t_tag_sI, x_r_si, x_i_sr, t_r_sI, x_ia_si, x_ia_sI, x_ia_sr, x_ra_si, x_ra_sI, x_ra_sr, if_true, s3, not_false_eq_true, s1]
    · simp only [X223_41, X223_43, X223_50, X223_51, X223_53, X223_54, Nat.zero_le, and_true, true_and, x_nb0, x_nb1, x_nbp, x_isL_int, x_isL_ref, x_isL_junk, x_isR_ref, x_cat_nil, x_cat_int, x_cat_ref, x_cat_long, Option.toList_some, Option.toList_none, List.cons_append, List.nil_append, Nat.reduceAdd, Nat.reduceLeDiff, Nat.reduceLT, t_tag_si, t_tag_sr, t_tag_sI, x_r_si, x_i_sr, t_r_sI, x_ia_si, x_ia_sI, x_ia_sr, x_ra_si, x_ra_sI, x_ra_sr, n10, if_false, s3, not_false_eq_true, s2]
theorem AQ_odds (h : AG w S kd td mo kt tl tk) (u v p : Int32) : AQ L xs (d + 12) 43 222 [.ref 0, .int u, .int v, .int p, x_junk, x_junk, x_junk] [.ref 41, .int u, .int v, .int p, x_junk, x_junk, x_junk, x_junk] w := by
  have hs := h.1.sh
  have h6 := h.1.1.S6
  have h01 : bI (nI 0 ≤ p ∧ p ≤ nI 1) = bI (p = nI 0 ∨ p = nI 1) := bI_c (by rw [in01])
  by_cases h1 : nI 0 ≤ u ∧ u ≤ nI 99999
  · have e10 : ∀ (w : x_W) (Q' : Option Value → x_W → Prop), X_R L xs (d + 11) 10 0 [.int u, .int (nI 0), .int (nI 99999)] [] w Q' = Q' (some (.int (nI 1))) w := fun w Q' => by rw [S10, bI_t h1]
    have e138' : ∀ (w : x_W) (Q' : Option Value → x_W → Prop), X_R L xs (d + 11) 138 0 [.int u, .int (nI 0), .int (nI 99999)] [] w Q' = Q' (some (.int (nI 1))) w := fun w Q' => by rw [S138, bI_t h1]
    by_cases h3 : nI 1 ≤ v ∧ v ≤ nI 30
    · have f10 : ∀ (w : x_W) (Q' : Option Value → x_W → Prop), X_R L xs (d + 11) 10 0 [.int v, .int (nI 1), .int (nI 30)] [] w Q' = Q' (some (.int (nI 1))) w := fun w Q' => by rw [S10, bI_t h3]
      have f138 : ∀ (w : x_W) (Q' : Option Value → x_W → Prop), X_R L xs (d + 11) 138 0 [.int v, .int (nI 1), .int (nI 30)] [] w Q' = Q' (some (.int (nI 1))) w := fun w Q' => by rw [S138, bI_t h3]
      by_cases h2 : p = nI 0 ∨ p = nI 1
      · have e4 := fun (w : x_W) (Q' : Option Value → x_W → Prop) => b4_t (L := L) (xs := xs) (d := d + 11) (w := w) (Q := Q') h2
        have e138 := fun (w : x_W) (Q' : Option Value → x_W → Prop) => b138_t (L := L) (xs := xs) (d := d + 11) (w := w) (Q := Q') h2
        obtain ⟨N, hN30, rfl⟩ : ∃ N, N ≤ 30 ∧ v = nI N := nI_of2 (n := 30) (M := nI 30) rfl (by
          intro q
          have := Int32.lt_of_lt_of_le q (show (0 : Int32) ≤ nI 1 by decide)
          exact Int32.lt_irrefl (Int32.lt_of_lt_of_le this h3.1)) h3.2
        have hN0 : N ≠ 0 := fun q => by subst q; exact absurd h3.1 (by decide)
        obtain ⟨T, w1, c1, hF1, hT1, e67, hM⟩ := noteXM (L := L) (xs := xs) (d := d + 5) h
        have hX1 := h.1.1.ch (c1.a rfl)
        obtain ⟨w3, c3, hT3, e195⟩ := hM w1 (c1.a rfl)
        have hM1 := h.2.1.1.ch (c1.a rfl)
        have hM3 := hM1.ch (c3.ma rfl)
        have hs1 := hX1.sh
        obtain ⟨u6, l1⟩ := S43l (L := L) (xs := xs) (d := d) hX1 hT1 u p (show N < 31 by omega) N 0 (by omega) x_junk rfl
        obtain ⟨u7, l2⟩ := S222l (L := L) (xs := xs) (d := d) hM3 hT3 u p (show N < 31 by omega) N 0 (by omega) x_junk rfl
        have hcN := calmN_le (f := fun t => anyM T t S) (v := u) (S := S) N
        generalize calmN (fun t => anyM T t S) u S N = c at l1 l2 hcN
        have hdp := dvS_pos (c := c) (n := N) N (by omega)
        have hdl := dvS_le (c := c) (n := N) N
        obtain ⟨_, q1⟩ := i30' (show c < 31 by omega) (show dvS c N N < 31 by omega) (by omega)
        obtain ⟨_, q2⟩ := i30' (show N < 31 by omega) (show dvS c N N < 31 by omega) (by omega)
        have hdn : ¬ nI (dvS c N N) = nI 0 := fun z => by have := (nI_eq (show dvS c N N < 2 ^ 31 by omega) (by decide)).mp z; omega
        have hc1 := Nat.div_le_self c (dvS c N N)
        have hc2 := Nat.div_le_self N (dvS c N N)
        refine ⟨.long (if p = nI 0 then lN (c / dvS c N N) else lN (N / dvS c N N)), w1, w3, (c1.a rfl).trans (c3.ma rfl), hF1.m c3 rfl rfl rfl, fun Q => ?_, fun Q => ?_⟩
        · have e0 : X_R L xs (d + 12) 43 0 [.ref 0, .int u, .int (nI N), .int p, x_junk, x_junk, x_junk] [] w Q = X_R L xs (d + 12) 43 44 [.ref 0, .int u, .int (nI N), .int p, .int (nI 0), .int (nI 0), x_junk] [] w1 Q := by
            simp only [X43_0, X43_1, X43_2, X43_4, X43_7, X43_10, X43_11, X43_12, X43_14, X43_17, X43_20, X43_21, X43_24, X43_31, X43_32, X43_35, X43_38, X43_39, X43_41, X43_42, Nat.zero_le, and_true, true_and, x_nb0, x_nb1, x_nbp, x_isL_int, x_isL_ref, x_isL_junk, x_isR_ref, x_cat_nil, x_cat_int, x_cat_ref, x_cat_long, Option.toList_some, Option.toList_none, List.cons_append, List.nil_append, Nat.reduceAdd, Nat.reduceLeDiff, Nat.reduceLT, t_tag_si, t_tag_sr, t_tag_sI, x_r_si, x_i_sr, t_r_sI, x_ia_si, x_ia_sI, x_ia_sr, x_ra_si, x_ra_sI, x_ra_sr, e10, f10, n10, if_false, e4, g_t0 hs, g_r0_4 hs, g_t22 hs, e67]
          rw [e0]
          refine (l1 Q).trans ?_
          have e2 := S43d (L := L) (xs := xs) (d := d) (w := w1) (a := u) (v3 := p) (show N < 31 by omega) (show c < 31 by omega) u6 (Q := Q) N (Nat.le_refl _) (by omega)
          simp only [X43_86, X43_87, Nat.zero_le, and_true, true_and, x_nb0, x_nb1, x_nbp, x_isL_int, x_isL_ref, x_isL_junk, x_isR_ref, x_cat_nil, x_cat_int, x_cat_ref, x_cat_long, Option.toList_some, Option.toList_none, List.cons_append, List.nil_append, Nat.reduceAdd, Nat.reduceLeDiff, Nat.reduceLT, t_tag_si, t_tag_sr, t_tag_sI, x_r_si, x_i_sr, t_r_sI, x_ia_si, x_ia_sI, x_ia_sr, x_ra_si, x_ra_sI, x_ra_sr]
          refine e2.trans ?_
          by_cases hp : p = nI 0
          · simp only [X43_116, X43_117, X43_120, X43_122, X43_124, X43_125, X43_126, X43_134, Nat.zero_le, and_true, true_and, x_nb0, x_nb1, x_nbp, x_isL_int, x_isL_ref, x_isL_junk, x_isR_ref, x_cat_nil, x_cat_int, x_cat_ref, x_cat_long, Option.toList_some, Option.toList_none, List.cons_append, List.nil_append, Nat.reduceAdd, Nat.reduceLeDiff, Nat.reduceLT, t_tag_si, t_tag_sr, t_tag_sI, x_r_si, x_i_sr, t_r_sI, x_ia_si, x_ia_sI, x_ia_sr, x_ra_si, x_ra_sI, x_ra_sr, eq_true hp, if_true, hdn, not_false_eq_true, q1, lt31 (show c / dvS c N N < 31 by omega)]
          · simp only [X43_116, X43_117, X43_129, X43_130, X43_132, X43_133, X43_134, Nat.zero_le, and_true, true_and, x_nb0, x_nb1, x_nbp, x_isL_int, x_isL_ref, x_isL_junk, x_isR_ref, x_cat_nil, x_cat_int, x_cat_ref, x_cat_long, Option.toList_some, Option.toList_none, List.cons_append, List.nil_append, Nat.reduceAdd, Nat.reduceLeDiff, Nat.reduceLT, t_tag_si, t_tag_sr, t_tag_sI, x_r_si, x_i_sr, t_r_sI, x_ia_si, x_ia_sI, x_ia_sr, x_ra_si, x_ra_sI, x_ra_sr, eq_false hp, if_false, hdn, not_false_eq_true, q2, lt31 (show N / dvS c N N < 31 by omega)]
        · have e0 : X_R L xs (d + 12) 222 0 [.ref 41, .int u, .int (nI N), .int p, x_junk, x_junk, x_junk, x_junk] [] w1 Q = X_R L xs (d + 12) 222 44 [.ref 41, .int u, .int (nI N), .int p, .long (lN 0), x_junk, .int (nI 0), x_junk] [] w3 Q := by
            simp only [X222_0, X222_1, X222_2, X222_5, X222_8, X222_11, X222_12, X222_13, X222_15, X222_18, X222_21, X222_22, X222_23, X222_24, X222_27, X222_34, X222_35, X222_38, X222_39, X222_41, X222_42, Nat.zero_le, and_true, true_and, x_nb0, x_nb1, x_nbp, x_isL_int, x_isL_ref, x_isL_junk, x_isR_ref, x_cat_nil, x_cat_int, x_cat_ref, x_cat_long, Option.toList_some, Option.toList_none, List.cons_append, List.nil_append, Nat.reduceAdd, Nat.reduceLeDiff, Nat.reduceLT, t_tag_si, t_tag_sr, t_tag_sI, x_r_si, x_i_sr, t_r_sI, x_ia_si, x_ia_sI, x_ia_sr, x_ra_si, x_ra_sI, x_ra_sr, e138', f138, n10, if_false, e138, g_t41 hs1, e195]
            rfl
          rw [e0]
          refine (l2 Q).trans ?_
          have e223 := fun (Q' : Option Value → x_W → Prop) => S223 (L := L) (xs := xs) (d := d + 11) (w := w3) (show c < 31 by omega) (show N < 31 by omega) hN0 h2 (Q := Q')
          simp only [X222_90, X222_92, X222_93, X222_94, X222_95, X222_98, Nat.zero_le, and_true, true_and, x_nb0, x_nb1, x_nbp, x_isL_int, x_isL_ref, x_isL_junk, x_isR_ref, x_cat_nil, x_cat_int, x_cat_ref, x_cat_long, Option.toList_some, Option.toList_none, List.cons_append, List.nil_append, Nat.reduceAdd, Nat.reduceLeDiff, Nat.reduceLT, t_tag_si, t_tag_sr, t_tag_sI, x_r_si, x_i_sr, t_r_sI, x_ia_si, x_ia_sI, x_ia_sr, x_ra_si, x_ra_sI, x_ra_sr, lt31 (show N < 31 by omega), e223]
      · refine AQ_no (v := .long (-4611686018427387904)) h.1.2.2 (fun Q => ?_) (fun Q => ?_)
        · simp only [X43_0, X43_1, X43_2, X43_4, X43_7, X43_10, X43_11, X43_12, X43_14, X43_17, X43_20, X43_21, X43_24, X43_27, X43_30, Nat.zero_le, and_true, true_and, x_nb0, x_nb1, x_nbp, x_isL_int, x_isL_ref, x_isL_junk, x_isR_ref, x_cat_nil, x_cat_int, x_cat_ref, x_cat_long, Option.toList_some, Option.toList_none, List.cons_append, List.nil_append, Nat.reduceAdd, Nat.reduceLeDiff, Nat.reduceLT, t_tag_si, t_tag_sr, t_tag_sI, x_r_si, x_i_sr, t_r_sI, x_ia_si, x_ia_sI, x_ia_sr, x_ra_si, x_ra_sI, x_ra_sr, e10, f10, n10, if_false, S4, bI_f h2, if_true]
        · simp only [X222_0, X222_1, X222_2, X222_5, X222_8, X222_11, X222_12, X222_13, X222_15, X222_18, X222_21, X222_22, X222_23, X222_24, X222_27, X222_30, X222_33, Nat.zero_le, and_true, true_and, x_nb0, x_nb1, x_nbp, x_isL_int, x_isL_ref, x_isL_junk, x_isR_ref, x_cat_nil, x_cat_int, x_cat_ref, x_cat_long, Option.toList_some, Option.toList_none, List.cons_append, List.nil_append, Nat.reduceAdd, Nat.reduceLeDiff, Nat.reduceLT, t_tag_si, t_tag_sr, t_tag_sI, x_r_si, x_i_sr, t_r_sI, x_ia_si, x_ia_sI, x_ia_sr, x_ra_si, x_ra_sI, x_ra_sr, e138', f138, n10, if_false, S138, h01, bI_f h2, if_true]
    · refine AQ_no (v := .long (-4611686018427387904)) h.1.2.2 (fun Q => ?_) (fun Q => ?_)
      · simp only [X43_0, X43_1, X43_2, X43_4, X43_7, X43_10, X43_11, X43_12, X43_14, X43_17, X43_27, X43_30, Nat.zero_le, and_true, true_and, x_nb0, x_nb1, x_nbp, x_isL_int, x_isL_ref, x_isL_junk, x_isR_ref, x_cat_nil, x_cat_int, x_cat_ref, x_cat_long, Option.toList_some, Option.toList_none, List.cons_append, List.nil_append, Nat.reduceAdd, Nat.reduceLeDiff, Nat.reduceLT, t_tag_si, t_tag_sr, t_tag_sI, x_r_si, x_i_sr, t_r_sI, x_ia_si, x_ia_sI, x_ia_sr, x_ra_si, x_ra_sI, x_ra_sr, e10, n10, if_false, S10, bI_f h3, if_true]
      · simp only [X222_0, X222_1, X222_2, X222_5, X222_8, X222_11, X222_12, X222_13, X222_15, X222_18, X222_30, X222_33, Nat.zero_le, and_true, true_and, x_nb0, x_nb1, x_nbp, x_isL_int, x_isL_ref, x_isL_junk, x_isR_ref, x_cat_nil, x_cat_int, x_cat_ref, x_cat_long, Option.toList_some, Option.toList_none, List.cons_append, List.nil_append, Nat.reduceAdd, Nat.reduceLeDiff, Nat.reduceLT, t_tag_si, t_tag_sr, t_tag_sI, x_r_si, x_i_sr, t_r_sI, x_ia_si, x_ia_sI, x_ia_sr, x_ra_si, x_ra_sI, x_ra_sr, e138', n10, if_false, S138, bI_f h3, if_true]
  · refine AQ_no (v := .long (-4611686018427387904)) h.1.2.2 (fun Q => ?_) (fun Q => ?_)
    · simp only [X43_0, X43_1, X43_2, X43_4, X43_7, X43_27, X43_30, Nat.zero_le, and_true, true_and, x_nb0, x_nb1, x_nbp, x_isL_int, x_isL_ref, x_isL_junk, x_isR_ref, x_cat_nil, x_cat_int, x_cat_ref, x_cat_long, Option.toList_some, Option.toList_none, List.cons_append, List.nil_append, Nat.reduceAdd, Nat.reduceLeDiff, Nat.reduceLT, t_tag_si, t_tag_sr, t_tag_sI, x_r_si, x_i_sr, t_r_sI, x_ia_si, x_ia_sI, x_ia_sr, x_ra_si, x_ra_sI, x_ra_sr, S10, bI_f h1, if_true]
    · simp only [X222_0, X222_1, X222_2, X222_5, X222_8, X222_30, X222_33, Nat.zero_le, and_true, true_and, x_nb0, x_nb1, x_nbp, x_isL_int, x_isL_ref, x_isL_junk, x_isR_ref, x_cat_nil, x_cat_int, x_cat_ref, x_cat_long, Option.toList_some, Option.toList_none, List.cons_append, List.nil_append, Nat.reduceAdd, Nat.reduceLeDiff, Nat.reduceLT, t_tag_si, t_tag_sr, t_tag_sI, x_r_si, x_i_sr, t_r_sI, x_ia_si, x_ia_sI, x_ia_sr, x_ra_si, x_ra_sI, x_ra_sr, S138, bI_f h1, if_true]
end S98
