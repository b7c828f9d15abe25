/-! ===== who wakes ===== -/
/-- s wakes by b's turn, by how far -/
def wkB (kd td mo kt tl : Nat → Nat) (tk : Nat → Nat → Nat) (far : Nat → Nat → Int32) (s b : Nat) : Bool := decide (s ≠ b) && decide (waN (kd s) (mo s) ≤ feN kd td mo kt tl tk (far s b) s b)
def bit1 (s : Nat) : Int32 := nI 1 <<< (nI s &&& 31)
def wkM (W : Nat → Bool) : Nat → Int32
  | 0 => nI 0
  | n + 1 => if W n = true then wkM W n ||| bit1 n else wkM W n
def wkC (W : Nat → Bool) : Nat → Nat
  | 0 => 0
  | n + 1 => wkC W n + (if W n = true then 1 else 0)
theorem wkM_t {W : Nat → Bool} {n : Nat} (h : W n = true) : wkM W (n + 1) = wkM W n ||| nI 1 <<< (nI n &&& 31) := if_pos h
theorem wkM_f {W : Nat → Bool} {n : Nat} (h : ¬ W n = true) : wkM W (n + 1) = wkM W n := if_neg h
theorem wkC_t {W : Nat → Bool} {n : Nat} (h : W n = true) : wkC W (n + 1) = wkC W n + 1 := by
  show wkC W n + (if W n = true then 1 else 0) = _
  rw [if_pos h]
theorem wkC_f {W : Nat → Bool} {n : Nat} (h : ¬ W n = true) : wkC W (n + 1) = wkC W n := by
  show wkC W n + (if W n = true then 1 else 0) = _
  rw [if_neg h, Nat.add_zero]
theorem waN_le {k m : Nat} (hm : m ≤ 9) : waN k m ≤ 15 := by
  unfold waN
  split
  · omega
  · split
    · omega
    · split <;> omega
theorem wkC_le (W : Nat → Bool) (n : Nat) : wkC W n ≤ n := by
  induction n with
  | zero => exact Nat.le_refl _
  | succ n ih => unfold wkC; split <;> omega
section S79
variable {L : Nat} {xs : Nat → Int32} {d : Nat} {w : x_W} {S : Nat} {kd td mo kt tl : Nat → Nat} {tk : Nat → Nat → Nat}
theorem bI_true {b : Bool} : bI (b = true) = if b = true then nI 1 else nI 0 := rfl
theorem S66 (h : EX w S kd td mo kt tl tk) {s b : Nat} (hs : s < S) (hb : b < S) : ∃ w', Ch (sc [28, 34]) w w' ∧ FarOk w' ∧ ∀ Q, X_R L xs (d + 4) 66 0 [.ref 22, .int (nI s), .int (nI b)] [] w Q = Q (some (.int (bI (wkB kd td mo kt tl tk (farX w kt) s b = true)))) w' := by
  have h6 := h.1.S6
  have hs0 := h.sh
  by_cases hsb : s = b
  · refine ⟨w, Ch.refl, h.2.2, fun Q => ?_⟩
    have e : wkB kd td mo kt tl tk (farX w kt) s b = false := by unfold wkB; rw [decide_eq_false (fun q => q hsb), Bool.false_and]
    rw [bI_f (by rw [e]; decide)]
    subst hsb
    simp only [X66_0, X66_1, X66_2, X66_5, X66_6, X66_7, X66_8, X66_11, X66_12, X66_15, X66_16, X66_17, X66_20, X66_23, X66_24, X66_27, X66_28, Nat.zero_le, and_true, true_and, x_nb0, x_nb1, x_nbp, x_isL_int, x_isL_ref, x_isL_junk, x_isR_ref, x_cat_nil, x_cat_int, x_cat_ref, x_cat_long, Option.toList_some, Option.toList_none, List.cons_append, List.nil_append, Nat.reduceAdd, Nat.reduceLeDiff, Nat.reduceLT, t_tag_si, t_tag_sr, t_tag_sI, x_r_si, x_i_sr, t_r_sI, x_ia_si, x_ia_sI, x_ia_sr, x_ra_si, x_ra_sI, x_ra_sr, if_true]
  · obtain ⟨w1, c1, hF1, e64⟩ := S64 (L := L) (xs := xs) (d := d) h hs hb
    have hX1 := h.ch (c1.a rfl) hF1
    obtain ⟨⟨as1, ts1⟩, ⟨ks1, tds1, ms1, ls1⟩, ⟨ws1, qs1⟩, ⟨_, _, m9, _⟩⟩ := hX1.slp hs
    have m9b := (h.slp hb).2.2.2.2.2.1
    have hsx := x_ix_nI (show s < 6 by omega) (show 6 < 2 ^ 31 by decide)
    have hsc := nI_cl (show s < 2 ^ 31 by omega)
    have hne := nI_eqF hsb (show s < 2 ^ 31 by omega) (show b < 2 ^ 31 by omega)
    have hfe := feN_le (kd := kd) (td := td) (kt := kt) (tl := tl) (tk := tk) (far := farX w kt s b) (s := s) m9b
    have hwa := waN_le (k := kd s) m9
    have hs1 := c1.sh hs0
    have e : wkB kd td mo kt tl tk (farX w kt) s b = decide (waN (kd s) (mo s) ≤ feN kd td mo kt tl tk (farX w kt s b) s b) := by
      unfold wkB
      rw [decide_eq_true hsb, Bool.true_and]
    refine ⟨w1, c1, hF1, fun Q => ?_⟩
    rw [e]
    by_cases hle : waN (kd s) (mo s) ≤ feN kd td mo kt tl tk (farX w kt s b) s b
    · rw [bI_t (decide_eq_true hle)]
      simp only [X66_0, X66_1, X66_2, X66_5, X66_6, X66_7, X66_8, X66_11, X66_12, X66_15, X66_16, X66_17, X66_20, X66_23, X66_24, X66_27, X66_28, Nat.zero_le, and_true, true_and, x_nb0, x_nb1, x_nbp, x_isL_int, x_isL_ref, x_isL_junk, x_isR_ref, x_cat_nil, x_cat_int, x_cat_ref, x_cat_long, Option.toList_some, Option.toList_none, List.cons_append, List.nil_append, Nat.reduceAdd, Nat.reduceLeDiff, Nat.reduceLT, t_tag_si, t_tag_sr, t_tag_sI, x_r_si, x_i_sr, t_r_sI, x_ia_si, x_ia_sI, x_ia_sr, x_ra_si, x_ra_sI, x_ra_sr, hne, if_false, g_t22 hs0, e64, g_t22 hs1, g_t22 hs1, g_r22_0 hs1, g_r22_2 hs1, g_r22_3 hs1, g_r22_5 hs1, g_r22_6 hs1, g_r22_7 hs1, g_r22_8 hs1, g_a29 hs1, g_r29_0 hs1, g_r29_1 hs1, g_r29_2 hs1, g_r29_3 hs1, g_r29_4 hs1, g_r29_5 hs1, g_a30 hs1, g_a31 hs1, g_a32 hs1, g_a33 hs1, g_a34 hs1, g_t35 hs1, g_t36 hs1, g_t37 hs1, g_t38 hs1, g_t39 hs1, g_t40 hs1, hsx, hsc, as1, ts1, qs1, nI_nlt hle (show feN kd td mo kt tl tk (farX w kt s b) s b < 2 ^ 31 by omega)]
    · have hlt := Nat.not_le.mp hle
      rw [bI_f (by rw [decide_eq_false hle]; decide)]
      simp only [X66_0, X66_1, X66_2, X66_5, X66_6, X66_7, X66_8, X66_11, X66_12, X66_15, X66_16, X66_17, X66_20, X66_23, X66_24, X66_27, X66_28, Nat.zero_le, and_true, true_and, x_nb0, x_nb1, x_nbp, x_isL_int, x_isL_ref, x_isL_junk, x_isR_ref, x_cat_nil, x_cat_int, x_cat_ref, x_cat_long, Option.toList_some, Option.toList_none, List.cons_append, List.nil_append, Nat.reduceAdd, Nat.reduceLeDiff, Nat.reduceLT, t_tag_si, t_tag_sr, t_tag_sI, x_r_si, x_i_sr, t_r_sI, x_ia_si, x_ia_sI, x_ia_sr, x_ra_si, x_ra_sI, x_ra_sr, hne, if_false, g_t22 hs0, e64, g_t22 hs1, g_t22 hs1, g_r22_0 hs1, g_r22_2 hs1, g_r22_3 hs1, g_r22_5 hs1, g_r22_6 hs1, g_r22_7 hs1, g_r22_8 hs1, g_a29 hs1, g_r29_0 hs1, g_r29_1 hs1, g_r29_2 hs1, g_r29_3 hs1, g_r29_4 hs1, g_r29_5 hs1, g_a30 hs1, g_a31 hs1, g_a32 hs1, g_a33 hs1, g_a34 hs1, g_t35 hs1, g_t36 hs1, g_t37 hs1, g_t38 hs1, g_t39 hs1, g_t40 hs1, hsx, hsc, as1, ts1, qs1, nI_lt hlt (show waN (kd s) (mo s) < 2 ^ 31 by omega), if_true]
theorem S197 (h : EM w S kd td mo kt tl tk) {s b : Nat} (hs : s < S) (hb : b < S) : ∃ w', Ch (sm [58, 59]) w w' ∧ ∀ Q, X_R L xs (d + 4) 197 0 [.ref 41, .int (nI s), .int (nI b)] [] w Q = Q (some (.int (bI (wkB kd td mo kt tl tk (farM w kt) s b = true)))) w' := by
  have h6 := h.1.S6
  have hs0 := h.sh
  by_cases hsb : s = b
  · refine ⟨w, Ch.refl, fun Q => ?_⟩
    have e : wkB kd td mo kt tl tk (farM w kt) s b = false := by unfold wkB; rw [decide_eq_false (fun q => q hsb), Bool.false_and]
    rw [bI_f (by rw [e]; decide)]
    subst hsb
    simp only [X197_0, X197_1, X197_2, X197_5, X197_6, X197_7, X197_8, X197_11, X197_12, X197_13, X197_16, X197_19, X197_20, X197_23, X197_24, Nat.zero_le, and_true, true_and, x_nb0, x_nb1, x_nbp, x_isL_int, x_isL_ref, x_isL_junk, x_isR_ref, x_cat_nil, x_cat_int, x_cat_ref, x_cat_long, Option.toList_some, Option.toList_none, List.cons_append, List.nil_append, Nat.reduceAdd, Nat.reduceLeDiff, Nat.reduceLT, t_tag_si, t_tag_sr, t_tag_sI, x_r_si, x_i_sr, t_r_sI, x_ia_si, x_ia_sI, x_ia_sr, x_ra_si, x_ra_sI, x_ra_sr, if_true]
  · obtain ⟨w1, c1, e191⟩ := S191 (L := L) (xs := xs) (d := d) h hs hb
    have hX1 := h.ch (c1.ma rfl)
    obtain ⟨⟨ks1, k5⟩, _, ⟨ms1, m9⟩, _⟩ := hX1.1.M s (by omega)
    have m9b := (h.1.M b (by omega)).2.2.1.2
    have hne := nI_eqF hsb (show s < 2 ^ 31 by omega) (show b < 2 ^ 31 by omega)
    have hfe := feN_le (kd := kd) (td := td) (kt := kt) (tl := tl) (tk := tk) (far := farM w kt s b) (s := s) m9b
    have hwa := waN_le (k := kd s) m9
    have hs1 := c1.sh hs0
    have e172 := fun (Q' : Option Value → x_W → Prop) => S172 (L := L) (xs := xs) (d := d + 2) (w := w1) (Q := Q') hs1 (show s < 6 by omega) ks1 ms1 k5 m9
    have e : wkB kd td mo kt tl tk (farM w kt) s b = decide (waN (kd s) (mo s) ≤ feN kd td mo kt tl tk (farM w kt s b) s b) := by
      unfold wkB
      rw [decide_eq_true hsb, Bool.true_and]
    refine ⟨w1, c1, fun Q => ?_⟩
    rw [e]
    by_cases hle : waN (kd s) (mo s) ≤ feN kd td mo kt tl tk (farM w kt s b) s b
    · rw [bI_t (decide_eq_true hle)]
      simp only [X197_0, X197_1, X197_2, X197_5, X197_6, X197_7, X197_8, X197_11, X197_12, X197_13, X197_16, X197_19, X197_20, X197_23, X197_24, Nat.zero_le, and_true, true_and, x_nb0, x_nb1, x_nbp, x_isL_int, x_isL_ref, x_isL_junk, x_isR_ref, x_cat_nil, x_cat_int, x_cat_ref, x_cat_long, Option.toList_some, Option.toList_none, List.cons_append, List.nil_append, Nat.reduceAdd, Nat.reduceLeDiff, Nat.reduceLT, t_tag_si, t_tag_sr, t_tag_sI, x_r_si, x_i_sr, t_r_sI, x_ia_si, x_ia_sI, x_ia_sr, x_ra_si, x_ra_sI, x_ra_sr, hne, if_false, g_t41 hs0, e191, g_t41 hs1, e172, nI_nlt hle (show feN kd td mo kt tl tk (farM w kt s b) s b < 2 ^ 31 by omega)]
    · have hlt := Nat.not_le.mp hle
      rw [bI_f (by rw [decide_eq_false hle]; decide)]
      simp only [X197_0, X197_1, X197_2, X197_5, X197_6, X197_7, X197_8, X197_11, X197_12, X197_13, X197_16, X197_19, X197_20, X197_23, X197_24, Nat.zero_le, and_true, true_and, x_nb0, x_nb1, x_nbp, x_isL_int, x_isL_ref, x_isL_junk, x_isR_ref, x_cat_nil, x_cat_int, x_cat_ref, x_cat_long, Option.toList_some, Option.toList_none, List.cons_append, List.nil_append, Nat.reduceAdd, Nat.reduceLeDiff, Nat.reduceLT, t_tag_si, t_tag_sr, t_tag_sI, x_r_si, x_i_sr, t_r_sI, x_ia_si, x_ia_sI, x_ia_sr, x_ra_si, x_ra_sI, x_ra_sr, hne, if_false, g_t41 hs0, e191, g_t41 hs1, e172, nI_lt hlt (show waN (kd s) (mo s) < 2 ^ 31 by omega), if_true]
/-- the distances are the same after such a run -/
theorem farX_ch {w' : x_W} (hc : ChA w w') : farX w' kt = farX w kt := by
  funext s b
  unfold farX
  rw [EX.C hc]
theorem farM_ch {w' : x_W} (hc : ChA w w') : farM w' kt = farM w kt := by
  funext s b
  unfold farM
  rw [EM.C hc]
theorem or_0 (x : Int32) : x ||| nI 0 = x := by
  have e : nI 0 = (0 : Int32) := rfl
  rw [e, Int32.or_zero]
theorem S65 (h : EX w S kd td mo kt tl tk) {b : Nat} (hb : b < S) : ∃ w', Ch (sc [28, 34]) w w' ∧ FarOk w' ∧ ∀ Q, X_R L xs (d + 5) 65 0 [.ref 22, .int (nI b), x_junk, x_junk] [] w Q = Q (some (.int (wkM (fun s => wkB kd td mo kt tl tk (farX w kt) s b) S))) w' := by
  have h6 := h.1.S6
  have hs0 := h.sh
  have loop : ∀ n j, j + n = S → ∀ w1, Ch (sc [28, 34]) w w1 → FarOk w1 → ∃ w', Ch (sc [28, 34]) w w' ∧ FarOk w' ∧ ∀ Q, X_R L xs (d + 5) 65 4 [.ref 22, .int (nI b), .int (wkM (fun s => wkB kd td mo kt tl tk (farX w kt) s b) j), .int (nI j)] [] w1 Q = Q (some (.int (wkM (fun s => wkB kd td mo kt tl tk (farX w kt) s b) S))) w' := by
    intro n
    induction n with
    | zero =>
      intro j hj w1 c1 hF1
      obtain rfl : j = S := by omega
      have hX1 := h.ch (c1.a rfl) hF1
      refine ⟨w1, c1, hF1, fun Q => ?_⟩
      rw [X65_4]
      simp only [X65_0, X65_1, X65_2, X65_3, X65_5, X65_6, X65_9, X65_12, X65_13, X65_14, X65_15, X65_18, X65_21, X65_22, X65_23, X65_24, X65_25, X65_26, X65_27, X65_30, X65_33, X65_34, Nat.zero_le, and_true, true_and, x_nb0, x_nb1, x_nbp, x_isL_int, x_isL_ref, x_isL_junk, x_isR_ref, x_cat_nil, x_cat_int, x_cat_ref, x_cat_long, Option.toList_some, Option.toList_none, List.cons_append, List.nil_append, Nat.reduceAdd, Nat.reduceLeDiff, Nat.reduceLT, t_tag_si, t_tag_sr, t_tag_sI, x_r_si, x_i_sr, t_r_sI, x_ia_si, x_ia_sI, x_ia_sr, x_ra_si, x_ra_sI, x_ra_sr, g_t22 hX1.sh, hX1.1.hS, nI_leT (Nat.le_refl j) (show j < 2 ^ 31 by omega), if_true]
    | succ n ih =>
      intro j hj w1 c1 hF1
      have hX1 := h.ch (c1.a rfl) hF1
      obtain ⟨w2, c2, hF2, e66⟩ := S66 (L := L) (xs := xs) (d := d) hX1 (show j < S by omega) hb
      obtain ⟨w3, c3, hF3, e3⟩ := ih (j + 1) (by omega) w2 (c1.trans c2) hF2
      refine ⟨w3, c3, hF3, fun Q => ?_⟩
      rw [← e3 Q, X65_4]
      rw [farX_ch (c1.a rfl)] at e66
      by_cases hW : wkB kd td mo kt tl tk (farX w kt) j b = true
      · rw [wkM_t (W := (fun s => wkB kd td mo kt tl tk (farX w kt) s b)) hW]
        rw [bI_t hW] at e66
        simp only [X65_0, X65_1, X65_2, X65_3, X65_5, X65_6, X65_9, X65_12, X65_13, X65_14, X65_15, X65_18, X65_21, X65_22, X65_23, X65_24, X65_25, X65_26, X65_27, X65_30, X65_33, X65_34, Nat.zero_le, and_true, true_and, x_nb0, x_nb1, x_nbp, x_isL_int, x_isL_ref, x_isL_junk, x_isR_ref, x_cat_nil, x_cat_int, x_cat_ref, x_cat_long, Option.toList_some, Option.toList_none, List.cons_append, List.nil_append, Nat.reduceAdd, Nat.reduceLeDiff, Nat.reduceLT, t_tag_si, t_tag_sr, t_tag_sI, x_r_si, x_i_sr, t_r_sI, x_ia_si, x_ia_sI, x_ia_sr, x_ra_si, x_ra_sI, x_ra_sr, g_t22 hX1.sh, hX1.1.hS, nI_leF (show j < S by omega) (show S < 2 ^ 31 by omega), if_false, e66, n10, nI_add]
      · rw [wkM_f (W := (fun s => wkB kd td mo kt tl tk (farX w kt) s b)) hW]
        rw [bI_f hW] at e66
        simp only [X65_0, X65_1, X65_2, X65_3, X65_5, X65_6, X65_9, X65_12, X65_13, X65_14, X65_15, X65_18, X65_21, X65_22, X65_23, X65_24, X65_25, X65_26, X65_27, X65_30, X65_33, X65_34, Nat.zero_le, and_true, true_and, x_nb0, x_nb1, x_nbp, x_isL_int, x_isL_ref, x_isL_junk, x_isR_ref, x_cat_nil, x_cat_int, x_cat_ref, x_cat_long, Option.toList_some, Option.toList_none, List.cons_append, List.nil_append, Nat.reduceAdd, Nat.reduceLeDiff, Nat.reduceLT, t_tag_si, t_tag_sr, t_tag_sI, x_r_si, x_i_sr, t_r_sI, x_ia_si, x_ia_sI, x_ia_sr, x_ra_si, x_ra_sI, x_ra_sr, g_t22 hX1.sh, hX1.1.hS, nI_leF (show j < S by omega) (show S < 2 ^ 31 by omega), if_false, e66, if_true, nI_add]
  obtain ⟨w', c', hF', e'⟩ := loop S 0 (by omega) w Ch.refl h.2.2
  refine ⟨w', c', hF', fun Q => ?_⟩
  rw [← e' Q]
  simp only [X65_0, X65_1, X65_2, X65_3, Nat.zero_le, and_true, true_and, x_nb0, x_nb1, x_nbp, x_isL_int, x_isL_ref, x_isL_junk, x_isR_ref, x_cat_nil, x_cat_int, x_cat_ref, x_cat_long, Option.toList_some, Option.toList_none, List.cons_append, List.nil_append, Nat.reduceAdd, Nat.reduceLeDiff, Nat.reduceLT, t_tag_si, t_tag_sr, t_tag_sI, x_r_si, x_i_sr, t_r_sI, x_ia_si, x_ia_sI, x_ia_sr, x_ra_si, x_ra_sI, x_ra_sr]
  rfl
theorem S70 (h : EX w S kd td mo kt tl tk) {s : Nat} (hs : s < S) : ∃ w', Ch (sc [28, 34]) w w' ∧ FarOk w' ∧ ∀ Q, X_R L xs (d + 5) 70 0 [.ref 22, .int (nI s), x_junk, x_junk] [] w Q = Q (some (.int (nI (wkC (fun b => wkB kd td mo kt tl tk (farX w kt) s b) S)))) w' := by
  have h6 := h.1.S6
  have loop : ∀ n j, j + n = S → ∀ w1, Ch (sc [28, 34]) w w1 → FarOk w1 → ∃ w', Ch (sc [28, 34]) w w' ∧ FarOk w' ∧ ∀ Q, X_R L xs (d + 5) 70 4 [.ref 22, .int (nI s), .int (nI (wkC (fun b => wkB kd td mo kt tl tk (farX w kt) s b) j)), .int (nI j)] [] w1 Q = Q (some (.int (nI (wkC (fun b => wkB kd td mo kt tl tk (farX w kt) s b) S)))) w' := by
    intro n
    induction n with
    | zero =>
      intro j hj w1 c1 hF1
      obtain rfl : j = S := by omega
      have hX1 := h.ch (c1.a rfl) hF1
      refine ⟨w1, c1, hF1, fun Q => ?_⟩
      rw [X70_4]
      simp only [X70_0, X70_1, X70_2, X70_3, X70_5, X70_6, X70_9, X70_12, X70_13, X70_14, X70_15, X70_18, X70_21, X70_24, X70_27, X70_30, X70_31, Nat.zero_le, and_true, true_and, x_nb0, x_nb1, x_nbp, x_isL_int, x_isL_ref, x_isL_junk, x_isR_ref, x_cat_nil, x_cat_int, x_cat_ref, x_cat_long, Option.toList_some, Option.toList_none, List.cons_append, List.nil_append, Nat.reduceAdd, Nat.reduceLeDiff, Nat.reduceLT, t_tag_si, t_tag_sr, t_tag_sI, x_r_si, x_i_sr, t_r_sI, x_ia_si, x_ia_sI, x_ia_sr, x_ra_si, x_ra_sI, x_ra_sr, g_t22 hX1.sh, hX1.1.hS, nI_leT (Nat.le_refl j) (show j < 2 ^ 31 by omega), if_true]
    | succ n ih =>
      intro j hj w1 c1 hF1
      have hX1 := h.ch (c1.a rfl) hF1
      obtain ⟨w2, c2, hF2, e66⟩ := S66 (L := L) (xs := xs) (d := d) hX1 hs (show j < S by omega)
      obtain ⟨w3, c3, hF3, e3⟩ := ih (j + 1) (by omega) w2 (c1.trans c2) hF2
      refine ⟨w3, c3, hF3, fun Q => ?_⟩
      rw [← e3 Q, X70_4]
      rw [farX_ch (c1.a rfl)] at e66
      by_cases hW : wkB kd td mo kt tl tk (farX w kt) s j = true
      · rw [wkC_t (W := (fun b => wkB kd td mo kt tl tk (farX w kt) s b)) hW]
        rw [bI_t hW] at e66
        simp only [X70_0, X70_1, X70_2, X70_3, X70_5, X70_6, X70_9, X70_12, X70_13, X70_14, X70_15, X70_18, X70_21, X70_24, X70_27, X70_30, X70_31, Nat.zero_le, and_true, true_and, x_nb0, x_nb1, x_nbp, x_isL_int, x_isL_ref, x_isL_junk, x_isR_ref, x_cat_nil, x_cat_int, x_cat_ref, x_cat_long, Option.toList_some, Option.toList_none, List.cons_append, List.nil_append, Nat.reduceAdd, Nat.reduceLeDiff, Nat.reduceLT, t_tag_si, t_tag_sr, t_tag_sI, x_r_si, x_i_sr, t_r_sI, x_ia_si, x_ia_sI, x_ia_sr, x_ra_si, x_ra_sI, x_ra_sr, g_t22 hX1.sh, hX1.1.hS, nI_leF (show j < S by omega) (show S < 2 ^ 31 by omega), if_false, e66, n10, nI_add]
      · rw [wkC_f (W := (fun b => wkB kd td mo kt tl tk (farX w kt) s b)) hW]
        rw [bI_f hW] at e66
        simp only [X70_0, X70_1, X70_2, X70_3, X70_5, X70_6, X70_9, X70_12, X70_13, X70_14, X70_15, X70_18, X70_21, X70_24, X70_27, X70_30, X70_31, Nat.zero_le, and_true, true_and, x_nb0, x_nb1, x_nbp, x_isL_int, x_isL_ref, x_isL_junk, x_isR_ref, x_cat_nil, x_cat_int, x_cat_ref, x_cat_long, Option.toList_some, Option.toList_none, List.cons_append, List.nil_append, Nat.reduceAdd, Nat.reduceLeDiff, Nat.reduceLT, t_tag_si, t_tag_sr, t_tag_sI, x_r_si, x_i_sr, t_r_sI, x_ia_si, x_ia_sI, x_ia_sr, x_ra_si, x_ra_sI, x_ra_sr, g_t22 hX1.sh, hX1.1.hS, nI_leF (show j < S by omega) (show S < 2 ^ 31 by omega), if_false, e66, if_true, nI_add, Nat.add_zero]
  obtain ⟨w', c', hF', e'⟩ := loop S 0 (by omega) w Ch.refl h.2.2
  refine ⟨w', c', hF', fun Q => ?_⟩
  rw [← e' Q]
  simp only [X70_0, X70_1, X70_2, X70_3, Nat.zero_le, and_true, true_and, x_nb0, x_nb1, x_nbp, x_isL_int, x_isL_ref, x_isL_junk, x_isR_ref, x_cat_nil, x_cat_int, x_cat_ref, x_cat_long, Option.toList_some, Option.toList_none, List.cons_append, List.nil_append, Nat.reduceAdd, Nat.reduceLeDiff, Nat.reduceLT, t_tag_si, t_tag_sr, t_tag_sI, x_r_si, x_i_sr, t_r_sI, x_ia_si, x_ia_sI, x_ia_sr, x_ra_si, x_ra_sI, x_ra_sr]
  rfl
theorem S196 (h : EM w S kd td mo kt tl tk) {b : Nat} (hb : b < S) : ∃ w', Ch (sm [58, 59]) w w' ∧ ∀ Q, X_R L xs (d + 5) 196 0 [.ref 41, .int (nI b), x_junk, x_junk] [] w Q = Q (some (.int (wkM (fun s => wkB kd td mo kt tl tk (farM w kt) s b) S))) w' := by
  have h6 := h.1.S6
  have loop : ∀ n j, j + n = S → ∀ w1, Ch (sm [58, 59]) w w1 → ∃ w', Ch (sm [58, 59]) w w' ∧ ∀ Q, X_R L xs (d + 5) 196 4 [.ref 41, .int (nI b), .int (wkM (fun s => wkB kd td mo kt tl tk (farM w kt) s b) j), .int (nI j)] [] w1 Q = Q (some (.int (wkM (fun s => wkB kd td mo kt tl tk (farM w kt) s b) S))) w' := by
    intro n
    induction n with
    | zero =>
      intro j hj w1 c1
      obtain rfl : j = S := by omega
      have hX1 := h.ch (c1.ma rfl)
      refine ⟨w1, c1, fun Q => ?_⟩
      rw [X196_4]
      simp only [X196_0, X196_1, X196_2, X196_3, X196_5, X196_6, X196_9, X196_12, X196_13, X196_14, X196_15, X196_16, X196_19, X196_22, X196_23, X196_24, X196_25, X196_28, X196_29, X196_30, X196_31, X196_34, X196_37, X196_38, Nat.zero_le, and_true, true_and, x_nb0, x_nb1, x_nbp, x_isL_int, x_isL_ref, x_isL_junk, x_isR_ref, x_cat_nil, x_cat_int, x_cat_ref, x_cat_long, Option.toList_some, Option.toList_none, List.cons_append, List.nil_append, Nat.reduceAdd, Nat.reduceLeDiff, Nat.reduceLT, t_tag_si, t_tag_sr, t_tag_sI, x_r_si, x_i_sr, t_r_sI, x_ia_si, x_ia_sI, x_ia_sr, x_ra_si, x_ra_sI, x_ra_sr, g_t41 hX1.sh, hX1.1.hS, nI_leT (Nat.le_refl j) (show j < 2 ^ 31 by omega), if_true]
    | succ n ih =>
      intro j hj w1 c1
      have hX1 := h.ch (c1.ma rfl)
      obtain ⟨w2, c2, e66⟩ := S197 (L := L) (xs := xs) (d := d) hX1 (show j < S by omega) hb
      obtain ⟨w3, c3, e3⟩ := ih (j + 1) (by omega) w2 (c1.trans c2)
      refine ⟨w3, c3, fun Q => ?_⟩
      rw [← e3 Q, X196_4]
      rw [farM_ch (c1.ma rfl)] at e66
      by_cases hW : wkB kd td mo kt tl tk (farM w kt) j b = true
      · rw [wkM_t (W := (fun s => wkB kd td mo kt tl tk (farM w kt) s b)) hW]
        rw [bI_t hW] at e66
        simp only [X196_0, X196_1, X196_2, X196_3, X196_5, X196_6, X196_9, X196_12, X196_13, X196_14, X196_15, X196_16, X196_19, X196_22, X196_23, X196_24, X196_25, X196_28, X196_29, X196_30, X196_31, X196_34, X196_37, X196_38, Nat.zero_le, and_true, true_and, x_nb0, x_nb1, x_nbp, x_isL_int, x_isL_ref, x_isL_junk, x_isR_ref, x_cat_nil, x_cat_int, x_cat_ref, x_cat_long, Option.toList_some, Option.toList_none, List.cons_append, List.nil_append, Nat.reduceAdd, Nat.reduceLeDiff, Nat.reduceLT, t_tag_si, t_tag_sr, t_tag_sI, x_r_si, x_i_sr, t_r_sI, x_ia_si, x_ia_sI, x_ia_sr, x_ra_si, x_ra_sI, x_ra_sr, g_t41 hX1.sh, hX1.1.hS, nI_leF (show j < S by omega) (show S < 2 ^ 31 by omega), if_false, e66, n10, nI_add]
      · rw [wkM_f (W := (fun s => wkB kd td mo kt tl tk (farM w kt) s b)) hW]
        rw [bI_f hW] at e66
        simp only [X196_0, X196_1, X196_2, X196_3, X196_5, X196_6, X196_9, X196_12, X196_13, X196_14, X196_15, X196_16, X196_19, X196_22, X196_23, X196_24, X196_25, X196_28, X196_29, X196_30, X196_31, X196_34, X196_37, X196_38, Nat.zero_le, and_true, true_and, x_nb0, x_nb1, x_nbp, x_isL_int, x_isL_ref, x_isL_junk, x_isR_ref, x_cat_nil, x_cat_int, x_cat_ref, x_cat_long, Option.toList_some, Option.toList_none, List.cons_append, List.nil_append, Nat.reduceAdd, Nat.reduceLeDiff, Nat.reduceLT, t_tag_si, t_tag_sr, t_tag_sI, x_r_si, x_i_sr, t_r_sI, x_ia_si, x_ia_sI, x_ia_sr, x_ra_si, x_ra_sI, x_ra_sr, g_t41 hX1.sh, hX1.1.hS, nI_leF (show j < S by omega) (show S < 2 ^ 31 by omega), if_false, e66, if_true, nI_add, or_0]
  obtain ⟨w', c', e'⟩ := loop S 0 (by omega) w Ch.refl
  refine ⟨w', c', fun Q => ?_⟩
  rw [← e' Q]
  simp only [X196_0, X196_1, X196_2, X196_3, Nat.zero_le, and_true, true_and, x_nb0, x_nb1, x_nbp, x_isL_int, x_isL_ref, x_isL_junk, x_isR_ref, x_cat_nil, x_cat_int, x_cat_ref, x_cat_long, Option.toList_some, Option.toList_none, List.cons_append, List.nil_append, Nat.reduceAdd, Nat.reduceLeDiff, Nat.reduceLT, t_tag_si, t_tag_sr, t_tag_sI, x_r_si, x_i_sr, t_r_sI, x_ia_si, x_ia_sI, x_ia_sr, x_ra_si, x_ra_sI, x_ra_sr]
  rfl
theorem S201 (h : EM w S kd td mo kt tl tk) {s : Nat} (hs : s < S) : ∃ w', Ch (sm [58, 59]) w w' ∧ ∀ Q, X_R L xs (d + 5) 201 0 [.ref 41, .int (nI s), x_junk, x_junk] [] w Q = Q (some (.int (nI (wkC (fun b => wkB kd td mo kt tl tk (farM w kt) s b) S)))) w' := by
  have h6 := h.1.S6
  have loop : ∀ n j, j + n = S → ∀ w1, Ch (sm [58, 59]) w w1 → ∃ w', Ch (sm [58, 59]) w w' ∧ ∀ Q, X_R L xs (d + 5) 201 4 [.ref 41, .int (nI s), .int (nI (wkC (fun b => wkB kd td mo kt tl tk (farM w kt) s b) j)), .int (nI j)] [] w1 Q = Q (some (.int (nI (wkC (fun b => wkB kd td mo kt tl tk (farM w kt) s b) S)))) w' := by
    intro n
    induction n with
    | zero =>
      intro j hj w1 c1
      obtain rfl : j = S := by omega
      have hX1 := h.ch (c1.ma rfl)
      refine ⟨w1, c1, fun Q => ?_⟩
      rw [X201_4]
      simp only [X201_0, X201_1, X201_2, X201_3, X201_5, X201_6, X201_9, X201_12, X201_13, X201_14, X201_15, X201_16, X201_19, X201_22, X201_23, X201_26, X201_27, X201_28, X201_29, X201_32, X201_35, X201_36, Nat.zero_le, and_true, true_and, x_nb0, x_nb1, x_nbp, x_isL_int, x_isL_ref, x_isL_junk, x_isR_ref, x_cat_nil, x_cat_int, x_cat_ref, x_cat_long, Option.toList_some, Option.toList_none, List.cons_append, List.nil_append, Nat.reduceAdd, Nat.reduceLeDiff, Nat.reduceLT, t_tag_si, t_tag_sr, t_tag_sI, x_r_si, x_i_sr, t_r_sI, x_ia_si, x_ia_sI, x_ia_sr, x_ra_si, x_ra_sI, x_ra_sr, g_t41 hX1.sh, hX1.1.hS, nI_leT (Nat.le_refl j) (show j < 2 ^ 31 by omega), if_true]
    | succ n ih =>
      intro j hj w1 c1
      have hX1 := h.ch (c1.ma rfl)
      obtain ⟨w2, c2, e66⟩ := S197 (L := L) (xs := xs) (d := d) hX1 hs (show j < S by omega)
      obtain ⟨w3, c3, e3⟩ := ih (j + 1) (by omega) w2 (c1.trans c2)
      refine ⟨w3, c3, fun Q => ?_⟩
      rw [← e3 Q, X201_4]
      rw [farM_ch (c1.ma rfl)] at e66
      by_cases hW : wkB kd td mo kt tl tk (farM w kt) s j = true
      · rw [wkC_t (W := (fun b => wkB kd td mo kt tl tk (farM w kt) s b)) hW]
        rw [bI_t hW] at e66
        simp only [X201_0, X201_1, X201_2, X201_3, X201_5, X201_6, X201_9, X201_12, X201_13, X201_14, X201_15, X201_16, X201_19, X201_22, X201_23, X201_26, X201_27, X201_28, X201_29, X201_32, X201_35, X201_36, Nat.zero_le, and_true, true_and, x_nb0, x_nb1, x_nbp, x_isL_int, x_isL_ref, x_isL_junk, x_isR_ref, x_cat_nil, x_cat_int, x_cat_ref, x_cat_long, Option.toList_some, Option.toList_none, List.cons_append, List.nil_append, Nat.reduceAdd, Nat.reduceLeDiff, Nat.reduceLT, t_tag_si, t_tag_sr, t_tag_sI, x_r_si, x_i_sr, t_r_sI, x_ia_si, x_ia_sI, x_ia_sr, x_ra_si, x_ra_sI, x_ra_sr, g_t41 hX1.sh, hX1.1.hS, nI_leF (show j < S by omega) (show S < 2 ^ 31 by omega), if_false, e66, n10, nI_add]
      · rw [wkC_f (W := (fun b => wkB kd td mo kt tl tk (farM w kt) s b)) hW]
        rw [bI_f hW] at e66
        simp only [X201_0, X201_1, X201_2, X201_3, X201_5, X201_6, X201_9, X201_12, X201_13, X201_14, X201_15, X201_16, X201_19, X201_22, X201_23, X201_26, X201_27, X201_28, X201_29, X201_32, X201_35, X201_36, Nat.zero_le, and_true, true_and, x_nb0, x_nb1, x_nbp, x_isL_int, x_isL_ref, x_isL_junk, x_isR_ref, x_cat_nil, x_cat_int, x_cat_ref, x_cat_long, Option.toList_some, Option.toList_none, List.cons_append, List.nil_append, Nat.reduceAdd, Nat.reduceLeDiff, Nat.reduceLT, t_tag_si, t_tag_sr, t_tag_sI, x_r_si, x_i_sr, t_r_sI, x_ia_si, x_ia_sI, x_ia_sr, x_ra_si, x_ra_sI, x_ra_sr, g_t41 hX1.sh, hX1.1.hS, nI_leF (show j < S by omega) (show S < 2 ^ 31 by omega), if_false, e66, if_true, nI_add, Nat.add_zero]
  obtain ⟨w', c', e'⟩ := loop S 0 (by omega) w Ch.refl
  refine ⟨w', c', fun Q => ?_⟩
  rw [← e' Q]
  simp only [X201_0, X201_1, X201_2, X201_3, Nat.zero_le, and_true, true_and, x_nb0, x_nb1, x_nbp, x_isL_int, x_isL_ref, x_isL_junk, x_isR_ref, x_cat_nil, x_cat_int, x_cat_ref, x_cat_long, Option.toList_some, Option.toList_none, List.cons_append, List.nil_append, Nat.reduceAdd, Nat.reduceLeDiff, Nat.reduceLT, t_tag_si, t_tag_sr, t_tag_sI, x_r_si, x_i_sr, t_r_sI, x_ia_si, x_ia_sI, x_ia_sr, x_ra_si, x_ra_sI, x_ra_sr]
  rfl
end S79
