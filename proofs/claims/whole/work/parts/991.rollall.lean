/-! ===== rolling of all: roll, rolled ===== -/
def ktN (rt kt : Nat → Nat) (S q : Nat) : Nat := if q < S then rt q else kt q
def mvB (rt kt : Nat → Nat) : Nat → Bool
  | 0 => false
  | n + 1 => mvB rt kt n || decide (rt n ≠ kt n)
def mvC (rt kt : Nat → Nat) : Nat → Nat
  | 0 => 0
  | n + 1 => mvC rt kt n + if rt n = kt n then 0 else 1
theorem mvC_B (rt kt : Nat → Nat) (n : Nat) : mvC rt kt n ≤ n ∧ (0 < mvC rt kt n ↔ mvB rt kt n = true) := by
  induction n with
  | zero => exact ⟨Nat.le_refl _, ⟨fun h => absurd h (Nat.lt_irrefl _), fun h => absurd h (show ¬ (false = true) by decide)⟩⟩
  | succ n ih =>
    unfold mvC mvB
    rw [Bool.or_eq_true, decide_eq_true_eq, ← ih.2]
    split
    · rename_i h
      exact ⟨by omega, ⟨fun q => Or.inl q, fun q => q.elim id (fun z => absurd h z)⟩⟩
    · rename_i h
      exact ⟨by omega, ⟨fun _ => Or.inr h, fun _ => by omega⟩⟩
theorem mvB_cg {rt rt' kt : Nat → Nat} {n : Nat} (h : ∀ s, s < n → rt s = rt' s) : mvB rt kt n = mvB rt' kt n := by
  induction n with
  | zero => rfl
  | succ n ih =>
    unfold mvB
    rw [ih (fun s hs => h s (by omega)), h n (Nat.lt_succ_self _)]
section S991
variable {L : Nat} {xs : Nat → Int32} {d : Nat} {w : x_W} {S : Nat} {kd td mo kt tl : Nat → Nat} {tk : Nat → Nat → Nat}
def rtX (C : Nat → Int32) (T : Int32) (S : Nat) (kd td mo tl : Nat → Nat) (tk : Nat → Nat → Nat) (kt : Nat → Nat) : Nat → Nat := rtF (cbN C) (dNC C T (XL S kd td mo kt)) kd td mo kt tl tk
theorem bI_b {b : Bool} : (if b = true then nI 1 else nI 0) = bI (b = true) := rfl
theorem S60 (h : EX w S kd td mo kt tl tk) : ∃ w', Ch (orc (sc [25, 26, 27, 32, 34]) 30) w w' ∧ FarOk w' ∧ (∀ q, x_i w' 30 q = if q < S then nI (rtX (x_i w 24) (x_i w 23 1) S kd td mo tl tk kt q) else x_i w 30 q) ∧ ∀ Q, X_R L xs (d + 5) 60 0 [.ref 22, x_junk, x_junk] [] w Q = Q (some (.int (bI (mvB (rtX (x_i w 24) (x_i w 23 1) S kd td mo tl tk kt) kt S = true)))) w' := by
  have h6 := h.1.S6
  have hs0 := h.sh
  have e56 := fun (Q' : Option Value → x_W → Prop) => S56' (L := L) (xs := xs) (d := d + 1) (Q := Q') h.1
  have c1 : Ch (sm [25, 26, 27]) w (WXs w (XL S kd td mo kt)) := Ch_WX
  have h26 : ∀ k, k < 20 → x_i (WXs w (XL S kd td mo kt)) 26 k = nI (dNC (x_i w 24) (x_i w 23 1) (XL S kd td mo kt) k) ∧ dNC (x_i w 24) (x_i w 23 1) (XL S kd td mo kt) k ≤ 999 := fun k hk => ⟨WX_26 _ _ _ _ hk, dpN_le _ _ _ _ _⟩
  generalize hW : WXs w (XL S kd td mo kt) = w1 at *
  have hF1 := h.2.2.m c1 rfl rfl rfl
  have hX1 := h.ch (c1.ma rfl) hF1
  have e24 : x_i w1 24 = x_i w 24 := c1.i (fun _ => rfl)
  have ert : rtF (cbN (x_i w 24)) (dNC (x_i w 24) (x_i w 23 1) (XL S kd td mo kt)) kd td mo kt tl tk = rtX (x_i w 24) (x_i w 23 1) S kd td mo tl tk kt := rfl
  have l1 : ∀ n j, j + n = S → ∀ w2, Ch (sc [32, 34]) w1 w2 → x_i w2 23 6 = x_i w1 23 6 → (∀ q, q < j → x_i w2 32 q = nI (rtX (x_i w 24) (x_i w 23 1) S kd td mo tl tk kt q)) → ∃ w3, Ch (sc [32, 34]) w1 w3 ∧ x_i w3 23 6 = x_i w1 23 6 ∧ (∀ q, q < S → x_i w3 32 q = nI (rtX (x_i w 24) (x_i w 23 1) S kd td mo tl tk kt q)) ∧ ∀ Q, X_R L xs (d + 5) 60 6 [.ref 22, .int (nI j), x_junk] [] w2 Q = X_R L xs (d + 5) 60 31 [.ref 22, .int (nI S), x_junk] [] w3 Q := by
    intro n
    induction n with
    | zero =>
      intro j hj w2 c2 c6 hg
      obtain rfl : j = S := by omega
      have hs2 := c2.sh hX1.sh
      have hX2 := hX1.1.ch (c2.a rfl)
      refine ⟨w2, c2, c6, hg, fun Q => ?_⟩
      rw [X60_6]
      simp only [X60_7, X60_8, X60_11, Nat.zero_le, and_true, true_and, x_nb0, x_nb1, x_nbp, x_isL_int, x_isL_ref, x_isL_junk, x_isR_ref, x_cat_nil, x_cat_int, x_cat_ref, x_cat_long, Option.toList_some, Option.toList_none, List.cons_append, List.nil_append, Nat.reduceAdd, Nat.reduceLeDiff, Nat.reduceLT, t_tag_si, t_tag_sr, t_tag_sI, x_r_si, x_i_sr, t_r_sI, x_ia_si, x_ia_sI, x_ia_sr, x_ra_si, x_ra_sI, x_ra_sr, g_t22 hs2, hX2.hS, nI_leT (Nat.le_refl j) (show j < 2 ^ 31 by omega), if_true]
    | succ n ih =>
      intro j hj w2 c2 c6 hg
      have hF2 : FarOk w2 := hF1.ch c2 rfl rfl c6
      have hX2 := hX1.ch (c2.a rfl) hF2
      have e26 : x_i w2 26 = x_i w1 26 := c2.i (fun _ => rfl)
      have e242 : x_i w2 24 = x_i w1 24 := c2.i (fun _ => rfl)
      obtain ⟨w3, c3, c36, e61⟩ := S61 (L := L) (xs := xs) (d := d + 1) hX2 (show j < S by omega) (dp := dNC (x_i w 24) (x_i w 23 1) (XL S kd td mo kt)) (fun o ho => by rw [e26]; exact h26 o ho)
      rw [e242, e24, ert] at e61
      have jx := x_ix_nI (show j < 6 by omega) (show 6 < 2 ^ 31 by decide)
      have jc := nI_cl (show j < 2 ^ 31 by omega)
      have hs2 := hX2.sh
      have hs3 := c3.sh hs2
      have e32 : x_i w3 32 = x_i w2 32 := c3.i (fun _ => rfl)
      have c4 : Ch (sc [32, 34]) w3 (x_si w3 32 j (nI (rtX (x_i w 24) (x_i w 23 1) S kd td mo tl tk kt j))) := Ch_si rfl
      obtain ⟨w5, c5, c56, hg5, e5⟩ := ih (j + 1) (by omega) _ (c2.trans ((c3.up rfl).trans c4)) (by rw [x_i_sin _ _ _ _ (by decide), c36, c6]) (by
        intro q hq
        rw [x_i_si]
        by_cases hqj : q = j
        · subst hqj; rw [upd_s]
        · rw [upd_o hqj, e32]; exact hg q (by omega))
      refine ⟨w5, c5, c56, hg5, fun Q => ?_⟩
      rw [← e5 Q, X60_6]
      simp only [X60_7, X60_8, X60_11, X60_14, X60_15, X60_18, X60_19, X60_20, X60_21, X60_24, X60_25, X60_28, Nat.zero_le, and_true, true_and, x_nb0, x_nb1, x_nbp, x_isL_int, x_isL_ref, x_isL_junk, x_isR_ref, x_cat_nil, x_cat_int, x_cat_ref, x_cat_long, Option.toList_some, Option.toList_none, List.cons_append, List.nil_append, Nat.reduceAdd, Nat.reduceLeDiff, Nat.reduceLT, t_tag_si, t_tag_sr, t_tag_sI, x_r_si, x_i_sr, t_r_sI, x_ia_si, x_ia_sI, x_ia_sr, x_ra_si, x_ra_sI, x_ra_sr, g_t22 hs2, hX2.1.hS, nI_leF (show j < S by omega) (show S < 2 ^ 31 by omega), if_false, g_r22_6 hs2, e61, g_a32 hs3, jx, jc, nI_add]
  obtain ⟨w3, c3, c36, hg3, e3⟩ := l1 S 0 (by omega) w1 Ch.refl rfl (fun q hq => absurd hq (Nat.not_lt_zero _))
  have hX3 := hX1.1.ch (c3.a rfl)
  have e303 : x_i w3 30 = x_i w 30 := (c3.i (fun _ => rfl)).trans (c1.i (fun _ => rfl))
  have l2 : ∀ n j, j + n = S → ∀ w4, Ch (orc (sc []) 30) w3 w4 → x_i w4 23 6 = x_i w3 23 6 → (∀ q, x_i w4 30 q = if q < j then nI (rtX (x_i w 24) (x_i w 23 1) S kd td mo tl tk kt q) else x_i w 30 q) → ∃ w5, Ch (orc (sc []) 30) w3 w5 ∧ x_i w5 23 6 = x_i w3 23 6 ∧ (∀ q, x_i w5 30 q = if q < S then nI (rtX (x_i w 24) (x_i w 23 1) S kd td mo tl tk kt q) else x_i w 30 q) ∧ ∀ Q, X_R L xs (d + 5) 60 35 [.ref 22, .int (bI (mvB (rtX (x_i w 24) (x_i w 23 1) S kd td mo tl tk kt) kt j = true)), .int (nI j)] [] w4 Q = Q (some (.int (bI (mvB (rtX (x_i w 24) (x_i w 23 1) S kd td mo tl tk kt) kt S = true)))) w5 := by
    generalize hrt : rtX (x_i w 24) (x_i w 23 1) S kd td mo tl tk kt = rt at *
    intro n
    induction n with
    | zero =>
      intro j hj w4 c4 c46 hl
      obtain rfl : j = S := by omega
      have hs4 := c4.sh hX3.sh
      have hS4 : x_i w4 22 4 = nI j := (c4.2.2 22 4 rfl).trans hX3.hS
      refine ⟨w4, c4, c46, hl, fun Q => ?_⟩
      rw [X60_35]
      simp only [X60_36, X60_37, X60_40, X60_86, X60_87, Nat.zero_le, and_true, true_and, x_nb0, x_nb1, x_nbp, x_isL_int, x_isL_ref, x_isL_junk, x_isR_ref, x_cat_nil, x_cat_int, x_cat_ref, x_cat_long, Option.toList_some, Option.toList_none, List.cons_append, List.nil_append, Nat.reduceAdd, Nat.reduceLeDiff, Nat.reduceLT, t_tag_si, t_tag_sr, t_tag_sI, x_r_si, x_i_sr, t_r_sI, x_ia_si, x_ia_sI, x_ia_sr, x_ra_si, x_ra_sI, x_ra_sr, g_t22 hs4, hS4, nI_leT (Nat.le_refl j) (show j < 2 ^ 31 by omega), if_true, bI_nb]
    | succ n ih =>
      intro j hj w4 c4 c46 hl
      have hs4 := c4.sh hX3.sh
      have hS4 : x_i w4 22 4 = nI S := (c4.2.2 22 4 rfl).trans hX3.hS
      have jx := x_ix_nI (show j < 6 by omega) (show 6 < 2 ^ 31 by decide)
      have jc := nI_cl (show j < 2 ^ 31 by omega)
      have e32 : x_i w4 32 j = nI (rt j) := by
        rw [c4.i (fun _ => rfl : ∀ k, orc (sc []) 30 32 k = false)]
        exact hg3 j (by omega)
      have hktj := h.1.X.1 j (by omega)
      have hkt20 := (h.1.bd j (by omega)).2.2.2
      have e30 : x_i w4 30 j = nI (kt j) := by rw [hl j, if_neg (Nat.lt_irrefl _)]; exact hktj.2.2.2
      have hrt20 : rt j < 20 := by rw [← hrt]; exact rtF_lt hkt20
      obtain ⟨w5, c5, c56, hl5, e5⟩ := ih (j + 1) (by omega) (x_si w4 30 j (nI (rt j))) (c4.trans Ch_orc) (by rw [x_i_sin _ _ _ _ (by decide), c46]) (by
        intro q
        rw [x_i_si]
        by_cases hqj : q = j
        · subst hqj; rw [upd_s, if_pos (Nat.lt_succ_self _)]
        · rw [upd_o hqj, hl q]
          by_cases hq : q < j
          · rw [if_pos hq, if_pos (by omega)]
          · rw [if_neg hq, if_neg (by omega)])
      refine ⟨w5, c5, c56, hl5, fun Q => ?_⟩
      rw [← e5 Q, X60_35]
      have est : mvB rt kt (j + 1) = (mvB rt kt j || decide (rt j ≠ kt j)) := rfl
      rw [est]
      by_cases hm : mvB rt kt j = true
      · rw [hm, Bool.true_or, bI_t rfl]
        simp only [X60_36, X60_37, X60_40, X60_43, X60_44, X60_62, X60_63, X60_67, X60_68, X60_69, X60_72, X60_73, X60_74, X60_77, X60_78, X60_79, X60_80, X60_83, Nat.zero_le, and_true, true_and, x_nb0, x_nb1, x_nbp, x_isL_int, x_isL_ref, x_isL_junk, x_isR_ref, x_cat_nil, x_cat_int, x_cat_ref, x_cat_long, Option.toList_some, Option.toList_none, List.cons_append, List.nil_append, Nat.reduceAdd, Nat.reduceLeDiff, Nat.reduceLT, t_tag_si, t_tag_sr, t_tag_sI, x_r_si, x_i_sr, t_r_sI, x_ia_si, x_ia_sI, x_ia_sr, x_ra_si, x_ra_sI, x_ra_sr, g_t22 hs4, hS4, nI_leF (show j < S by omega) (show S < 2 ^ 31 by omega), if_false, n10, g_r22_3 hs4, g_a30 hs4, g_r22_6 hs4, g_a32 hs4, jx, jc, e32, nI_add]
      · rw [Bool.not_eq_true _ |>.mp hm, Bool.false_or, bI_f (by decide)]
        by_cases hq : rt j = kt j
        · rw [bI_f (by rw [decide_eq_false (fun z => z hq)]; decide)]
          simp only [X60_36, X60_37, X60_40, X60_43, X60_44, X60_47, X60_48, X60_51, X60_52, X60_53, X60_54, X60_57, X60_58, X60_59, X60_66, X60_67, X60_68, X60_69, X60_72, X60_73, X60_74, X60_77, X60_78, X60_79, X60_80, X60_83, Nat.zero_le, and_true, true_and, x_nb0, x_nb1, x_nbp, x_isL_int, x_isL_ref, x_isL_junk, x_isR_ref, x_cat_nil, x_cat_int, x_cat_ref, x_cat_long, Option.toList_some, Option.toList_none, List.cons_append, List.nil_append, Nat.reduceAdd, Nat.reduceLeDiff, Nat.reduceLT, t_tag_si, t_tag_sr, t_tag_sI, x_r_si, x_i_sr, t_r_sI, x_ia_si, x_ia_sI, x_ia_sr, x_ra_si, x_ra_sI, x_ra_sr, g_t22 hs4, hS4, nI_leF (show j < S by omega) (show S < 2 ^ 31 by omega), if_false, if_true, g_r22_3 hs4, g_a30 hs4, g_r22_6 hs4, g_a32 hs4, jx, jc, e32, e30, hq, nI_add]
        · rw [bI_t (decide_eq_true hq)]
          simp only [X60_36, X60_37, X60_40, X60_43, X60_44, X60_47, X60_48, X60_51, X60_52, X60_53, X60_54, X60_57, X60_58, X60_59, X60_62, X60_63, X60_67, X60_68, X60_69, X60_72, X60_73, X60_74, X60_77, X60_78, X60_79, X60_80, X60_83, Nat.zero_le, and_true, true_and, x_nb0, x_nb1, x_nbp, x_isL_int, x_isL_ref, x_isL_junk, x_isR_ref, x_cat_nil, x_cat_int, x_cat_ref, x_cat_long, Option.toList_some, Option.toList_none, List.cons_append, List.nil_append, Nat.reduceAdd, Nat.reduceLeDiff, Nat.reduceLT, t_tag_si, t_tag_sr, t_tag_sI, x_r_si, x_i_sr, t_r_sI, x_ia_si, x_ia_sI, x_ia_sr, x_ra_si, x_ra_sI, x_ra_sr, g_t22 hs4, hS4, nI_leF (show j < S by omega) (show S < 2 ^ 31 by omega), if_false, if_true, g_r22_3 hs4, g_a30 hs4, g_r22_6 hs4, g_a32 hs4, jx, jc, e32, e30, nI_eqF hq (show rt j < 2 ^ 31 by omega) (show kt j < 2 ^ 31 by omega), nI_add]
  obtain ⟨w5, c5, c56, hl5, e5⟩ := l2 S 0 (by omega) w3 Ch.refl rfl (fun q => by rw [if_neg (Nat.not_lt_zero _), e303])
  have cc : Ch (orc (sc [25, 26, 27, 32, 34]) 30) w w5 := by
    have a1 : Ch (orc (sc [25, 26, 27, 32, 34]) 30) w w1 := (c1.ms.up rfl).orc
    have a2 : Ch (orc (sc [25, 26, 27, 32, 34]) 30) w1 w3 := (c3.up rfl).orc
    have a3 : Ch (orc (sc [25, 26, 27, 32, 34]) 30) w3 w5 := c5.mono (fun b k hb => by
      unfold orc at *
      rw [Bool.or_eq_false_iff] at *
      exact ⟨sc_sub (elem_sub (l := []) rfl) hb.1, hb.2⟩)
    exact a1.trans (a2.trans a3)
  refine ⟨w5, cc, ?_, hl5, fun Q => ?_⟩
  · refine hF1.of ?_ ?_ ?_
    · rw [c56, c36]
    · rw [c5.i (fun _ => rfl), c3.i (fun _ => rfl)]
    · rw [c5.i (fun _ => rfl), c3.i (fun _ => rfl)]
  · rw [← e5 Q]
    have e0 : X_R L xs (d + 5) 60 0 [.ref 22, x_junk, x_junk] [] w Q = X_R L xs (d + 5) 60 6 [.ref 22, .int (nI 0), x_junk] [] w1 Q := by
      simp only [X60_0, X60_1, X60_4, X60_5, Nat.zero_le, and_true, true_and, x_nb0, x_nb1, x_nbp, x_isL_int, x_isL_ref, x_isL_junk, x_isR_ref, x_cat_nil, x_cat_int, x_cat_ref, x_cat_long, Option.toList_some, Option.toList_none, List.cons_append, List.nil_append, Nat.reduceAdd, Nat.reduceLeDiff, Nat.reduceLT, t_tag_si, t_tag_sr, t_tag_sI, x_r_si, x_i_sr, t_r_sI, x_ia_si, x_ia_sI, x_ia_sr, x_ra_si, x_ra_sI, x_ra_sr, g_t22 hs0, e56]
    rw [e0, e3 Q]
    simp only [X60_31, X60_32, X60_33, X60_34, Nat.zero_le, and_true, true_and, x_nb0, x_nb1, x_nbp, x_isL_int, x_isL_ref, x_isL_junk, x_isR_ref, x_cat_nil, x_cat_int, x_cat_ref, x_cat_long, Option.toList_some, Option.toList_none, List.cons_append, List.nil_append, Nat.reduceAdd, Nat.reduceLeDiff, Nat.reduceLT, t_tag_si, t_tag_sr, t_tag_sI, x_r_si, x_i_sr, t_r_sI, x_ia_si, x_ia_sI, x_ia_sr, x_ra_si, x_ra_sI, x_ra_sr]
    rfl
end S991
