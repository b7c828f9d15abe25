/-! ===== rolling of all: the reference, the calls ===== -/
def rlK (f : (Nat → Nat) → Nat → Nat) (S : Nat) (kt : Nat → Nat) : Nat → Nat → Nat
  | 0 => kt
  | n + 1 => ktN (f (rlK f S kt n)) (rlK f S kt n) S
def rlC (f : (Nat → Nat) → Nat → Nat) (S : Nat) (kt : Nat → Nat) : Nat → Nat
  | 0 => 0
  | n + 1 => rlC f S kt n + if mvB (f (rlK f S kt n)) (rlK f S kt n) S = true then 1 else 0
theorem rlC_t {f : (Nat → Nat) → Nat → Nat} {S : Nat} {kt : Nat → Nat} {n : Nat} (h : mvB (f (rlK f S kt n)) (rlK f S kt n) S = true) : rlC f S kt (n + 1) = rlC f S kt n + 1 := by
  show _ + (if _ then 1 else 0) = _
  rw [if_pos h]
theorem rlC_f {f : (Nat → Nat) → Nat → Nat} {S : Nat} {kt : Nat → Nat} {n : Nat} (h : ¬ mvB (f (rlK f S kt n)) (rlK f S kt n) S = true) : rlC f S kt (n + 1) = rlC f S kt n := by
  show _ + (if _ then 1 else 0) = _
  rw [if_neg h, Nat.add_zero]
theorem rlK_hi {f : (Nat → Nat) → Nat → Nat} {S : Nat} {kt : Nat → Nat} {q : Nat} (hq : S ≤ q) (n : Nat) : rlK f S kt n q = kt q := by
  induction n with
  | zero => rfl
  | succ n ih =>
    show (if q < S then _ else rlK f S kt n q) = kt q
    rw [if_neg (by omega), ih]
theorem rlK_lt {C : Nat → Int32} {T : Int32} {S : Nat} {kd td mo tl kt : Nat → Nat} {tk : Nat → Nat → Nat} (h : ∀ q, q < 6 → kt q < 20) (n : Nat) : ∀ q, q < 6 → rlK (rtX C T S kd td mo tl tk) S kt n q < 20 := by
  induction n with
  | zero => exact h
  | succ n ih =>
    intro q hq
    show (if q < S then rtX C T S kd td mo tl tk (rlK (rtX C T S kd td mo tl tk) S kt n) q else rlK (rtX C T S kd td mo tl tk) S kt n q) < 20
    split
    · exact rtF_lt (ih q hq)
    · exact ih q hq
theorem rtX_cg {C C' : Nat → Int32} (hC : ∀ k, k < 20 → C k = C' k) (T : Int32) (S : Nat) (kd td mo tl : Nat → Nat) (tk : Nat → Nat → Nat) {kt : Nat → Nat} {s : Nat} (h : kt s < 20) : rtX C T S kd td mo tl tk kt s = rtX C' T S kd td mo tl tk kt s := by
  unfold rtX rtF
  have e : fo (stB (cbN C (kt s)) (dNC C T (XL S kd td mo kt))) 20 none = fo (stB (cbN C' (kt s)) (dNC C' T (XL S kd td mo kt))) 20 none := stB_cg (fun o ho => by unfold cbN; rw [hC _ h]) (fun o ho => dNC_cg hC T _ o ho) 20 (Nat.le_refl _)
  rw [e]
  have hok := fo_ok (g := stB (cbN C' (kt s)) (dNC C' T (XL S kd td mo kt))) (fun o p ho hp => stB_ok ho hp) 20 (Nat.le_refl _)
  cases hq : fo (stB (cbN C' (kt s)) (dNC C' T (XL S kd td mo kt))) 20 none with
  | none => rfl
  | some b =>
    rw [hq] at hok
    dsimp only
    rw [dNC_cg hC T _ b hok, dNC_cg hC T _ _ h]
theorem rl_cgf {f g : (Nat → Nat) → Nat → Nat} {S : Nat} {kt : Nat → Nat} (hlt : ∀ n q, q < 6 → rlK g S kt n q < 20) (h : ∀ kt' : Nat → Nat, (∀ q, q < 6 → kt' q < 20) → ∀ q, q < S → f kt' q = g kt' q) (n : Nat) : rlK f S kt n = rlK g S kt n ∧ rlC f S kt n = rlC g S kt n := by
  induction n with
  | zero => exact ⟨rfl, rfl⟩
  | succ n ih =>
    have e := h (rlK g S kt n) (hlt n)
    have e1 : rlK f S kt (n + 1) = ktN (f (rlK f S kt n)) (rlK f S kt n) S := rfl
    have e2 : rlK g S kt (n + 1) = ktN (g (rlK g S kt n)) (rlK g S kt n) S := rfl
    have e3 : rlC f S kt (n + 1) = rlC f S kt n + if mvB (f (rlK f S kt n)) (rlK f S kt n) S = true then 1 else 0 := rfl
    have e4 : rlC g S kt (n + 1) = rlC g S kt n + if mvB (g (rlK g S kt n)) (rlK g S kt n) S = true then 1 else 0 := rfl
    refine ⟨?_, ?_⟩
    · rw [e1, e2, ih.1]
      funext q
      unfold ktN
      by_cases hq : q < S
      · rw [if_pos hq, if_pos hq, e q hq]
      · rw [if_neg hq, if_neg hq]
    · rw [e3, e4, ih.1, ih.2, mvB_cg e]
theorem rl_cg {C C' : Nat → Int32} (hC : ∀ k, k < 20 → C k = C' k) (T : Int32) {S : Nat} (h6 : S ≤ 6) (kd td mo tl : Nat → Nat) (tk : Nat → Nat → Nat) {kt : Nat → Nat} (h : ∀ q, q < 6 → kt q < 20) (n : Nat) : rlK (rtX C T S kd td mo tl tk) S kt n = rlK (rtX C' T S kd td mo tl tk) S kt n ∧ rlC (rtX C T S kd td mo tl tk) S kt n = rlC (rtX C' T S kd td mo tl tk) S kt n :=
  rl_cgf (fun n => rlK_lt h n) (fun kt' h' q hq => rtX_cg hC T S kd td mo tl tk (h' q (by omega))) n
section S992
variable {L : Nat} {xs : Nat → Int32} {d : Nat} {w : x_W} {S : Nat} {kd td mo kt tl : Nat → Nat} {tk : Nat → Nat → Nat}
theorem S185 (h : EM w S kd td mo kt tl tk) : ∃ w', Ch (orc (sm [58, 59, 60, 61, 62, 63]) 46) w w' ∧ (∀ q, x_i w' 46 q = if q < S then nI (rtX (x_i w 42) (x_i w 41 1) S kd td mo tl tk kt q) else x_i w 46 q) ∧ ∀ Q, X_R L xs (d + 5) 185 0 [.ref 41, x_junk, x_junk] [] w Q = Q (some (.int (nI (mvC (rtX (x_i w 42) (x_i w 41 1) S kd td mo tl tk kt) kt S)))) w' := by
  have h6 := h.1.S6
  have hs0 := h.sh
  have e174 := fun (Q' : Option Value → x_W → Prop) => S174 (L := L) (xs := xs) (d := d + 4) (Q := Q') hs0 h.1.hS h6
  have e175 := fun (Q' : Option Value → x_W → Prop) => S175' (L := L) (xs := xs) (d := d + 2) (Q := Q') (sm := nI (2 ^ S - 1)) h.1
  rw [ML_all h6] at e175
  have c1 : Ch (sm [60, 61, 62]) w (WHs w (XL S kd td mo kt)) := Ch_WH
  have h26 : ∀ k, k < 20 → x_i (WHs w (XL S kd td mo kt)) 61 k = nI (dNC (x_i w 42) (x_i w 41 1) (XL S kd td mo kt) k) ∧ dNC (x_i w 42) (x_i w 41 1) (XL S kd td mo kt) k ≤ 999 := fun k hk => ⟨WH_61 _ _ _ _ hk, dpN_le _ _ _ _ _⟩
  generalize hW : WHs w (XL S kd td mo kt) = w1 at *
  have hX1 := h.ch (c1.ma rfl)
  have e24 : x_i w1 42 = x_i w 42 := c1.i (fun _ => rfl)
  have e46 : x_i w1 46 = x_i w 46 := c1.i (fun _ => rfl)
  have ert : rtF (cbN (x_i w 42)) (dNC (x_i w 42) (x_i w 41 1) (XL S kd td mo kt)) kd td mo kt tl tk = rtX (x_i w 42) (x_i w 41 1) S kd td mo tl tk kt := rfl
  have l1 : ∀ n j, j + n = S → ∀ w2, Ch (sm [58, 59, 63]) w1 w2 → (∀ q, q < j → x_i w2 63 q = nI (rtX (x_i w 42) (x_i w 41 1) S kd td mo tl tk kt q)) → ∃ w3, Ch (sm [58, 59, 63]) w1 w3 ∧ (∀ q, q < S → x_i w3 63 q = nI (rtX (x_i w 42) (x_i w 41 1) S kd td mo tl tk kt q)) ∧ ∀ Q, X_R L xs (d + 5) 185 12 [.ref 41, .int (nI (mvC (rtX (x_i w 42) (x_i w 41 1) S kd td mo tl tk kt) kt j)), .int (nI j)] [] w2 Q = X_R L xs (d + 5) 185 60 [.ref 41, .int (nI (mvC (rtX (x_i w 42) (x_i w 41 1) S kd td mo tl tk kt) kt S)), .int (nI S)] [] w3 Q := by
    intro n
    induction n with
    | zero =>
      intro j hj w2 c2 hg
      obtain rfl : j = S := by omega
      have hX2 := hX1.ch (c2.ma rfl)
      refine ⟨w2, c2, hg, fun Q => ?_⟩
      rw [X185_12]
      simp only [X185_13, X185_14, X185_17, Nat.zero_le, and_true, true_and, x_nb0, x_nb1, x_nbp, x_isL_int, x_isL_ref, x_isL_junk, x_isR_ref, x_cat_nil, x_cat_int, x_cat_ref, x_cat_long, Option.toList_some, Option.toList_none, List.cons_append, List.nil_append, Nat.reduceAdd, Nat.reduceLeDiff, Nat.reduceLT, t_tag_si, t_tag_sr, t_tag_sI, x_r_si, x_i_sr, t_r_sI, x_ia_si, x_ia_sI, x_ia_sr, x_ra_si, x_ra_sI, x_ra_sr, g_t41 hX2.sh, hX2.1.hS, nI_leT (Nat.le_refl j) (show j < 2 ^ 31 by omega), if_true]
    | succ n ih =>
      intro j hj w2 c2 hg
      have hX2 := hX1.ch (c2.ma rfl)
      have e26 : x_i w2 61 = x_i w1 61 := c2.i (fun _ => rfl)
      have e242 : x_i w2 42 = x_i w1 42 := c2.i (fun _ => rfl)
      obtain ⟨w3, c3, e61⟩ := S186 (L := L) (xs := xs) (d := d + 1) hX2 (show j < S by omega) (dp := dNC (x_i w 42) (x_i w 41 1) (XL S kd td mo kt)) (fun o ho => by rw [e26]; exact h26 o ho)
      rw [e242, e24, ert] at e61
      have jx := x_ix_nI (show j < 6 by omega) (show 6 < 2 ^ 31 by decide)
      have jc := nI_cl (show j < 2 ^ 31 by omega)
      have hs2 := hX2.sh
      have hX3 := hX2.ch (c3.ma rfl)
      have hs3 := hX3.sh
      have e32 : x_i w3 63 = x_i w2 63 := c3.i (fun _ => rfl)
      have c4 : Ch (sm [58, 59, 63]) w3 (x_si w3 63 j (nI (rtX (x_i w 42) (x_i w 41 1) S kd td mo tl tk kt j))) := Ch_si rfl
      have hs4 := c4.sh hs3
      obtain ⟨hktj, hkt20⟩ := (hX3.1.M j (by omega)).2.2.2
      have hrt20 : rtX (x_i w 42) (x_i w 41 1) S kd td mo tl tk kt j < 20 := rtF_lt hkt20
      have e63 : x_i (x_si w3 63 j (nI (rtX (x_i w 42) (x_i w 41 1) S kd td mo tl tk kt j))) 63 j = nI (rtX (x_i w 42) (x_i w 41 1) S kd td mo tl tk kt j) := by rw [x_i_si, upd_s]
      have e464 : x_i (x_si w3 63 j (nI (rtX (x_i w 42) (x_i w 41 1) S kd td mo tl tk kt j))) 46 j = nI (kt j) := by rw [x_i_sin _ _ _ _ (by decide)]; exact hktj
      obtain ⟨w5, c5, hg5, e5⟩ := ih (j + 1) (by omega) _ (c2.trans ((c3.mup rfl).trans c4)) (by
        intro q hq
        rw [x_i_si]
        by_cases hqj : q = j
        · subst hqj; rw [upd_s]
        · rw [upd_o hqj, e32]; exact hg q (by omega))
      refine ⟨w5, c5, hg5, fun Q => ?_⟩
      rw [← e5 Q, X185_12]
      have est : mvC (rtX (x_i w 42) (x_i w 41 1) S kd td mo tl tk kt) kt (j + 1) = mvC (rtX (x_i w 42) (x_i w 41 1) S kd td mo tl tk kt) kt j + if rtX (x_i w 42) (x_i w 41 1) S kd td mo tl tk kt j = kt j then 0 else 1 := rfl
      rw [est]
      generalize rtX (x_i w 42) (x_i w 41 1) S kd td mo tl tk kt = rt at *
      by_cases hq : rt j = kt j
      · rw [if_pos hq]
        simp only [X185_13, X185_14, X185_17, X185_20, X185_21, X185_24, X185_25, X185_26, X185_27, X185_30, X185_31, X185_32, X185_33, X185_36, X185_37, X185_38, X185_39, X185_42, X185_43, X185_44, X185_47, X185_48, X185_52, X185_53, X185_54, X185_57, Nat.zero_le, and_true, true_and, x_nb0, x_nb1, x_nbp, x_isL_int, x_isL_ref, x_isL_junk, x_isR_ref, x_cat_nil, x_cat_int, x_cat_ref, x_cat_long, Option.toList_some, Option.toList_none, List.cons_append, List.nil_append, Nat.reduceAdd, Nat.reduceLeDiff, Nat.reduceLT, t_tag_si, t_tag_sr, t_tag_sI, x_r_si, x_i_sr, t_r_sI, x_ia_si, x_ia_sI, x_ia_sr, x_ra_si, x_ra_sI, x_ra_sr, g_t41 hs2, hX2.1.hS, nI_leF (show j < S by omega) (show S < 2 ^ 31 by omega), if_false, g_r41_37 hs2, e61, g_a63 hs3, jx, jc, g_t41 hs3, g_r41_37 hs3, g_r41_6 hs3, g_a46 hs3, e63, e464, eq_true (congrArg nI hq), if_true, nI_add, Nat.add_zero]
      · rw [if_neg hq]
        simp only [X185_13, X185_14, X185_17, X185_20, X185_21, X185_24, X185_25, X185_26, X185_27, X185_30, X185_31, X185_32, X185_33, X185_36, X185_37, X185_38, X185_39, X185_42, X185_43, X185_44, X185_51, X185_52, X185_53, X185_54, X185_57, Nat.zero_le, and_true, true_and, x_nb0, x_nb1, x_nbp, x_isL_int, x_isL_ref, x_isL_junk, x_isR_ref, x_cat_nil, x_cat_int, x_cat_ref, x_cat_long, Option.toList_some, Option.toList_none, List.cons_append, List.nil_append, Nat.reduceAdd, Nat.reduceLeDiff, Nat.reduceLT, t_tag_si, t_tag_sr, t_tag_sI, x_r_si, x_i_sr, t_r_sI, x_ia_si, x_ia_sI, x_ia_sr, x_ra_si, x_ra_sI, x_ra_sr, g_t41 hs2, hX2.1.hS, nI_leF (show j < S by omega) (show S < 2 ^ 31 by omega), if_false, g_r41_37 hs2, e61, g_a63 hs3, jx, jc, g_t41 hs3, g_r41_37 hs3, g_r41_6 hs3, g_a46 hs3, e63, e464, nI_eqF hq (show rt j < 2 ^ 31 by omega) (show kt j < 2 ^ 31 by omega), nI_add]
  obtain ⟨w3, c3, hg3, e3⟩ := l1 S 0 (by omega) w1 Ch.refl (fun q hq => absurd hq (Nat.not_lt_zero _))
  have hX3 := hX1.ch (c3.ma rfl)
  have e303 : x_i w3 46 = x_i w 46 := (c3.i (fun _ => rfl)).trans e46
  have l2 : ∀ n j, j + n = S → ∀ w4, Ch (orc (sm []) 46) w3 w4 → (∀ q, x_i w4 46 q = if q < j then nI (rtX (x_i w 42) (x_i w 41 1) S kd td mo tl tk kt q) else x_i w 46 q) → ∃ w5, Ch (orc (sm []) 46) w3 w5 ∧ (∀ q, x_i w5 46 q = if q < S then nI (rtX (x_i w 42) (x_i w 41 1) S kd td mo tl tk kt q) else x_i w 46 q) ∧ ∀ v Q, X_R L xs (d + 5) 185 62 [.ref 41, .int v, .int (nI j)] [] w4 Q = Q (some (.int v)) w5 := by
    generalize hrt : rtX (x_i w 42) (x_i w 41 1) S kd td mo tl tk kt = rt at *
    intro n
    induction n with
    | zero =>
      intro j hj w4 c4 hl
      obtain rfl : j = S := by omega
      have hs4 := c4.sh hX3.sh
      have hS4 : x_i w4 41 2 = nI j := (c4.2.2 41 2 rfl).trans hX3.1.hS
      refine ⟨w4, c4, hl, fun v Q => ?_⟩
      rw [X185_62]
      simp only [X185_63, X185_64, X185_67, X185_88, X185_89, Nat.zero_le, and_true, true_and, x_nb0, x_nb1, x_nbp, x_isL_int, x_isL_ref, x_isL_junk, x_isR_ref, x_cat_nil, x_cat_int, x_cat_ref, x_cat_long, Option.toList_some, Option.toList_none, List.cons_append, List.nil_append, Nat.reduceAdd, Nat.reduceLeDiff, Nat.reduceLT, t_tag_si, t_tag_sr, t_tag_sI, x_r_si, x_i_sr, t_r_sI, x_ia_si, x_ia_sI, x_ia_sr, x_ra_si, x_ra_sI, x_ra_sr, g_t41 hs4, hS4, nI_leT (Nat.le_refl j) (show j < 2 ^ 31 by omega), if_true]
    | succ n ih =>
      intro j hj w4 c4 hl
      have hs4 := c4.sh hX3.sh
      have hS4 : x_i w4 41 2 = nI S := (c4.2.2 41 2 rfl).trans hX3.1.hS
      have jx := x_ix_nI (show j < 6 by omega) (show 6 < 2 ^ 31 by decide)
      have jc := nI_cl (show j < 2 ^ 31 by omega)
      have e32 : x_i w4 63 j = nI (rt j) := by
        rw [c4.i (fun _ => rfl : ∀ k, orc (sm []) 46 63 k = false)]
        exact hg3 j (by omega)
      obtain ⟨w5, c5, hl5, e5⟩ := ih (j + 1) (by omega) (x_si w4 46 j (nI (rt j))) (c4.trans Ch_orc) (by
        intro q
        rw [x_i_si]
        by_cases hqj : q = j
        · subst hqj; rw [upd_s, if_pos (Nat.lt_succ_self _)]
        · rw [upd_o hqj, hl q]
          by_cases hq : q < j
          · rw [if_pos hq, if_pos (by omega)]
          · rw [if_neg hq, if_neg (by omega)])
      refine ⟨w5, c5, hl5, fun v Q => ?_⟩
      rw [← e5 v Q, X185_62]
      simp only [X185_63, X185_64, X185_67, X185_70, X185_71, X185_74, X185_75, X185_76, X185_79, X185_80, X185_81, X185_82, X185_85, Nat.zero_le, and_true, true_and, x_nb0, x_nb1, x_nbp, x_isL_int, x_isL_ref, x_isL_junk, x_isR_ref, x_cat_nil, x_cat_int, x_cat_ref, x_cat_long, Option.toList_some, Option.toList_none, List.cons_append, List.nil_append, Nat.reduceAdd, Nat.reduceLeDiff, Nat.reduceLT, t_tag_si, t_tag_sr, t_tag_sI, x_r_si, x_i_sr, t_r_sI, x_ia_si, x_ia_sI, x_ia_sr, x_ra_si, x_ra_sI, x_ra_sr, g_t41 hs4, hS4, nI_leF (show j < S by omega) (show S < 2 ^ 31 by omega), if_false, g_r41_6 hs4, g_a46 hs4, g_r41_37 hs4, g_a63 hs4, jx, jc, e32, nI_add]
  obtain ⟨w5, c5, hl5, e5⟩ := l2 S 0 (by omega) w3 Ch.refl (fun q => by rw [if_neg (Nat.not_lt_zero _), e303])
  have cc : Ch (orc (sm [58, 59, 60, 61, 62, 63]) 46) w w5 := by
    have a1 : Ch (orc (sm [58, 59, 60, 61, 62, 63]) 46) w w1 := (c1.mup rfl).orc
    have a2 : Ch (orc (sm [58, 59, 60, 61, 62, 63]) 46) w1 w3 := (c3.mup rfl).orc
    have a3 : Ch (orc (sm [58, 59, 60, 61, 62, 63]) 46) w3 w5 := c5.mono (fun b k hb => by
      unfold orc at *
      rw [Bool.or_eq_false_iff] at *
      exact ⟨rfl, hb.2⟩)
    exact a1.trans (a2.trans a3)
  refine ⟨w5, cc, hl5, fun Q => ?_⟩
  rw [← e5 _ Q]
  have e0 : X_R L xs (d + 5) 185 0 [.ref 41, x_junk, x_junk] [] w Q = X_R L xs (d + 5) 185 12 [.ref 41, .int (nI 0), .int (nI 0)] [] w1 Q := by
    simp only [X185_0, X185_1, X185_2, X185_5, X185_8, X185_9, X185_10, X185_11, Nat.zero_le, and_true, true_and, x_nb0, x_nb1, x_nbp, x_isL_int, x_isL_ref, x_isL_junk, x_isR_ref, x_cat_nil, x_cat_int, x_cat_ref, x_cat_long, Option.toList_some, Option.toList_none, List.cons_append, List.nil_append, Nat.reduceAdd, Nat.reduceLeDiff, Nat.reduceLT, t_tag_si, t_tag_sr, t_tag_sI, x_r_si, x_i_sr, t_r_sI, x_ia_si, x_ia_sI, x_ia_sr, x_ra_si, x_ra_sI, x_ra_sr, g_t41 hs0, e174, e175]
  rw [e0]
  refine (e3 Q).trans ?_
  simp only [X185_60, X185_61, Nat.zero_le, and_true, true_and, x_nb0, x_nb1, x_nbp, x_isL_int, x_isL_ref, x_isL_junk, x_isR_ref, x_cat_nil, x_cat_int, x_cat_ref, x_cat_long, Option.toList_some, Option.toList_none, List.cons_append, List.nil_append, Nat.reduceAdd, Nat.reduceLeDiff, Nat.reduceLT, t_tag_si, t_tag_sr, t_tag_sI, x_r_si, x_i_sr, t_r_sI, x_ia_si, x_ia_sI, x_ia_sr, x_ra_si, x_ra_sI, x_ra_sr]
def LC : List Nat := [25, 26, 27, 32, 34]
def LM : List Nat := [58, 59, 60, 61, 62, 63]
theorem S59 (h : EX w S kd td mo kt tl tk) {N : Nat} (hN : N ≤ 20) : ∃ w', Ch (orc (sc LC) 30) w w' ∧ FarOk w' ∧ (∀ q, x_i w' 30 q = if q < S then nI (rlK (rtX (x_i w 24) (x_i w 23 1) S kd td mo tl tk) S kt N q) else x_i w 30 q) ∧ ∀ Q, X_R L xs (d + 6) 59 0 [.ref 22, .int (nI N), x_junk, x_junk] [] w Q = Q (some (.int (nI (rlC (rtX (x_i w 24) (x_i w 23 1) S kd td mo tl tk) S kt N)))) w' := by
  have h6 := h.1.S6
  generalize hf : rtX (x_i w 24) (x_i w 23 1) S kd td mo tl tk = f
  have loop : ∀ n j, j + n = N → ∀ w1, Ch (orc (sc LC) 30) w w1 → FarOk w1 → (∀ q, x_i w1 30 q = if q < S then nI (rlK f S kt j q) else x_i w 30 q) → ∃ w', Ch (orc (sc LC) 30) w w' ∧ FarOk w' ∧ (∀ q, x_i w' 30 q = if q < S then nI (rlK f S kt N q) else x_i w 30 q) ∧ ∀ Q, X_R L xs (d + 6) 59 4 [.ref 22, .int (nI N), .int (nI (rlC f S kt j)), .int (nI j)] [] w1 Q = Q (some (.int (nI (rlC f S kt N)))) w' := by
    intro n
    induction n with
    | zero =>
      intro j hj w1 c1 hF1 hl
      obtain rfl : j = N := by omega
      refine ⟨w1, c1, hF1, hl, fun Q => ?_⟩
      rw [X59_4]
      simp only [X59_5, X59_6, X59_25, X59_26, Nat.zero_le, and_true, true_and, x_nb0, x_nb1, x_nbp, x_isL_int, x_isL_ref, x_isL_junk, x_isR_ref, x_cat_nil, x_cat_int, x_cat_ref, x_cat_long, Option.toList_some, Option.toList_none, List.cons_append, List.nil_append, Nat.reduceAdd, Nat.reduceLeDiff, Nat.reduceLT, t_tag_si, t_tag_sr, t_tag_sI, x_r_si, x_i_sr, t_r_sI, x_ia_si, x_ia_sI, x_ia_sr, x_ra_si, x_ra_sI, x_ra_sr, nI_leT (Nat.le_refl j) (show j < 2 ^ 31 by omega), if_true]
    | succ n ih =>
      intro j hj w1 c1 hF1 hl
      have hklt := rlK_lt (C := x_i w 24) (T := x_i w 23 1) (S := S) (kd := kd) (td := td) (mo := mo) (tl := tl) (tk := tk) (fun q hq => (h.1.bd q hq).2.2.2) j
      rw [hf] at hklt
      have hX1 : EX w1 S kd td mo (rlK f S kt j) tl tk := h.lies (orc_a c1 rfl) hF1 (fun q hq => by
        refine ⟨?_, hklt q hq⟩
        rw [hl q]
        by_cases hqS : q < S
        · rw [if_pos hqS]
        · rw [if_neg hqS, rlK_hi (by omega)]
          exact (h.1.X.1 q hq).2.2.2)
      have hs1 := hX1.sh
      obtain ⟨w2, c2, hF2, hl2, e60⟩ := S60 (L := L) (xs := xs) (d := d) hX1
      have e24 : x_i w1 24 = x_i w 24 := c1.i (fun _ => rfl)
      have e231 : x_i w1 23 1 = x_i w 23 1 := c1.2.2 23 1 rfl
      rw [e24, e231, hf] at hl2 e60
      obtain ⟨w3, c3, hF3, hl3, e3⟩ := ih (j + 1) (by omega) w2 (c1.trans c2) hF2 (fun q => by
        rw [hl2 q]
        by_cases hq : q < S
        · rw [if_pos hq, if_pos hq]
          show nI (f (rlK f S kt j) q) = nI (if q < S then f (rlK f S kt j) q else _)
          rw [if_pos hq]
        · rw [if_neg hq, if_neg hq, hl q, if_neg hq])
      refine ⟨w3, c3, hF3, hl3, fun Q => ?_⟩
      rw [← e3 Q, X59_4]
      by_cases hm : mvB (f (rlK f S kt j)) (rlK f S kt j) S = true
      · rw [rlC_t hm]
        rw [bI_t hm] at e60
        simp only [X59_5, X59_6, X59_9, X59_10, X59_13, X59_16, X59_19, X59_22, Nat.zero_le, and_true, true_and, x_nb0, x_nb1, x_nbp, x_isL_int, x_isL_ref, x_isL_junk, x_isR_ref, x_cat_nil, x_cat_int, x_cat_ref, x_cat_long, Option.toList_some, Option.toList_none, List.cons_append, List.nil_append, Nat.reduceAdd, Nat.reduceLeDiff, Nat.reduceLT, t_tag_si, t_tag_sr, t_tag_sI, x_r_si, x_i_sr, t_r_sI, x_ia_si, x_ia_sI, x_ia_sr, x_ra_si, x_ra_sI, x_ra_sr, nI_leF (show j < N by omega) (show N < 2 ^ 31 by omega), if_false, g_t22 hs1, e60, n10, nI_add]
      · rw [rlC_f hm]
        rw [bI_f hm] at e60
        simp only [X59_5, X59_6, X59_9, X59_10, X59_13, X59_19, X59_22, Nat.zero_le, and_true, true_and, x_nb0, x_nb1, x_nbp, x_isL_int, x_isL_ref, x_isL_junk, x_isR_ref, x_cat_nil, x_cat_int, x_cat_ref, x_cat_long, Option.toList_some, Option.toList_none, List.cons_append, List.nil_append, Nat.reduceAdd, Nat.reduceLeDiff, Nat.reduceLT, t_tag_si, t_tag_sr, t_tag_sI, x_r_si, x_i_sr, t_r_sI, x_ia_si, x_ia_sI, x_ia_sr, x_ra_si, x_ra_sI, x_ra_sr, nI_leF (show j < N by omega) (show N < 2 ^ 31 by omega), if_false, g_t22 hs1, e60, if_true, nI_add]
  obtain ⟨w', c', hF', hl', e'⟩ := loop N 0 (by omega) w Ch.refl h.2.2 (fun q => by
    by_cases hq : q < S
    · rw [if_pos hq]; exact (h.1.X.1 q (by omega)).2.2.2
    · rw [if_neg hq])
  refine ⟨w', c', hF', hl', fun Q => ?_⟩
  rw [← e' Q]
  simp only [X59_0, X59_1, X59_2, X59_3, Nat.zero_le, and_true, true_and, x_nb0, x_nb1, x_nbp, x_isL_int, x_isL_ref, x_isL_junk, x_isR_ref, x_cat_nil, x_cat_int, x_cat_ref, x_cat_long, Option.toList_some, Option.toList_none, List.cons_append, List.nil_append, Nat.reduceAdd, Nat.reduceLeDiff, Nat.reduceLT, t_tag_si, t_tag_sr, t_tag_sI, x_r_si, x_i_sr, t_r_sI, x_ia_si, x_ia_sI, x_ia_sr, x_ra_si, x_ra_sI, x_ra_sr]
  rfl
theorem S184 (h : EM w S kd td mo kt tl tk) {N : Nat} (hN : N ≤ 20) : ∃ w', Ch (orc (sm LM) 46) w w' ∧ (∀ q, x_i w' 46 q = if q < S then nI (rlK (rtX (x_i w 42) (x_i w 41 1) S kd td mo tl tk) S kt N q) else x_i w 46 q) ∧ ∀ Q, X_R L xs (d + 6) 184 0 [.ref 41, .int (nI N), x_junk, x_junk] [] w Q = Q (some (.int (nI (rlC (rtX (x_i w 42) (x_i w 41 1) S kd td mo tl tk) S kt N)))) w' := by
  have h6 := h.1.S6
  generalize hf : rtX (x_i w 42) (x_i w 41 1) S kd td mo tl tk = f
  have loop : ∀ n j, j + n = N → ∀ w1, Ch (orc (sm LM) 46) w w1 → (∀ q, x_i w1 46 q = if q < S then nI (rlK f S kt j q) else x_i w 46 q) → ∃ w', Ch (orc (sm LM) 46) w w' ∧ (∀ q, x_i w' 46 q = if q < S then nI (rlK f S kt N q) else x_i w 46 q) ∧ ∀ Q, X_R L xs (d + 6) 184 4 [.ref 41, .int (nI N), .int (nI (rlC f S kt j)), .int (nI j)] [] w1 Q = Q (some (.int (nI (rlC f S kt N)))) w' := by
    intro n
    induction n with
    | zero =>
      intro j hj w1 c1 hl
      obtain rfl : j = N := by omega
      refine ⟨w1, c1, hl, fun Q => ?_⟩
      rw [X184_4]
      simp only [X184_5, X184_6, X184_30, X184_31, Nat.zero_le, and_true, true_and, x_nb0, x_nb1, x_nbp, x_isL_int, x_isL_ref, x_isL_junk, x_isR_ref, x_cat_nil, x_cat_int, x_cat_ref, x_cat_long, Option.toList_some, Option.toList_none, List.cons_append, List.nil_append, Nat.reduceAdd, Nat.reduceLeDiff, Nat.reduceLT, t_tag_si, t_tag_sr, t_tag_sI, x_r_si, x_i_sr, t_r_sI, x_ia_si, x_ia_sI, x_ia_sr, x_ra_si, x_ra_sI, x_ra_sr, nI_leT (Nat.le_refl j) (show j < 2 ^ 31 by omega), if_true]
    | succ n ih =>
      intro j hj w1 c1 hl
      have hklt := rlK_lt (C := x_i w 42) (T := x_i w 41 1) (S := S) (kd := kd) (td := td) (mo := mo) (tl := tl) (tk := tk) (fun q hq => (h.1.M q hq).2.2.2.2) j
      rw [hf] at hklt
      have hX1 : EM w1 S kd td mo (rlK f S kt j) tl tk := h.lies (orc_ma c1 rfl) (fun q hq => by
        refine ⟨?_, hklt q hq⟩
        rw [hl q]
        by_cases hqS : q < S
        · rw [if_pos hqS]
        · rw [if_neg hqS, rlK_hi (by omega)]
          exact (h.1.M q hq).2.2.2.1)
      have hs1 := hX1.sh
      obtain ⟨w2, c2, hl2, e60⟩ := S185 (L := L) (xs := xs) (d := d) hX1
      have e24 : x_i w1 42 = x_i w 42 := c1.i (fun _ => rfl)
      have e231 : x_i w1 41 1 = x_i w 41 1 := c1.2.2 41 1 rfl
      rw [e24, e231, hf] at hl2 e60
      obtain ⟨w3, c3, hl3, e3⟩ := ih (j + 1) (by omega) w2 (c1.trans c2) (fun q => by
        rw [hl2 q]
        by_cases hq : q < S
        · rw [if_pos hq, if_pos hq]
          show nI (f (rlK f S kt j) q) = nI (if q < S then f (rlK f S kt j) q else _)
          rw [if_pos hq]
        · rw [if_neg hq, if_neg hq, hl q, if_neg hq])
      have hmc := mvC_B (f (rlK f S kt j)) (rlK f S kt j) S
      refine ⟨w3, c3, hl3, fun Q => ?_⟩
      rw [← e3 Q, X184_4]
      by_cases hm : mvB (f (rlK f S kt j)) (rlK f S kt j) S = true
      · rw [rlC_t hm]
        have hpos := hmc.2.mpr hm
        simp only [X184_5, X184_6, X184_9, X184_10, X184_11, X184_14, X184_17, X184_18, X184_22, X184_23, X184_24, X184_27, Nat.zero_le, and_true, true_and, x_nb0, x_nb1, x_nbp, x_isL_int, x_isL_ref, x_isL_junk, x_isR_ref, x_cat_nil, x_cat_int, x_cat_ref, x_cat_long, Option.toList_some, Option.toList_none, List.cons_append, List.nil_append, Nat.reduceAdd, Nat.reduceLeDiff, Nat.reduceLT, t_tag_si, t_tag_sr, t_tag_sI, x_r_si, x_i_sr, t_r_sI, x_ia_si, x_ia_sI, x_ia_sr, x_ra_si, x_ra_sI, x_ra_sr, nI_leF (show j < N by omega) (show N < 2 ^ 31 by omega), if_false, g_t41 hs1, e60, nI_leF hpos (show mvC (f (rlK f S kt j)) (rlK f S kt j) S < 2 ^ 31 by omega), nI_add]
      · rw [rlC_f hm]
        have hz : mvC (f (rlK f S kt j)) (rlK f S kt j) S = 0 := by
          by_cases hp : 0 < mvC (f (rlK f S kt j)) (rlK f S kt j) S
          · exact absurd (hmc.2.mp hp) hm
          · omega
        rw [hz] at e60
        simp only [X184_5, X184_6, X184_9, X184_10, X184_11, X184_14, X184_21, X184_22, X184_23, X184_24, X184_27, Nat.zero_le, and_true, true_and, x_nb0, x_nb1, x_nbp, x_isL_int, x_isL_ref, x_isL_junk, x_isR_ref, x_cat_nil, x_cat_int, x_cat_ref, x_cat_long, Option.toList_some, Option.toList_none, List.cons_append, List.nil_append, Nat.reduceAdd, Nat.reduceLeDiff, Nat.reduceLT, t_tag_si, t_tag_sr, t_tag_sI, x_r_si, x_i_sr, t_r_sI, x_ia_si, x_ia_sI, x_ia_sr, x_ra_si, x_ra_sI, x_ra_sr, nI_leF (show j < N by omega) (show N < 2 ^ 31 by omega), if_false, g_t41 hs1, e60, nI_leT (Nat.le_refl 0) (show 0 < 2 ^ 31 by decide), if_true, nI_add, Nat.add_zero]
  obtain ⟨w', c', hl', e'⟩ := loop N 0 (by omega) w Ch.refl (fun q => by
    by_cases hq : q < S
    · rw [if_pos hq]; exact (h.1.M q (by omega)).2.2.2.1
    · rw [if_neg hq])
  refine ⟨w', c', hl', fun Q => ?_⟩
  rw [← e' Q]
  simp only [X184_0, X184_1, X184_2, X184_3, Nat.zero_le, and_true, true_and, x_nb0, x_nb1, x_nbp, x_isL_int, x_isL_ref, x_isL_junk, x_isR_ref, x_cat_nil, x_cat_int, x_cat_ref, x_cat_long, Option.toList_some, Option.toList_none, List.cons_append, List.nil_append, Nat.reduceAdd, Nat.reduceLeDiff, Nat.reduceLT, t_tag_si, t_tag_sr, t_tag_sI, x_r_si, x_i_sr, t_r_sI, x_ia_si, x_ia_sI, x_ia_sr, x_ra_si, x_ra_sI, x_ra_sr]
  rfl
end S992
