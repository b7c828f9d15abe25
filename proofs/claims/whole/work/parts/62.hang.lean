/-! ===== hang() ===== -/
theorem sumT_add (p : Nat → Nat) (a b : Nat) : sumT p (a + b) = sumT p a + sumT (fun n => p (a + n)) b := by
  induction b with
  | zero => rfl
  | succ b ih =>
    show sumT p (a + b) + p (a + b) = sumT p a + (sumT (fun n => p (a + n)) b + p (a + b))
    omega
theorem sumT_0 (p : Nat → Nat) (n : Nat) (h : ∀ i, i < n → p i = 0) : sumT p n = 0 := by
  induction n with
  | zero => rfl
  | succ n ih =>
    unfold sumT
    rw [ih (fun i hi => h i (by omega)), h n (Nat.lt_succ_self _)]
theorem sumT_cg {p q : Nat → Nat} {n : Nat} (h : ∀ i, i < n → p i = q i) : sumT p n = sumT q n := by
  induction n with
  | zero => rfl
  | succ n ih =>
    unfold sumT
    rw [ih (fun i hi => h i (by omega)), h n (Nat.lt_succ_self _)]
theorem sumT_20 (F : Nat → Nat → Nat) (k : Nat) : sumT (fun q => F (q / 20) (q % 20)) (20 * k) = sumT (fun k => sumT (F k) 20) k := by
  induction k with
  | zero => rfl
  | succ k ih =>
    rw [Nat.mul_succ, sumT_add, ih]
    show _ = sumT (fun k => sumT (F k) 20) k + sumT (F k) 20
    rw [sumT_cg (p := fun n => F ((20 * k + n) / 20) ((20 * k + n) % 20)) (q := F k) (fun i hi => by
      have h1 : (20 * k + i) / 20 = k := by omega
      have h2 : (20 * k + i) % 20 = i := by omega
      rw [h1, h2])]
theorem bes_far : ∀ k, k < 20 → ∀ o, o < 20 → k + 6 ≤ o → besN k o = false := by decide +kernel
theorem tear_eq {c : Nat → Nat → Bool} {p : Nat → Nat} {br : Nat → Nat → Int32} (hc : ∀ k o, k < 20 → o < 20 → besN k o = false → c k o = false) : sumT (fun q => tm c p br (q / 20) (q % 20)) 400 = sumT (tcK c p br) 20 := by
  rw [show 400 = 20 * 20 from rfl, sumT_20]
  apply sumT_cg
  intro k hk
  have e1 : sumT (tm c p br k) 20 = sumT (fun o => if k < o then tc c p br k o else 0) 20 := by
    apply sumT_cg
    intro o ho
    unfold tm tc
    by_cases h1 : k < o
    · rw [if_pos h1]
      by_cases h2 : c k o = true ∧ ¬ nI (absD (p k) (p o)) ≤ br k o
      · rw [if_pos ⟨h1, h2⟩, if_pos ⟨ho, h2⟩]
      · rw [if_neg (fun z => h2 z.2), if_neg (fun z => h2 z.2)]
    · rw [if_neg h1, if_neg (fun z => h1 z.1)]
  have e2 : sumT (fun o => if k < o then tc c p br k o else 0) 26 = sumT (fun o => if k < o then tc c p br k o else 0) 20 := by
    rw [show 26 = 20 + 6 from rfl, sumT_add, sumT_0 (fun n => if k < 20 + n then tc c p br k (20 + n) else 0) 6 (fun i hi => by
      have h0 : tc c p br k (20 + i) = 0 := if_neg (fun z => absurd z.1 (by omega))
      show (if k < 20 + i then tc c p br k (20 + i) else 0) = 0
      rw [h0, ite_self]), Nat.add_zero]
  have e3 : sumT (fun o => if k < o then tc c p br k o else 0) 26 = tcK c p br k := by
    rw [show 26 = (k + 1) + (5 + (20 - k)) by omega, sumT_add _ (k + 1) (5 + (20 - k)), sumT_add _ 5 (20 - k), sumT_0 (fun o => if k < o then tc c p br k o else 0) (k + 1) (fun i hi => if_neg (by omega)), Nat.zero_add, sumT_0 (fun n => if k < k + 1 + (5 + n) then tc c p br k (k + 1 + (5 + n)) else 0) (20 - k) (fun i hi => by
      have h0 : tc c p br k (k + 1 + (5 + i)) = 0 := by
        unfold tc
        apply if_neg
        intro z
        have := hc k (k + 1 + (5 + i)) hk z.1 (bes_far k hk _ z.1 (by omega))
        rw [this] at z
        exact absurd z.2.1 (by decide)
      show (if k < k + 1 + (5 + i) then tc c p br k (k + 1 + (5 + i)) else 0) = 0
      rw [h0, ite_self]), Nat.add_zero]
    unfold tcK
    apply sumT_cg
    intro n hn
    exact if_pos (by omega)
  rw [e1, ← e2, e3]
/-- where a law's rows may lie -/
def LawP (A E K : Nat) : Prop := (A = 11 ∨ 66 ≤ A) ∧ (E = 12 ∨ 66 ≤ E) ∧ (K = 13 ∨ 66 ≤ K)
section S62
variable {L : Nat} {xs : Nat → Int32} {d : Nat} {w : x_W} {Q : Option Value → x_W → Prop} {S : Nat} {kd td mo kt : Nat → Nat}
theorem PartX_WX {A E n p e0 e : Nat} {st a b c : Nat → Nat} (hA : A ≠ 25 ∧ A ≠ 26 ∧ A ≠ 27) (hE : E ≠ 25 ∧ E ≠ 26 ∧ E ≠ 27) (h : PartX w A E n p e0 e st) : PartX (WX w a b c) A E n p e0 e st := by
  unfold PartX
  rw [WX_o _ _ _ _ _ hA, WX_o _ _ _ _ _ hE]
  exact h
theorem PartM_WH {r p s0 e : Nat} {st a b c : Nat → Nat} (h : PartM w r p s0 e st) : PartM (WH w a b c) r p s0 e st := by
  unfold PartM
  rw [WH_o _ _ _ _ 49 (by decide), WH_o _ _ _ _ 48 (by decide)]
  exact h
theorem S20n {v : Int32} (h : ¬ (nI 0 ≤ v ∧ v ≤ nI 3)) : X_R L xs (d + 5) 20 0 [.ref 0, .int v] [] w Q = Q (some (.int (-2))) w := by
  simp only [X20_0, X20_1, X20_2, X20_3, X20_6, X20_9, X20_11, Nat.zero_le, and_true, true_and, x_nb0, x_nb1, x_nbp, x_isL_int, x_isL_ref, x_isL_junk, x_isR_ref, x_cat_nil, x_cat_int, x_cat_ref, x_cat_long, Option.toList_some, Option.toList_none, List.cons_append, List.nil_append, Nat.reduceAdd, Nat.reduceLeDiff, Nat.reduceLT, t_tag_si, t_tag_sr, t_tag_sI, x_r_si, x_i_sr, t_r_sI, x_ia_si, x_ia_sI, x_ia_sr, x_ra_si, x_ra_sI, x_ra_sr, S10, bI_0, h, not_false_eq_true, if_true]
theorem S179n {v : Int32} (h : ¬ (nI 0 ≤ v ∧ v ≤ nI 3)) : X_R L xs (d + 5) 179 0 [.ref 41, .int v] [] w Q = Q (some (.int (-2))) w := by
  simp only [X179_0, X179_1, X179_2, X179_3, X179_6, X179_9, X179_11, Nat.zero_le, and_true, true_and, x_nb0, x_nb1, x_nbp, x_isL_int, x_isL_ref, x_isL_junk, x_isR_ref, x_cat_nil, x_cat_int, x_cat_ref, x_cat_long, Option.toList_some, Option.toList_none, List.cons_append, List.nil_append, Nat.reduceAdd, Nat.reduceLeDiff, Nat.reduceLT, t_tag_si, t_tag_sr, t_tag_sI, x_r_si, x_i_sr, t_r_sI, x_ia_si, x_ia_sI, x_ia_sr, x_ra_si, x_ra_sI, x_ra_sr, S138, bI_0, h, not_false_eq_true, if_true]
theorem S20_0 (h : CX w S kd td mo kt) : X_R L xs (d + 5) 20 0 [.ref 0, .int (nI 0)] [] w Q = Q (some (.int (nI (XD w (XL S kd td mo kt) 12 (bestN (XD w (XL S kd td mo kt) 12) 19))))) (WXs w (XL S kd td mo kt)) := by
  have h56 := fun (Q' : Option Value → x_W → Prop) => S56' (L := L) (xs := xs) (d := d + 1) (Q := Q') h
  have hb := bestN_le (XD w (XL S kd td mo kt) 12) 19
  have hix := x_ix_nI (show bestN (XD w (XL S kd td mo kt) 12) 19 < 20 by omega) (show 20 < 2 ^ 31 by decide)
  have hic := nI_cl (show bestN (XD w (XL S kd td mo kt) 12) 19 < 2 ^ 31 by omega)
  have hsW : Sh (WXs w (XL S kd td mo kt)) := h.sh
  have hdW : Sd (WXs w (XL S kd td mo kt)) := h.sd
  have h94 := fun (Q' : Option Value → x_W → Prop) => S94 (L := L) (xs := xs) (d := d + 4) (Q := Q') (w := WXs w (XL S kd td mo kt)) (p := XD w (XL S kd td mo kt) 12) hsW hdW (fun k hk => ⟨WX_26 _ _ _ _ hk, XD_le _ _ _ _⟩)
  have h26 : x_i (WXs w (XL S kd td mo kt)) 26 (bestN (XD w (XL S kd td mo kt) 12) 19) = nI (XD w (XL S kd td mo kt) 12 (bestN (XD w (XL S kd td mo kt) 12) 19)) := WX_26 _ _ _ _ (by omega)
  have hin : nI 0 ≤ nI 0 ∧ nI 0 ≤ nI 3 := by decide
  simp only [X20_0, X20_1, X20_2, X20_3, X20_6, X20_12, X20_13, X20_16, X20_19, X20_20_0, X20_20_1, X20_20_2, X20_20_d, X20_48, X20_49, X20_52, X20_55, X20_56, X20_59, X20_62, X20_63, Nat.zero_le, and_true, true_and, x_nb0, x_nb1, x_nbp, x_isL_int, x_isL_ref, x_isL_junk, x_isR_ref, x_cat_nil, x_cat_int, x_cat_ref, x_cat_long, Option.toList_some, Option.toList_none, List.cons_append, List.nil_append, Nat.reduceAdd, Nat.reduceLeDiff, Nat.reduceLT, t_tag_si, t_tag_sr, t_tag_sI, x_r_si, x_i_sr, t_r_sI, x_ia_si, x_ia_sI, x_ia_sr, x_ra_si, x_ra_sI, x_ra_sr, S10, bI_0, hin, and_self, not_true, if_false, g_t0 h.sh, g_r0_0 h.sh, g_r0_1 h.sh, g_r0_4 h.sh, g_r0_5 h.sh, g_r0_6 h.sh, g_r0_7 h.sh, g_t22 h.sh, h56, g_t0 hsW, g_r0_0 hsW, g_r0_1 hsW, g_r0_4 hsW, g_r0_5 hsW, g_r0_6 hsW, g_r0_7 hsW, g_t22 hsW, g_t23 hsW, hdW.1, h94, g_a26 hsW, hix, hic, h26]
theorem S20_1 (h : CX w S kd td mo kt) : X_R L xs (d + 5) 20 0 [.ref 0, .int (nI 1)] [] w Q = Q (some (.int (nI (bestN (XD w (XL S kd td mo kt) 12) 19)))) (WXs w (XL S kd td mo kt)) := by
  have h56 := fun (Q' : Option Value → x_W → Prop) => S56' (L := L) (xs := xs) (d := d + 1) (Q := Q') h
  have hsW : Sh (WXs w (XL S kd td mo kt)) := h.sh
  have hdW : Sd (WXs w (XL S kd td mo kt)) := h.sd
  have h94 := fun (Q' : Option Value → x_W → Prop) => S94 (L := L) (xs := xs) (d := d + 4) (Q := Q') (w := WXs w (XL S kd td mo kt)) (p := XD w (XL S kd td mo kt) 12) hsW hdW (fun k hk => ⟨WX_26 _ _ _ _ hk, XD_le _ _ _ _⟩)
  have hin : nI 0 ≤ nI 1 ∧ nI 1 ≤ nI 3 := by decide
  simp only [X20_0, X20_1, X20_2, X20_3, X20_6, X20_12, X20_13, X20_16, X20_19, X20_20_0, X20_20_1, X20_20_2, X20_20_d, X20_64, X20_65, X20_68, X20_71, Nat.zero_le, and_true, true_and, x_nb0, x_nb1, x_nbp, x_isL_int, x_isL_ref, x_isL_junk, x_isR_ref, x_cat_nil, x_cat_int, x_cat_ref, x_cat_long, Option.toList_some, Option.toList_none, List.cons_append, List.nil_append, Nat.reduceAdd, Nat.reduceLeDiff, Nat.reduceLT, t_tag_si, t_tag_sr, t_tag_sI, x_r_si, x_i_sr, t_r_sI, x_ia_si, x_ia_sI, x_ia_sr, x_ra_si, x_ra_sI, x_ra_sr, S10, bI_0, hin, and_self, not_true, if_false, g_t0 h.sh, g_r0_0 h.sh, g_r0_1 h.sh, g_r0_4 h.sh, g_r0_5 h.sh, g_r0_6 h.sh, g_r0_7 h.sh, g_t22 h.sh, h56, g_t0 hsW, g_r0_0 hsW, g_r0_1 hsW, g_r0_4 hsW, g_r0_5 hsW, g_r0_6 hsW, g_r0_7 hsW, g_t23 hsW, h94]
theorem S20_2 {A0 A E K n e0 e : Nat} {st : Nat → Nat} (h : CX w S kd td mo kt) (hl : LawW w A0 A E K n) (hLP : LawP A E K) (hP : PartX w A E n 2 e0 e st) (hW : WfP st (e - e0)) :
    ∃ f g, ∀ Q, X_R L xs (d + 5) 20 0 [.ref 0, .int (nI 2)] [] w Q = Q (some (.int (nI (sumT (tcK (cbN (x_i w 24)) (XD w (XL S kd td mo kt) 12) (brF st (e - e0) (XL S kd td mo kt))) 20)))) (UK (WXs w (XL S kd td mo kt)) K f g) := by
  have h56 := fun (Q' : Option Value → x_W → Prop) => S56' (L := L) (xs := xs) (d := d + 1) (Q := Q') h
  have hsW : Sh (WXs w (XL S kd td mo kt)) := h.sh
  have hdW : Sd (WXs w (XL S kd td mo kt)) := h.sd
  obtain ⟨f, g, h57⟩ := S57 (L := L) (xs := xs) (d := d + 1) (w := WXs w (XL S kd td mo kt)) (l := XL S kd td mo kt) (p := XD w (XL S kd td mo kt) 12) hsW hdW (show LawW (WXs w (XL S kd td mo kt)) A0 A E K n from hl) hLP.2.2 (PartX_WX (by have := hLP.1; omega) (by have := hLP.2.1; omega) hP) hW (fun k hk => WX_25 _ _ _ _ hk) (fun k hk => ⟨WX_26 _ _ _ _ hk, XD_le _ _ _ _⟩)
  have e24 : x_i (WXs w (XL S kd td mo kt)) 24 = x_i w 24 := WX_o _ _ _ _ _ (by decide)
  rw [e24] at h57
  refine ⟨f, g, fun Q => ?_⟩
  have hin : nI 0 ≤ nI 2 ∧ nI 2 ≤ nI 3 := by decide
  simp only [X20_0, X20_1, X20_2, X20_3, X20_6, X20_12, X20_13, X20_16, X20_19, X20_20_0, X20_20_1, X20_20_2, X20_20_d, X20_72, X20_73, X20_76, X20_79, Nat.zero_le, and_true, true_and, x_nb0, x_nb1, x_nbp, x_isL_int, x_isL_ref, x_isL_junk, x_isR_ref, x_cat_nil, x_cat_int, x_cat_ref, x_cat_long, Option.toList_some, Option.toList_none, List.cons_append, List.nil_append, Nat.reduceAdd, Nat.reduceLeDiff, Nat.reduceLT, t_tag_si, t_tag_sr, t_tag_sI, x_r_si, x_i_sr, t_r_sI, x_ia_si, x_ia_sI, x_ia_sr, x_ra_si, x_ra_sI, x_ra_sr, S10, bI_0, hin, and_self, not_true, if_false, g_t0 h.sh, g_r0_0 h.sh, g_r0_1 h.sh, g_r0_4 h.sh, g_r0_5 h.sh, g_r0_6 h.sh, g_r0_7 h.sh, g_t22 h.sh, h56, g_t0 hsW, g_r0_0 hsW, g_r0_1 hsW, g_r0_4 hsW, g_r0_5 hsW, g_r0_6 hsW, g_r0_7 hsW, g_t22 hsW, h57]
theorem S20_3 (h : CX w S kd td mo kt) : X_R L xs (d + 5) 20 0 [.ref 0, .int (nI 3)] [] w Q = Q (some (.int (nI (sumT (XD w (XL S kd td mo kt) 12) 20)))) (WXs w (XL S kd td mo kt)) := by
  have h56 := fun (Q' : Option Value → x_W → Prop) => S56' (L := L) (xs := xs) (d := d + 1) (Q := Q') h
  have hsW : Sh (WXs w (XL S kd td mo kt)) := h.sh
  have hdW : Sd (WXs w (XL S kd td mo kt)) := h.sd
  have h95 := fun (Q' : Option Value → x_W → Prop) => S95 (L := L) (xs := xs) (d := d + 4) (Q := Q') (w := WXs w (XL S kd td mo kt)) (p := XD w (XL S kd td mo kt) 12) hsW hdW (fun k hk => WX_26 _ _ _ _ hk)
  have hin : nI 0 ≤ nI 3 ∧ nI 3 ≤ nI 3 := by decide
  have h3 : (nI 3).toInt < 0 ∨ 2 < (nI 3).toInt := by decide
  simp only [X20_0, X20_1, X20_2, X20_3, X20_6, X20_12, X20_13, X20_16, X20_19, X20_20_0, X20_20_1, X20_20_2, X20_20_d, X20_80, X20_81, X20_84, X20_87, Nat.zero_le, and_true, true_and, x_nb0, x_nb1, x_nbp, x_isL_int, x_isL_ref, x_isL_junk, x_isR_ref, x_cat_nil, x_cat_int, x_cat_ref, x_cat_long, Option.toList_some, Option.toList_none, List.cons_append, List.nil_append, Nat.reduceAdd, Nat.reduceLeDiff, Nat.reduceLT, t_tag_si, t_tag_sr, t_tag_sI, x_r_si, x_i_sr, t_r_sI, x_ia_si, x_ia_sI, x_ia_sr, x_ra_si, x_ra_sI, x_ra_sr, S10, bI_0, hin, h3, and_self, not_true, if_false, g_t0 h.sh, g_r0_0 h.sh, g_r0_1 h.sh, g_r0_4 h.sh, g_r0_5 h.sh, g_r0_6 h.sh, g_r0_7 h.sh, g_t22 h.sh, h56, g_t0 hsW, g_r0_0 hsW, g_r0_1 hsW, g_r0_4 hsW, g_r0_5 hsW, g_r0_6 hsW, g_r0_7 hsW, g_t23 hsW, h95]
end S62
