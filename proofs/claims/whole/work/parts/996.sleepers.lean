/-! ===== the calls sleeper, lie, told, asks, hang ===== -/
abbrev SlT : Type := Nat × (Nat → Nat) × (Nat → Nat) × (Nat → Nat) × (Nat → Nat)
def CXs (w : x_W) (q : SlT) : Prop := CX w q.1 q.2.1 q.2.2.1 q.2.2.2.1 q.2.2.2.2
def CMs (w : x_W) (q : SlT) : Prop := CM w q.1 q.2.1 q.2.2.1 q.2.2.2.1 q.2.2.2.2
def slV (k t n : Int32) : Prop := (nI 0 ≤ k ∧ k ≤ nI 5) ∧ (nI 10 ≤ t ∧ t ≤ nI 309) ∧ (nI 0 ≤ n ∧ n ≤ nI 19)
def slV_dec (k t n : Int32) : Decidable (slV k t n) := inferInstanceAs (Decidable (_ ∧ _ ∧ _))
def slB (k t n : Int32) : Bool := @decide (slV k t n) (slV_dec k t n)
theorem slB_t {k t n : Int32} : slB k t n = true ↔ slV k t n := by
  unfold slB
  exact @decide_eq_true_iff _ (slV_dec k t n)
def inS (k t n : Int32) (q : SlT) : SlT := if slB k t n = true ∧ q.1 < 6 then (q.1 + 1, updN q.2.1 q.1 k.toNatClampNeg, updN q.2.2.1 q.1 (t.toNatClampNeg / 10), updN q.2.2.2.1 q.1 (t.toNatClampNeg % 10), updN q.2.2.2.2 q.1 n.toNatClampNeg) else q
def inA (k t n : Int32) (q : SlT) : Int32 := if slB k t n = true then (if q.1 < 6 then nI q.1 else -4) else -2
theorem d309 : ∀ t, t < 310 → nI t / nI 10 = nI (t / 10) ∧ nI t - nI (t / 10) * nI 10 = nI (t % 10) := by decide +kernel
def pSX : Nat → Nat → Bool := gp [30, 35, 36, 37, 38, 39, 40] [(22, 4)]
def pSM : Nat → Nat → Bool := gp [43, 44, 45, 46] [(41, 2)]
theorem pSX_35 : ∀ s, s < 6 → ∀ k, pSX (35 + s) k = true := six ⟨fun _ => rfl, fun _ => rfl, fun _ => rfl, fun _ => rfl, fun _ => rfl, fun _ => rfl⟩
section S996
variable {L : Nat} {xs : Nat → Int32} {d : Nat} {w w' : x_W} {S nt r : Nat} {kd td mo kt : Nat → Nat} {tls : Nat → Nat → Nat} {tks : Nat → Nat → Nat → Nat} {so : Nat → Int32} {sz : Nat → Nat}
theorem S106 {a j t m : Nat} (hta : x_tag w a = some (0, 5)) (k5 : j ≤ 5) (t30 : t ≤ 30) (m9 : m ≤ 9) {Q : Option Value → x_W → Prop} : X_R L xs (d + 4) 106 0 [.ref a, .int (nI j), .int (nI t), .int (nI m)] [] w Q = Q none (x_sI w a (upd (upd (upd (upd (upd (x_i w a) 0 (nI j)) 1 (nI t)) 2 (nI m)) 3 (nI (wgN j t m))) 4 (nI (waN j m)))) := by
  have e1 : x_si w a 0 (nI j) = x_sI w a (upd (x_i w a) 0 (nI j)) := rfl
  have e107 := fun (Q' : Option Value → x_W → Prop) => S107 (L := L) (xs := xs) (d := d + 1) (Q := Q') (w := x_sI w a (upd (upd (upd (x_i w a) 0 (nI j)) 1 (nI t)) 2 (nI m))) (a := a) (k := j) (t := t) (m := m) hta (by rw [x_i_sI]; rfl) (by rw [x_i_sI]; rfl) (by rw [x_i_sI]; rfl) k5 t30 m9
  have e109 := fun (Q' : Option Value → x_W → Prop) => S109 (L := L) (xs := xs) (d := d + 1) (Q := Q') (w := x_sI w a (upd (upd (upd (upd (x_i w a) 0 (nI j)) 1 (nI t)) 2 (nI m)) 3 (nI (wgN j t m)))) (a := a) (k := j) (m := m) hta (by rw [x_i_sI]; rfl) (by rw [x_i_sI]; rfl) k5 m9
  simp only [X106_0, X106_1, X106_2, X106_5, X106_6, X106_7, X106_10, X106_11, X106_12, X106_15, X106_16, X106_17, X106_20, X106_23, X106_24, X106_25, X106_28, X106_31, Nat.zero_le, and_true, true_and, x_nb0, x_nb1, x_nbp, x_isL_int, x_isL_ref, x_isL_junk, x_isR_ref, x_cat_nil, x_cat_int, x_cat_ref, x_cat_long, Option.toList_some, Option.toList_none, List.cons_append, List.nil_append, Nat.reduceAdd, Nat.reduceLeDiff, Nat.reduceLT, t_tag_si, t_tag_sr, t_tag_sI, x_r_si, x_i_sr, t_r_sI, x_ia_si, x_ia_sI, x_ia_sr, x_ra_si, x_ra_sI, x_ra_sr, hta, e1, x_si_sI, e107, e109]
theorem S54 (h : CX w S kd td mo kt) (hS : S < 6) {j t m n : Nat} (k5 : j ≤ 5) (t30 : t ≤ 30) (m9 : m ≤ 9) (n20 : n < 20) : ∃ w', CX w' (S + 1) (updN kd S j) (updN td S t) (updN mo S m) (updN kt S n) ∧ Ch pSX w w' ∧ ∀ Q, X_R L xs (d + 5) 54 0 [.ref 22, .int (nI j), .int (nI t), .int (nI m), .int (nI n)] [] w Q = Q (some (.int (nI S))) w' := by
  have hs := h.sh
  have sx := x_ix_nI hS (show 6 < 2 ^ 31 by decide)
  have sc' := nI_cl (show S < 2 ^ 31 by omega)
  obtain ⟨a1, a2⟩ := g_all hs S hS
  have e106 := fun (Q' : Option Value → x_W → Prop) => S106 (L := L) (xs := xs) (d := d) (Q := Q') a2 k5 t30 m9
  generalize hg : upd (upd (upd (upd (upd (x_i w (35 + S)) 0 (nI j)) 1 (nI t)) 2 (nI m)) 3 (nI (wgN j t m))) 4 (nI (waN j m)) = g at *
  have g0 : g 0 = nI j ∧ g 1 = nI t ∧ g 2 = nI m ∧ g 3 = nI (wgN j t m) ∧ g 4 = nI (waN j m) := by rw [← hg]; exact ⟨rfl, rfl, rfl, rfl, rfl⟩
  have c1 : Ch pSX w (x_sI w (35 + S) g) := Ch_sI (pSX_35 S hS)
  have c2 : Ch pSX (x_sI w (35 + S) g) (x_si (x_sI w (35 + S) g) 30 S (nI n)) := Ch_si rfl
  have c3 : Ch pSX (x_si (x_sI w (35 + S) g) 30 S (nI n)) (x_si (x_si (x_sI w (35 + S) g) 30 S (nI n)) 22 4 (nI (S + 1))) := Ch_si rfl
  have cc := c1.trans (c2.trans c3)
  have hs1 := c1.sh hs
  have hs2 := (c1.trans c2).sh hs
  have hs3 := cc.sh hs
  have f22 : x_i (x_si (x_si (x_sI w (35 + S) g) 30 S (nI n)) 22 4 (nI (S + 1))) 22 4 = nI (S + 1) := by rw [x_i_si, upd_s]
  have e22 : x_i (x_sI w (35 + S) g) 22 4 = nI S := by rw [x_i_sIn _ _ _ (by omega)]; exact h.hS
  have e22' : x_i (x_si (x_sI w (35 + S) g) 30 S (nI n)) 22 4 = nI S := by rw [x_i_sin _ _ _ _ (by decide)]; exact e22
  refine ⟨_, ⟨hs3, cc.sd h.sd, f22, by omega, ⟨fun s hs' => ?_, fun s hs' => ?_⟩, fun s hs' => ?_, ?_⟩, cc, fun Q => ?_⟩
  · rw [x_i_sin _ _ _ _ (show 35 + s ≠ 22 by omega), x_i_sin _ _ _ _ (show 35 + s ≠ 30 by omega), x_i_sin _ _ _ _ (show 30 ≠ 22 by decide), x_i_si]
    by_cases hsS : s = S
    · subst hsS
      rw [x_i_sI, updN_s, updN_s, updN_s, updN_s, upd_s]
      exact ⟨g0.1, g0.2.1, g0.2.2.1, rfl⟩
    · rw [x_i_sIn _ _ _ (show 35 + s ≠ 35 + S by omega), updN_o hsS, updN_o hsS, updN_o hsS, updN_o hsS, upd_o hsS, x_i_sIn _ _ _ (show 30 ≠ 35 + S by omega)]
      exact h.X.1 s hs'
  · rw [x_i_sin _ _ _ _ (show 35 + s ≠ 22 by omega), x_i_sin _ _ _ _ (show 35 + s ≠ 30 by omega)]
    unfold wgF
    by_cases hsS : s = S
    · subst hsS
      rw [x_i_sI, updN_s, updN_s, updN_s]
      exact ⟨g0.2.2.2.1, g0.2.2.2.2⟩
    · rw [x_i_sIn _ _ _ (show 35 + s ≠ 35 + S by omega), updN_o hsS, updN_o hsS, updN_o hsS]
      exact h.X.2 s (by omega)
  · by_cases hsS : s = S
    · subst hsS
      rw [updN_s, updN_s, updN_s, updN_s]
      exact ⟨k5, t30, m9, n20⟩
    · rw [updN_o hsS, updN_o hsS, updN_o hsS, updN_o hsS]
      exact h.bd s hs'
  · rw [cc.i (fun _ => rfl : ∀ k, pSX 24 k = false)]
    exact h.nb
  · simp only [X54_0, X54_1, X54_4, X54_5, X54_8, X54_9, X54_10, X54_11, X54_12, X54_15, X54_16, X54_19, X54_20, X54_23, X54_25, X54_26, X54_27i, X54_27, X54_28, X54_31, X54_32, X54_33, X54_36, X54_37, X54_40, X54_41, X54_42, Nat.zero_le, and_true, true_and, x_nb0, x_nb1, x_nbp, x_isL_int, x_isL_ref, x_isL_junk, x_isR_ref, x_cat_nil, x_cat_int, x_cat_ref, x_cat_long, Option.toList_some, Option.toList_none, List.cons_append, List.nil_append, Nat.reduceAdd, Nat.reduceLeDiff, Nat.reduceLT, t_tag_si, t_tag_sr, t_tag_sI, x_r_si, x_i_sr, t_r_sI, x_ia_si, x_ia_sI, x_ia_sr, x_ra_si, x_ra_sI, x_ra_sr, g_t22 hs, g_r22_2 hs, g_a29 hs, h.hS, sx, sc', a1, a2, e106, g_t22 hs1, g_r22_3 hs1, g_a30 hs1, e22, g_t22 hs2, e22', nI_add, g_t22 hs3, f22, nI_s1]
theorem S15 (h : CX w S kd td mo kt) (k t n : Int32) : ∃ w', CXs w' (inS k t n (S, kd, td, mo, kt)) ∧ Ch pSX w w' ∧ ∀ Q, X_R L xs (d + 7) 15 0 [.ref 0, .int k, .int t, .int n] [] w Q = Q (some (.int (inA k t n (S, kd, td, mo, kt)))) w' := by
  have hs := h.sh
  by_cases hv : slB k t n = true
  · obtain ⟨h1, h2, h3⟩ := slB_t.mp hv
    have e1 := fun (w : x_W) (Q' : Option Value → x_W → Prop) => b10 (L := L) (xs := xs) (d := d + 6) (w := w) (Q := Q') h1
    have e2 := fun (w : x_W) (Q' : Option Value → x_W → Prop) => b10 (L := L) (xs := xs) (d := d + 6) (w := w) (Q := Q') h2
    have e3 : ∀ (w : x_W) (Q' : Option Value → x_W → Prop), X_R L xs (d + 6) 2 0 [.int n] [] w Q' = Q' (some (.int (nI 1))) w := fun w Q' => by rw [S2, bI_t h3]
    have h4 := h.hS
    by_cases hS : S < 6
    · obtain ⟨j, hj, rfl⟩ := in_of (n := 5) rfl h1
      obtain ⟨t, ht, rfl⟩ := in_of (n := 309) rfl ⟨Int32.le_trans (by decide) h2.1, h2.2⟩
      obtain ⟨n, hn, rfl⟩ := in_of (n := 19) rfl h3
      obtain ⟨d1, d2⟩ := d309 t (by omega)
      obtain ⟨w', hX, c, e54⟩ := S54 (L := L) (xs := xs) (d := d + 1) h hS hj (show t / 10 ≤ 30 by omega) (show t % 10 ≤ 9 by omega) (show n < 20 by omega)
      refine ⟨w', ?_, c, fun Q => ?_⟩
      · unfold CXs inS
        rw [if_pos ⟨hv, hS⟩, nI_cl (show j < 2 ^ 31 by omega), nI_cl (show t < 2 ^ 31 by omega), nI_cl (show n < 2 ^ 31 by omega)]
        exact hX
      · unfold inA
        rw [if_pos hv, if_pos hS]
        simp only [X15_0, X15_1, X15_2, X15_3, X15_6, X15_9, X15_10, X15_12, X15_15, X15_18, X15_21, X15_22, X15_25, X15_28, X15_30, X15_31, X15_32, X15_35, X15_38, X15_40, X15_43, X15_45, X15_46, X15_47, X15_50, X15_51, X15_52, X15_54, X15_55, X15_56, X15_58, X15_59, X15_60, X15_63, Nat.zero_le, and_true, true_and, x_nb0, x_nb1, x_nbp, x_isL_int, x_isL_ref, x_isL_junk, x_isR_ref, x_cat_nil, x_cat_int, x_cat_ref, x_cat_long, Option.toList_some, Option.toList_none, List.cons_append, List.nil_append, Nat.reduceAdd, Nat.reduceLeDiff, Nat.reduceLT, t_tag_si, t_tag_sr, t_tag_sI, x_r_si, x_i_sr, t_r_sI, x_ia_si, x_ia_sI, x_ia_sr, x_ra_si, x_ra_sI, x_ra_sr, e1, e2, e3, n10, if_false, g_t0 hs, g_r0_4 hs, g_t22 hs, h4, nI_ltT hS (show 6 < 2 ^ 31 by decide), if_true, ten0, not_false_eq_true, d1, d2, e54]
    · refine ⟨w, ?_, Ch.refl, fun Q => ?_⟩
      · unfold CXs inS
        rw [if_neg (fun q => hS q.2)]
        exact h
      · unfold inA
        rw [if_pos hv, if_neg hS]
        simp only [X15_0, X15_1, X15_2, X15_3, X15_6, X15_9, X15_10, X15_12, X15_15, X15_18, X15_21, X15_22, X15_25, X15_28, X15_30, X15_31, X15_32, X15_35, X15_38, X15_40, X15_43, X15_45, X15_46, X15_47, X15_50, X15_51, X15_52, X15_54, X15_55, X15_56, X15_58, X15_59, X15_60, X15_63, Nat.zero_le, and_true, true_and, x_nb0, x_nb1, x_nbp, x_isL_int, x_isL_ref, x_isL_junk, x_isR_ref, x_cat_nil, x_cat_int, x_cat_ref, x_cat_long, Option.toList_some, Option.toList_none, List.cons_append, List.nil_append, Nat.reduceAdd, Nat.reduceLeDiff, Nat.reduceLT, t_tag_si, t_tag_sr, t_tag_sI, x_r_si, x_i_sr, t_r_sI, x_ia_si, x_ia_sI, x_ia_sr, x_ra_si, x_ra_sI, x_ra_sr, e1, e2, e3, n10, if_false, g_t0 hs, g_r0_4 hs, g_t22 hs, h4, nI_ltF (Nat.not_lt.mp hS) (show S < 2 ^ 31 by have := h.S6; omega)]
  · refine ⟨w, ?_, Ch.refl, fun Q => ?_⟩
    · unfold CXs inS
      rw [if_neg (fun q => hv q.1)]
      exact h
    · unfold inA
      rw [if_neg hv]
      have hv' : ¬ slV k t n := fun q => hv (slB_t.mpr q)
      by_cases h1 : nI 0 ≤ k ∧ k ≤ nI 5
      · have e1 := fun (w : x_W) (Q' : Option Value → x_W → Prop) => b10 (L := L) (xs := xs) (d := d + 6) (w := w) (Q := Q') h1
        by_cases h2 : nI 10 ≤ t ∧ t ≤ nI 309
        · have e2 := fun (w : x_W) (Q' : Option Value → x_W → Prop) => b10 (L := L) (xs := xs) (d := d + 6) (w := w) (Q := Q') h2
          have h3 : ¬ (nI 0 ≤ n ∧ n ≤ nI 19) := fun q => hv' ⟨h1, h2, q⟩
          simp only [X15_0, X15_1, X15_2, X15_3, X15_6, X15_9, X15_10, X15_12, X15_15, X15_18, X15_21, X15_22, X15_25, X15_28, X15_30, Nat.zero_le, and_true, true_and, x_nb0, x_nb1, x_nbp, x_isL_int, x_isL_ref, x_isL_junk, x_isR_ref, x_cat_nil, x_cat_int, x_cat_ref, x_cat_long, Option.toList_some, Option.toList_none, List.cons_append, List.nil_append, Nat.reduceAdd, Nat.reduceLeDiff, Nat.reduceLT, t_tag_si, t_tag_sr, t_tag_sI, x_r_si, x_i_sr, t_r_sI, x_ia_si, x_ia_sI, x_ia_sr, x_ra_si, x_ra_sI, x_ra_sr, e1, e2, n10, if_false, S2, bI_f h3, if_true]
        · simp only [X15_0, X15_1, X15_2, X15_3, X15_6, X15_9, X15_10, X15_12, X15_15, X15_18, X15_28, X15_30, Nat.zero_le, and_true, true_and, x_nb0, x_nb1, x_nbp, x_isL_int, x_isL_ref, x_isL_junk, x_isR_ref, x_cat_nil, x_cat_int, x_cat_ref, x_cat_long, Option.toList_some, Option.toList_none, List.cons_append, List.nil_append, Nat.reduceAdd, Nat.reduceLeDiff, Nat.reduceLT, t_tag_si, t_tag_sr, t_tag_sI, x_r_si, x_i_sr, t_r_sI, x_ia_si, x_ia_sI, x_ia_sr, x_ra_si, x_ra_sI, x_ra_sr, e1, n10, if_false, f10 h2, if_true]
      · simp only [X15_0, X15_1, X15_2, X15_3, X15_6, X15_28, X15_30, Nat.zero_le, and_true, true_and, x_nb0, x_nb1, x_nbp, x_isL_int, x_isL_ref, x_isL_junk, x_isR_ref, x_cat_nil, x_cat_int, x_cat_ref, x_cat_long, Option.toList_some, Option.toList_none, List.cons_append, List.nil_append, Nat.reduceAdd, Nat.reduceLeDiff, Nat.reduceLT, t_tag_si, t_tag_sr, t_tag_sI, x_r_si, x_i_sr, t_r_sI, x_ia_si, x_ia_sI, x_ia_sr, x_ra_si, x_ra_sI, x_ra_sr, f10 h1, if_true]
theorem S167 (h : CM w S kd td mo kt) (k t n : Int32) : ∃ w', CMs w' (inS k t n (S, kd, td, mo, kt)) ∧ Ch pSM w w' ∧ ∀ Q, X_R L xs (d + 7) 167 0 [.ref 41, .int k, .int t, .int n] [] w Q = Q (some (.int (inA k t n (S, kd, td, mo, kt)))) w' := by
  have hs := h.sh
  by_cases hv : slB k t n = true
  · obtain ⟨h1, h2, h3⟩ := slB_t.mp hv
    have e1 := fun (w : x_W) (Q' : Option Value → x_W → Prop) => b138 (L := L) (xs := xs) (d := d + 6) (w := w) (Q := Q') h1
    have e2 := fun (w : x_W) (Q' : Option Value → x_W → Prop) => b138 (L := L) (xs := xs) (d := d + 6) (w := w) (Q := Q') h2
    have e3 : ∀ (w : x_W) (Q' : Option Value → x_W → Prop), X_R L xs (d + 6) 137 0 [.int n] [] w Q' = Q' (some (.int (nI 1))) w := fun w Q' => by rw [S137, bI_t h3]
    have h4 := h.hS
    by_cases hS : S < 6
    · obtain ⟨j, hj, rfl⟩ := in_of (n := 5) rfl h1
      obtain ⟨t, ht, rfl⟩ := in_of (n := 309) rfl ⟨Int32.le_trans (by decide) h2.1, h2.2⟩
      obtain ⟨n, hn, rfl⟩ := in_of (n := 19) rfl h3
      obtain ⟨d1, d2⟩ := d309 t (by omega)
      have sx := x_ix_nI hS (show 6 < 2 ^ 31 by decide)
      have sc' := nI_cl (show S < 2 ^ 31 by omega)
      have c1 : Ch pSM w (x_si w 43 S (nI j)) := Ch_si rfl
      have c2 : Ch pSM (x_si w 43 S (nI j)) (x_si (x_si w 43 S (nI j)) 44 S (nI (t / 10))) := Ch_si rfl
      have c3 : Ch pSM (x_si (x_si w 43 S (nI j)) 44 S (nI (t / 10))) (x_si (x_si (x_si w 43 S (nI j)) 44 S (nI (t / 10))) 45 S (nI (t % 10))) := Ch_si rfl
      have c4 : Ch pSM (x_si (x_si (x_si w 43 S (nI j)) 44 S (nI (t / 10))) 45 S (nI (t % 10))) (x_si (x_si (x_si (x_si w 43 S (nI j)) 44 S (nI (t / 10))) 45 S (nI (t % 10))) 46 S (nI n)) := Ch_si rfl
      have c5 : Ch pSM (x_si (x_si (x_si (x_si w 43 S (nI j)) 44 S (nI (t / 10))) 45 S (nI (t % 10))) 46 S (nI n)) (x_si (x_si (x_si (x_si (x_si w 43 S (nI j)) 44 S (nI (t / 10))) 45 S (nI (t % 10))) 46 S (nI n)) 41 2 (nI (S + 1))) := Ch_si rfl
      have hs1 := c1.sh hs
      have hs2 := c2.sh hs1
      have hs3 := c3.sh hs2
      have hs4 := c4.sh hs3
      have hs5 := c5.sh hs4
      have cc := c1.trans (c2.trans (c3.trans (c4.trans c5)))
      have f1 : x_i (x_si w 43 S (nI j)) 41 2 = nI S := by rw [x_i_sin _ _ _ _ (by decide)]; exact h4
      have f2 : x_i (x_si (x_si w 43 S (nI j)) 44 S (nI (t / 10))) 41 2 = nI S := by rw [x_i_sin _ _ _ _ (by decide)]; exact f1
      have f3 : x_i (x_si (x_si (x_si w 43 S (nI j)) 44 S (nI (t / 10))) 45 S (nI (t % 10))) 41 2 = nI S := by rw [x_i_sin _ _ _ _ (by decide)]; exact f2
      have f4 : x_i (x_si (x_si (x_si (x_si w 43 S (nI j)) 44 S (nI (t / 10))) 45 S (nI (t % 10))) 46 S (nI n)) 41 2 = nI S := by rw [x_i_sin _ _ _ _ (by decide)]; exact f3
      have f5 : x_i (x_si (x_si (x_si (x_si (x_si w 43 S (nI j)) 44 S (nI (t / 10))) 45 S (nI (t % 10))) 46 S (nI n)) 41 2 (nI (S + 1))) 41 2 = nI (S + 1) := by rw [x_i_si, upd_s]
      refine ⟨_, ?_, cc, fun Q => ?_⟩
      · unfold CMs inS
        rw [if_pos ⟨hv, hS⟩, nI_cl (show j < 2 ^ 31 by omega), nI_cl (show t < 2 ^ 31 by omega), nI_cl (show n < 2 ^ 31 by omega)]
        refine ⟨hs5, f5, by show S + 1 ≤ 6; omega, fun s hs' => ?_⟩
        have h1 := h.M s hs'
        dsimp only
        rw [x_i_sin _ _ _ _ (show 43 ≠ 41 by decide), x_i_sin _ _ _ _ (show 44 ≠ 41 by decide), x_i_sin _ _ _ _ (show 45 ≠ 41 by decide), x_i_sin _ _ _ _ (show 46 ≠ 41 by decide), x_i_sin _ _ _ _ (show 43 ≠ 46 by decide), x_i_sin _ _ _ _ (show 44 ≠ 46 by decide), x_i_sin _ _ _ _ (show 45 ≠ 46 by decide), x_i_sin _ _ _ _ (show 43 ≠ 45 by decide), x_i_sin _ _ _ _ (show 44 ≠ 45 by decide), x_i_sin _ _ _ _ (show 43 ≠ 44 by decide), x_i_si, x_i_si, x_i_si, x_i_si, x_i_sin _ _ _ _ (show 44 ≠ 43 by decide), x_i_sin _ _ _ _ (show 45 ≠ 44 by decide), x_i_sin _ _ _ _ (show 45 ≠ 43 by decide), x_i_sin _ _ _ _ (show 46 ≠ 45 by decide), x_i_sin _ _ _ _ (show 46 ≠ 44 by decide), x_i_sin _ _ _ _ (show 46 ≠ 43 by decide)]
        by_cases hsS : s = S
        · subst hsS
          rw [upd_s, upd_s, upd_s, upd_s, updN_s, updN_s, updN_s, updN_s]
          exact ⟨⟨rfl, hj⟩, ⟨rfl, by omega⟩, ⟨rfl, by omega⟩, ⟨rfl, by omega⟩⟩
        · rw [upd_o hsS, upd_o hsS, upd_o hsS, upd_o hsS, updN_o hsS, updN_o hsS, updN_o hsS, updN_o hsS]
          exact h1
      · unfold inA
        rw [if_pos hv, if_pos hS]
        simp only [X167_0, X167_1, X167_2, X167_3, X167_6, X167_9, X167_10, X167_12, X167_15, X167_18, X167_21, X167_22, X167_25, X167_28, X167_30, X167_31, X167_32, X167_35, X167_37, X167_40, X167_42, X167_43, X167_44, X167_47, X167_48, X167_51, X167_52, X167_53, X167_54, X167_57, X167_58, X167_61, X167_62, X167_64, X167_65, X167_66, X167_67, X167_70, X167_71, X167_74, X167_75, X167_77, X167_78, X167_79, X167_80, X167_83, X167_84, X167_87, X167_88, X167_89, X167_90i, X167_90, X167_91, X167_94, X167_95, X167_96, X167_99, X167_100, X167_103, X167_104, X167_105, Nat.zero_le, and_true, true_and, x_nb0, x_nb1, x_nbp, x_isL_int, x_isL_ref, x_isL_junk, x_isR_ref, x_cat_nil, x_cat_int, x_cat_ref, x_cat_long, Option.toList_some, Option.toList_none, List.cons_append, List.nil_append, Nat.reduceAdd, Nat.reduceLeDiff, Nat.reduceLT, t_tag_si, t_tag_sr, t_tag_sI, x_r_si, x_i_sr, t_r_sI, x_ia_si, x_ia_sI, x_ia_sr, x_ra_si, x_ra_sI, x_ra_sr, e1, e2, e3, n10, if_false, g_t41 hs, h4, nI_eqF (show S ≠ 6 by omega) (show S < 2 ^ 31 by omega) (show 6 < 2 ^ 31 by decide), g_r41_3 hs, g_a43 hs, sx, sc', g_t41 hs1, g_r41_4 hs1, g_a44 hs1, g_r41_4 hs, g_a44 hs, f1, ten0, not_false_eq_true, d1, d2, g_t41 hs2, g_r41_5 hs2, g_a45 hs2, g_r41_5 hs, g_a45 hs, f2, g_t41 hs3, g_r41_6 hs3, g_a46 hs3, g_r41_6 hs, g_a46 hs, f3, g_t41 hs4, f4, nI_add, g_t41 hs5, f5, nI_s1]
    · have hS6 : S = 6 := by have := h.S6; omega
      refine ⟨w, ?_, Ch.refl, fun Q => ?_⟩
      · unfold CMs inS
        rw [if_neg (fun q => hS q.2)]
        exact h
      · unfold inA
        rw [if_pos hv, if_neg hS]
        simp only [X167_0, X167_1, X167_2, X167_3, X167_6, X167_9, X167_10, X167_12, X167_15, X167_18, X167_21, X167_22, X167_25, X167_31, X167_32, X167_35, X167_37, X167_40, X167_42, Nat.zero_le, and_true, true_and, x_nb0, x_nb1, x_nbp, x_isL_int, x_isL_ref, x_isL_junk, x_isR_ref, x_cat_nil, x_cat_int, x_cat_ref, x_cat_long, Option.toList_some, Option.toList_none, List.cons_append, List.nil_append, Nat.reduceAdd, Nat.reduceLeDiff, Nat.reduceLT, t_tag_si, t_tag_sr, t_tag_sI, x_r_si, x_i_sr, t_r_sI, x_ia_si, x_ia_sI, x_ia_sr, x_ra_si, x_ra_sI, x_ra_sr, e1, e2, e3, n10, if_false, g_t41 hs, h4, hS6, if_true]
  · refine ⟨w, ?_, Ch.refl, fun Q => ?_⟩
    · unfold CMs inS
      rw [if_neg (fun q => hv q.1)]
      exact h
    · unfold inA
      rw [if_neg hv]
      have hv' : ¬ slV k t n := fun q => hv (slB_t.mpr q)
      by_cases h1 : nI 0 ≤ k ∧ k ≤ nI 5
      · have e1 := fun (w : x_W) (Q' : Option Value → x_W → Prop) => b138 (L := L) (xs := xs) (d := d + 6) (w := w) (Q := Q') h1
        by_cases h2 : nI 10 ≤ t ∧ t ≤ nI 309
        · have e2 := fun (w : x_W) (Q' : Option Value → x_W → Prop) => b138 (L := L) (xs := xs) (d := d + 6) (w := w) (Q := Q') h2
          have h3 : ¬ (nI 0 ≤ n ∧ n ≤ nI 19) := fun q => hv' ⟨h1, h2, q⟩
          simp only [X167_0, X167_1, X167_2, X167_3, X167_6, X167_9, X167_10, X167_12, X167_15, X167_18, X167_21, X167_22, X167_25, X167_28, X167_30, Nat.zero_le, and_true, true_and, x_nb0, x_nb1, x_nbp, x_isL_int, x_isL_ref, x_isL_junk, x_isR_ref, x_cat_nil, x_cat_int, x_cat_ref, x_cat_long, Option.toList_some, Option.toList_none, List.cons_append, List.nil_append, Nat.reduceAdd, Nat.reduceLeDiff, Nat.reduceLT, t_tag_si, t_tag_sr, t_tag_sI, x_r_si, x_i_sr, t_r_sI, x_ia_si, x_ia_sI, x_ia_sr, x_ra_si, x_ra_sI, x_ra_sr, e1, e2, n10, if_false, S137, bI_f h3, if_true]
        · simp only [X167_0, X167_1, X167_2, X167_3, X167_6, X167_9, X167_10, X167_12, X167_15, X167_18, X167_28, X167_30, Nat.zero_le, and_true, true_and, x_nb0, x_nb1, x_nbp, x_isL_int, x_isL_ref, x_isL_junk, x_isR_ref, x_cat_nil, x_cat_int, x_cat_ref, x_cat_long, Option.toList_some, Option.toList_none, List.cons_append, List.nil_append, Nat.reduceAdd, Nat.reduceLeDiff, Nat.reduceLT, t_tag_si, t_tag_sr, t_tag_sI, x_r_si, x_i_sr, t_r_sI, x_ia_si, x_ia_sI, x_ia_sr, x_ra_si, x_ra_sI, x_ra_sr, e1, n10, if_false, f138 h2, if_true]
      · simp only [X167_0, X167_1, X167_2, X167_3, X167_6, X167_28, X167_30, Nat.zero_le, and_true, true_and, x_nb0, x_nb1, x_nbp, x_isL_int, x_isL_ref, x_isL_junk, x_isR_ref, x_cat_nil, x_cat_int, x_cat_ref, x_cat_long, Option.toList_some, Option.toList_none, List.cons_append, List.nil_append, Nat.reduceAdd, Nat.reduceLeDiff, Nat.reduceLT, t_tag_si, t_tag_sr, t_tag_sI, x_r_si, x_i_sr, t_r_sI, x_ia_si, x_ia_sI, x_ia_sr, x_ra_si, x_ra_sI, x_ra_sr, f138 h1, if_true]
end S996
