/-! ===== odds once more: the answer is a long ===== -/
def AQl (L : Nat) (xs : Nat → Int32) (d mx mm : Nat) (ax am : List Value) (w : x_W) : Prop := ∃ (x : Int64) (w1 w' : x_W), ChA w w' ∧ FarOk w' ∧ (∀ Q, X_R L xs d mx 0 ax [] w Q = Q (some (.long x)) w1) ∧ ∀ Q, X_R L xs d mm 0 am [] w1 Q = Q (some (.long x)) w'
section S99999385
variable {L : Nat} {xs : Nat → Int32} {d : Nat} {w w' : x_W} {S : Nat} {kd td mo kt tl : Nat → Nat} {tk : Nat → Nat → Nat}
theorem AQl_no {mx mm : Nat} {ax am : List Value} {x : Int64} (hF : FarOk w) (h1 : ∀ Q, X_R L xs d mx 0 ax [] w Q = Q (some (.long x)) w) (h2 : ∀ Q, X_R L xs d mm 0 am [] w Q = Q (some (.long x)) w) : AQl L xs d mx mm ax am w := ⟨x, w, w, Ch.refl, hF, h1, h2⟩
theorem AQl_odds (h : AG w S kd td mo kt tl tk) (u v p : Int32) : AQl L xs (d + 12) 43 222 [.ref 0, .int u, .int v, .int p, x_junk, x_junk, x_junk] [.ref 41, .int u, .int v, .int p, x_junk, x_junk, x_junk, x_junk] w := by
  have hs := h.1.sh
  have h6 := h.1.1.S6
  have h01 : bI (nI 0 ≤ p ∧ p ≤ nI 1) = bI (p = nI 0 ∨ p = nI 1) := bI_c (by rw [in01])
  by_cases h1 : nI 0 ≤ u ∧ u ≤ nI 99999
  · have e10 : ∀ (w : x_W) (Q' : Option Value → x_W → Prop), X_R L xs (d + 11) 10 0 [.int u, .int (nI 0), .int (nI 99999)] [] w Q' = Q' (some (.int (nI 1))) w := fun w Q' => by rw [S10, bI_t h1]
    have e138' : ∀ (w : x_W) (Q' : Option Value → x_W → Prop), X_R L xs (d + 11) 138 0 [.int u, .int (nI 0), .int (nI 99999)] [] w Q' = Q' (some (.int (nI 1))) w := fun w Q' => by rw [S138, bI_t h1]
    by_cases h3 : nI 1 ≤ v ∧ v ≤ nI 30
    · have f10 : ∀ (w : x_W) (Q' : Option Value → x_W → Prop), X_R L xs (d + 11) 10 0 [.int v, .int (nI 1), .int (nI 30)] [] w Q' = Q' (some (.int (nI 1))) w := fun w Q' => by rw [S10, bI_t h3]
      have f138 : ∀ (w : x_W) (Q' : Option Value → x_W → Prop), X_R L xs (d + 11) 138 0 [.int v, .int (nI 1), .int (nI 30)] [] w Q' = Q' (some (.int (nI 1))) w := fun w Q' => by rw [S138, bI_t h3]
      by_cases h2 : p = nI 0 ∨ p = nI 1
      · have e4 := fun (w : x_W) (Q' : Option Value → x_W → Prop) => b4_t (L := L) (xs := xs) (d := d + 11) (w := w) (Q := Q') h2
        have e138 := fun (w : x_W) (Q' : Option Value → x_W → Prop) => b138_t (L := L) (xs := xs) (d := d + 11) (w := w) (Q := Q') h2
        obtain ⟨N, hN30, rfl⟩ : ∃ N, N ≤ 30 ∧ v = nI N := nI_of2 (n := 30) (M := nI 30) rfl (by
          intro q
          have := Int32.lt_of_lt_of_le q (show (0 : Int32) ≤ nI 1 by decide)
          exact Int32.lt_irrefl (Int32.lt_of_lt_of_le this h3.1)) h3.2
        have hN0 : N ≠ 0 := fun q => by subst q; exact absurd h3.1 (by decide)
        obtain ⟨T, w1, c1, hF1, hT1, e67, hM⟩ := noteXM (L := L) (xs := xs) (d := d + 5) h
        have hX1 := h.1.1.ch (c1.a rfl)
        obtain ⟨w3, c3, hT3, e195⟩ := hM w1 (c1.a rfl)
        have hM1 := h.2.1.1.ch (c1.a rfl)
        have hM3 := hM1.ch (c3.ma rfl)
        have hs1 := hX1.sh
        obtain ⟨u6, l1⟩ := S43l (L := L) (xs := xs) (d := d) hX1 hT1 u p (show N < 31 by omega) N 0 (by omega) x_junk rfl
        obtain ⟨u7, l2⟩ := S222l (L := L) (xs := xs) (d := d) hM3 hT3 u p (show N < 31 by omega) N 0 (by omega) x_junk rfl
        have hcN := calmN_le (f := fun t => anyM T t S) (v := u) (S := S) N
        generalize calmN (fun t => anyM T t S) u S N = c at l1 l2 hcN
        have hdp := dvS_pos (c := c) (n := N) N (by omega)
        have hdl := dvS_le (c := c) (n := N) N
        obtain ⟨_, q1⟩ := i30' (show c < 31 by omega) (show dvS c N N < 31 by omega) (by omega)
        obtain ⟨_, q2⟩ := i30' (show N < 31 by omega) (show dvS c N N < 31 by omega) (by omega)
        have hdn : ¬ nI (dvS c N N) = nI 0 := fun z => by have := (nI_eq (show dvS c N N < 2 ^ 31 by omega) (by decide)).mp z; omega
        have hc1 := Nat.div_le_self c (dvS c N N)
        have hc2 := Nat.div_le_self N (dvS c N N)
        refine ⟨(if p = nI 0 then lN (c / dvS c N N) else lN (N / dvS c N N)), w1, w3, (c1.a rfl).trans (c3.ma rfl), hF1.m c3 rfl rfl rfl, fun Q => ?_, fun Q => ?_⟩
        · have e0 : X_R L xs (d + 12) 43 0 [.ref 0, .int u, .int (nI N), .int p, x_junk, x_junk, x_junk] [] w Q = X_R L xs (d + 12) 43 44 [.ref 0, .int u, .int (nI N), .int p, .int (nI 0), .int (nI 0), x_junk] [] w1 Q := by
            simp only [X43_0, X43_1, X43_2, X43_4, X43_7, X43_10, X43_11, X43_12, X43_14, X43_17, X43_20, X43_21, X43_24, X43_31, X43_32, X43_35, X43_38, X43_39, X43_41, X43_42, Nat.zero_le, and_true, true_and, x_nb0, x_nb1, x_nbp, x_isL_int, x_isL_ref, x_isL_junk, x_isR_ref, x_cat_nil, x_cat_int, x_cat_ref, x_cat_long, Option.toList_some, Option.toList_none, List.cons_append, List.nil_append, Nat.reduceAdd, Nat.reduceLeDiff, Nat.reduceLT, t_tag_si, t_tag_sr, t_tag_sI, x_r_si, x_i_sr, t_r_sI, x_ia_si, x_ia_sI, x_ia_sr, x_ra_si, x_ra_sI, x_ra_sr, e10, f10, n10, if_false, e4, g_t0 hs, g_r0_4 hs, g_t22 hs, e67]
          rw [e0]
          refine (l1 Q).trans ?_
          have e2 := S43d (L := L) (xs := xs) (d := d) (w := w1) (a := u) (v3 := p) (show N < 31 by omega) (show c < 31 by omega) u6 (Q := Q) N (Nat.le_refl _) (by omega)
          simp only [X43_86, X43_87, Nat.zero_le, and_true, true_and, x_nb0, x_nb1, x_nbp, x_isL_int, x_isL_ref, x_isL_junk, x_isR_ref, x_cat_nil, x_cat_int, x_cat_ref, x_cat_long, Option.toList_some, Option.toList_none, List.cons_append, List.nil_append, Nat.reduceAdd, Nat.reduceLeDiff, Nat.reduceLT, t_tag_si, t_tag_sr, t_tag_sI, x_r_si, x_i_sr, t_r_sI, x_ia_si, x_ia_sI, x_ia_sr, x_ra_si, x_ra_sI, x_ra_sr]
          refine e2.trans ?_
          by_cases hp : p = nI 0
          · simp only [X43_116, X43_117, X43_120, X43_122, X43_124, X43_125, X43_126, X43_134, Nat.zero_le, and_true, true_and, x_nb0, x_nb1, x_nbp, x_isL_int, x_isL_ref, x_isL_junk, x_isR_ref, x_cat_nil, x_cat_int, x_cat_ref, x_cat_long, Option.toList_some, Option.toList_none, List.cons_append, List.nil_append, Nat.reduceAdd, Nat.reduceLeDiff, Nat.reduceLT, t_tag_si, t_tag_sr, t_tag_sI, x_r_si, x_i_sr, t_r_sI, x_ia_si, x_ia_sI, x_ia_sr, x_ra_si, x_ra_sI, x_ra_sr, eq_true hp, if_true, hdn, not_false_eq_true, q1, lt31 (show c / dvS c N N < 31 by omega)]
          · simp only [X43_116, X43_117, X43_129, X43_130, X43_132, X43_133, X43_134, Nat.zero_le, and_true, true_and, x_nb0, x_nb1, x_nbp, x_isL_int, x_isL_ref, x_isL_junk, x_isR_ref, x_cat_nil, x_cat_int, x_cat_ref, x_cat_long, Option.toList_some, Option.toList_none, List.cons_append, List.nil_append, Nat.reduceAdd, Nat.reduceLeDiff, Nat.reduceLT, t_tag_si, t_tag_sr, t_tag_sI, x_r_si, x_i_sr, t_r_sI, x_ia_si, x_ia_sI, x_ia_sr, x_ra_si, x_ra_sI, x_ra_sr, eq_false hp, if_false, hdn, not_false_eq_true, q2, lt31 (show N / dvS c N N < 31 by omega)]
        · have e0 : X_R L xs (d + 12) 222 0 [.ref 41, .int u, .int (nI N), .int p, x_junk, x_junk, x_junk, x_junk] [] w1 Q = X_R L xs (d + 12) 222 44 [.ref 41, .int u, .int (nI N), .int p, .long (lN 0), x_junk, .int (nI 0), x_junk] [] w3 Q := by
            simp only [X222_0, X222_1, X222_2, X222_5, X222_8, X222_11, X222_12, X222_13, X222_15, X222_18, X222_21, X222_22, X222_23, X222_24, X222_27, X222_34, X222_35, X222_38, X222_39, X222_41, X222_42, Nat.zero_le, and_true, true_and, x_nb0, x_nb1, x_nbp, x_isL_int, x_isL_ref, x_isL_junk, x_isR_ref, x_cat_nil, x_cat_int, x_cat_ref, x_cat_long, Option.toList_some, Option.toList_none, List.cons_append, List.nil_append, Nat.reduceAdd, Nat.reduceLeDiff, Nat.reduceLT, t_tag_si, t_tag_sr, t_tag_sI, x_r_si, x_i_sr, t_r_sI, x_ia_si, x_ia_sI, x_ia_sr, x_ra_si, x_ra_sI, x_ra_sr, e138', f138, n10, if_false, e138, g_t41 hs1, e195]
            rfl
          rw [e0]
          refine (l2 Q).trans ?_
          have e223 := fun (Q' : Option Value → x_W → Prop) => S223 (L := L) (xs := xs) (d := d + 11) (w := w3) (show c < 31 by omega) (show N < 31 by omega) hN0 h2 (Q := Q')
          simp only [X222_90, X222_92, X222_93, X222_94, X222_95, X222_98, Nat.zero_le, and_true, true_and, x_nb0, x_nb1, x_nbp, x_isL_int, x_isL_ref, x_isL_junk, x_isR_ref, x_cat_nil, x_cat_int, x_cat_ref, x_cat_long, Option.toList_some, Option.toList_none, List.cons_append, List.nil_append, Nat.reduceAdd, Nat.reduceLeDiff, Nat.reduceLT, t_tag_si, t_tag_sr, t_tag_sI, x_r_si, x_i_sr, t_r_sI, x_ia_si, x_ia_sI, x_ia_sr, x_ra_si, x_ra_sI, x_ra_sr, lt31 (show N < 31 by omega), e223]
      · refine AQl_no (x := (-4611686018427387904)) h.1.2.2 (fun Q => ?_) (fun Q => ?_)
        · simp only [X43_0, X43_1, X43_2, X43_4, X43_7, X43_10, X43_11, X43_12, X43_14, X43_17, X43_20, X43_21, X43_24, X43_27, X43_30, Nat.zero_le, and_true, true_and, x_nb0, x_nb1, x_nbp, x_isL_int, x_isL_ref, x_isL_junk, x_isR_ref, x_cat_nil, x_cat_int, x_cat_ref, x_cat_long, Option.toList_some, Option.toList_none, List.cons_append, List.nil_append, Nat.reduceAdd, Nat.reduceLeDiff, Nat.reduceLT, t_tag_si, t_tag_sr, t_tag_sI, x_r_si, x_i_sr, t_r_sI, x_ia_si, x_ia_sI, x_ia_sr, x_ra_si, x_ra_sI, x_ra_sr, e10, f10, n10, if_false, S4, bI_f h2, if_true]
        · simp only [X222_0, X222_1, X222_2, X222_5, X222_8, X222_11, X222_12, X222_13, X222_15, X222_18, X222_21, X222_22, X222_23, X222_24, X222_27, X222_30, X222_33, Nat.zero_le, and_true, true_and, x_nb0, x_nb1, x_nbp, x_isL_int, x_isL_ref, x_isL_junk, x_isR_ref, x_cat_nil, x_cat_int, x_cat_ref, x_cat_long, Option.toList_some, Option.toList_none, List.cons_append, List.nil_append, Nat.reduceAdd, Nat.reduceLeDiff, Nat.reduceLT, t_tag_si, t_tag_sr, t_tag_sI, x_r_si, x_i_sr, t_r_sI, x_ia_si, x_ia_sI, x_ia_sr, x_ra_si, x_ra_sI, x_ra_sr, e138', f138, n10, if_false, S138, h01, bI_f h2, if_true]
    · refine AQl_no (x := (-4611686018427387904)) h.1.2.2 (fun Q => ?_) (fun Q => ?_)
      · simp only [X43_0, X43_1, X43_2, X43_4, X43_7, X43_10, X43_11, X43_12, X43_14, X43_17, X43_27, X43_30, Nat.zero_le, and_true, true_and, x_nb0, x_nb1, x_nbp, x_isL_int, x_isL_ref, x_isL_junk, x_isR_ref, x_cat_nil, x_cat_int, x_cat_ref, x_cat_long, Option.toList_some, Option.toList_none, List.cons_append, List.nil_append, Nat.reduceAdd, Nat.reduceLeDiff, Nat.reduceLT, t_tag_si, t_tag_sr, t_tag_sI, x_r_si, x_i_sr, t_r_sI, x_ia_si, x_ia_sI, x_ia_sr, x_ra_si, x_ra_sI, x_ra_sr, e10, n10, if_false, S10, bI_f h3, if_true]
      · simp only [X222_0, X222_1, X222_2, X222_5, X222_8, X222_11, X222_12, X222_13, X222_15, X222_18, X222_30, X222_33, Nat.zero_le, and_true, true_and, x_nb0, x_nb1, x_nbp, x_isL_int, x_isL_ref, x_isL_junk, x_isR_ref, x_cat_nil, x_cat_int, x_cat_ref, x_cat_long, Option.toList_some, Option.toList_none, List.cons_append, List.nil_append, Nat.reduceAdd, Nat.reduceLeDiff, Nat.reduceLT, t_tag_si, t_tag_sr, t_tag_sI, x_r_si, x_i_sr, t_r_sI, x_ia_si, x_ia_sI, x_ia_sr, x_ra_si, x_ra_sI, x_ra_sr, e138', n10, if_false, S138, bI_f h3, if_true]
  · refine AQl_no (x := (-4611686018427387904)) h.1.2.2 (fun Q => ?_) (fun Q => ?_)
    · simp only [X43_0, X43_1, X43_2, X43_4, X43_7, X43_27, X43_30, Nat.zero_le, and_true, true_and, x_nb0, x_nb1, x_nbp, x_isL_int, x_isL_ref, x_isL_junk, x_isR_ref, x_cat_nil, x_cat_int, x_cat_ref, x_cat_long, Option.toList_some, Option.toList_none, List.cons_append, List.nil_append, Nat.reduceAdd, Nat.reduceLeDiff, Nat.reduceLT, t_tag_si, t_tag_sr, t_tag_sI, x_r_si, x_i_sr, t_r_sI, x_ia_si, x_ia_sI, x_ia_sr, x_ra_si, x_ra_sI, x_ra_sr, S10, bI_f h1, if_true]
    · simp only [X222_0, X222_1, X222_2, X222_5, X222_8, X222_30, X222_33, Nat.zero_le, and_true, true_and, x_nb0, x_nb1, x_nbp, x_isL_int, x_isL_ref, x_isL_junk, x_isR_ref, x_cat_nil, x_cat_int, x_cat_ref, x_cat_long, Option.toList_some, Option.toList_none, List.cons_append, List.nil_append, Nat.reduceAdd, Nat.reduceLeDiff, Nat.reduceLT, t_tag_si, t_tag_sr, t_tag_sI, x_r_si, x_i_sr, t_r_sI, x_ia_si, x_ia_sI, x_ia_sr, x_ra_si, x_ra_sI, x_ra_sr, S138, bI_f h1, if_true]
end S99999385
