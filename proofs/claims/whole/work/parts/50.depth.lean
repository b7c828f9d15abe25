/-! ===== depths: settle(), deepest(), depth(), pull() ===== -/
def XSl (w : x_W) (S : Nat) (kd td mo kt : Nat → Nat) : Prop := (∀ s, s < 6 → x_i w (35 + s) 0 = nI (kd s) ∧ x_i w (35 + s) 1 = nI (td s) ∧ x_i w (35 + s) 2 = nI (mo s) ∧ x_i w 30 s = nI (kt s)) ∧ ∀ s, s < S → x_i w (35 + s) 3 = nI (wgF kd td mo s) ∧ x_i w (35 + s) 4 = nI (waN (kd s) (mo s))
def bestN (p : Nat → Nat) : Nat → Nat
  | 0 => 0
  | n + 1 => if p (bestN p n) < p (n + 1) then n + 1 else bestN p n
theorem bestN_le (p : Nat → Nat) (n : Nat) : bestN p n ≤ n := by
  induction n with
  | zero => exact Nat.le_refl _
  | succ n ih => unfold bestN; split <;> omega
theorem allB : ∀ S, S ≤ 6 → nI 1 <<< (nI S &&& 31) - nI 1 = nI (2 ^ S - 1) := by decide +kernel
theorem allBit : ∀ S, S ≤ 6 → ∀ s, s < 6 → decide (bv (nI (2 ^ S - 1)) (nI s) = nI 1) = decide (s < S) := by decide +kernel
theorem loadN_cg {f g : Nat → Bool} {kt wg : Nat → Nat} {n : Nat} (h : ∀ s, s < n → f s = g s) : ∀ k, loadN f kt wg n k = loadN g kt wg n k := by
  intro k
  induction n with
  | zero => rfl
  | succ n ih =>
    unfold loadN
    rw [ih (fun s hs => h s (by omega)), h n (by omega)]
section S50
variable {L : Nat} {xs : Nat → Int32} {d : Nat} {w : x_W} {Q : Option Value → x_W → Prop}
theorem S56 {S : Nat} {kd td mo kt : Nat → Nat} (hs : Sh w) (hd : Sd w) (hS : x_i w 22 4 = nI S) (hS6 : S ≤ 6) (hX : XSl w S kd td mo kt) (hb : ∀ s, s < 6 → kd s ≤ 5 ∧ td s ≤ 30 ∧ mo s ≤ 9 ∧ kt s < 20) (hc : Nb (x_i w 24)) :
    X_R L xs (d + 3) 56 0 [.ref 22, x_junk] [] w Q = Q none (WX w (loadN (fun _ => true) kt (wgF kd td mo) S) (dpN (cbN (x_i w 24)) (tbN (x_i w 23 1)) (loadN (fun _ => true) kt (wgF kd td mo) S) 12) (dpN (cbN (x_i w 24)) (tbN (x_i w 23 1)) (loadN (fun _ => true) kt (wgF kd td mo) S) 11)) := by
  generalize hLD : loadN (fun _ => true) kt (wgF kd td mo) S = LD
  have hwg : ∀ s, s < 6 → wgF kd td mo s ≤ 132 := fun s h => wgN_le (hb s h).2.1 (hb s h).2.2.1
  have hLD9 : ∀ k, LD k ≤ 9000 := fun k => by
    rw [← hLD]
    have := loadN_le (fun _ => true) kt (wgF kd td mo) 132 S k (fun s h => hwg s (by omega))
    omega
  let V := fun (f : Nat → Int32) => x_sI w 25 (x_fn 20 f (x_i w 25))
  have hsV : ∀ f, Sh (V f) := fun _ => hs
  have e25 : ∀ f, x_i (V f) 25 = x_fn 20 f (x_i w 25) := fun f => x_i_sI _ _ _
  have eo : ∀ f (b : Nat), b ≠ 25 → x_i (V f) b = x_i w b := fun f b h => x_i_sIn _ _ _ h
  have s25 : ∀ f (q : Nat) (v : Int32), q < 20 → x_si (V f) 25 q v = V (upd f q v) := by
    intro f q v hq
    unfold x_si
    rw [e25, x_fn_upd hq]
    show x_sI (x_sI w 25 _) 25 _ = x_sI w 25 _
    rw [x_sI_sI]
  have hlast : X_R L xs (d + 3) 56 53 [.ref 22, .int (nI S)] [] (V (fun k => nI (LD k))) Q = Q none (WX w LD (dpN (cbN (x_i w 24)) (tbN (x_i w 23 1)) LD 12) (dpN (cbN (x_i w 24)) (tbN (x_i w 23 1)) LD 11)) := by
    have h91 := fun (Q' : Option Value → x_W → Prop) => S91 (L := L) (xs := xs) (d := d) (Q := Q') (w := V (fun k => nI (LD k))) (l := LD) (hsV _) hd (fun k hk => ⟨by rw [e25, x_fn_in hk], hLD9 k⟩) (by rw [eo _ 24 (by decide)]; exact hc)
    rw [eo _ 24 (by decide), eo _ 23 (by decide), eo _ 26 (by decide), eo _ 27 (by decide)] at h91
    simp only [X56_53, X56_54, X56_57, X56_60, Nat.zero_le, and_true, true_and, x_nb0, x_nb1, x_nbp, x_isL_int, x_isL_ref, x_isL_junk, x_isR_ref, x_cat_nil, x_cat_int, x_cat_ref, x_cat_long, Option.toList_some, Option.toList_none, List.cons_append, List.nil_append, Nat.reduceAdd, Nat.reduceLeDiff, Nat.reduceLT, t_tag_si, t_tag_sr, t_tag_sI, x_r_si, x_i_sr, t_r_sI, x_ia_si, x_ia_sI, x_ia_sr, x_ra_si, x_ra_sI, x_ra_sr, g_t22 (hsV _), g_r22_0 (hsV _), g_t23 (hsV _), h91]
    rfl
  have loop : ∀ n j, j + n = S → X_R L xs (d + 3) 56 13 [.ref 22, .int (nI j)] [] (V (fun k => nI (loadN (fun _ => true) kt (wgF kd td mo) j k))) Q = Q none (WX w LD (dpN (cbN (x_i w 24)) (tbN (x_i w 23 1)) LD 12) (dpN (cbN (x_i w 24)) (tbN (x_i w 23 1)) LD 11)) := by
    intro n
    induction n with
    | zero =>
      intro j hj
      obtain rfl : j = S := by omega
      rw [hLD, ← hlast, X56_13]
      simp only [X56_14, X56_15, X56_18, Nat.zero_le, and_true, true_and, x_nb0, x_nb1, x_nbp, x_isL_int, x_isL_ref, x_isL_junk, x_isR_ref, x_cat_nil, x_cat_int, x_cat_ref, x_cat_long, Option.toList_some, Option.toList_none, List.cons_append, List.nil_append, Nat.reduceAdd, Nat.reduceLeDiff, Nat.reduceLT, t_tag_si, t_tag_sr, t_tag_sI, x_r_si, x_i_sr, t_r_sI, x_ia_si, x_ia_sI, x_ia_sr, x_ra_si, x_ra_sI, x_ra_sr, g_t22 (hsV _), eo _ 22 (by decide), hS, nI_leT (Nat.le_refl j) (show j < 2 ^ 31 by omega), if_true]
    | succ n ih =>
      intro j hj
      have e := ih (j + 1) (by omega)
      have hbj := hb j (by omega)
      have hjx := x_ix_nI (show j < 6 by omega) (show 6 < 2 ^ 31 by decide)
      have hjc := nI_cl (show j < 2 ^ 31 by omega)
      have hkx := x_ix_nI hbj.2.2.2 (show 20 < 2 ^ 31 by decide)
      have hkc := nI_cl (show kt j < 2 ^ 31 by omega)
      obtain ⟨ga, gt⟩ := g_all (hsV (fun k => nI (loadN (fun _ => true) kt (wgF kd td mo) j k))) j (by omega)
      have hst := loadN_s (fun _ => true) kt (wgF kd td mo) j (kt j) rfl
      simp only [if_true] at hst
      have h30 : x_i (V (fun k => nI (loadN (fun _ => true) kt (wgF kd td mo) j k))) 30 j = nI (kt j) := by rw [eo _ 30 (by decide)]; exact (hX.1 j (by omega)).2.2.2
      have h3 : x_i (V (fun k => nI (loadN (fun _ => true) kt (wgF kd td mo) j k))) (35 + j) 3 = nI (wgF kd td mo j) := by rw [eo _ (35 + j) (by omega)]; exact (hX.2 j (by omega)).1
      rw [X56_13]
      simp only [X56_14, X56_15, X56_18, X56_21, X56_22, X56_25, X56_28, X56_29, X56_32, X56_33, X56_34, X56_35, X56_36, X56_37, X56_40, X56_41, X56_42, X56_45, X56_46, X56_47, X56_50, Nat.zero_le, and_true, true_and, x_nb0, x_nb1, x_nbp, x_isL_int, x_isL_ref, x_isL_junk, x_isR_ref, x_cat_nil, x_cat_int, x_cat_ref, x_cat_long, Option.toList_some, Option.toList_none, List.cons_append, List.nil_append, Nat.reduceAdd, Nat.reduceLeDiff, Nat.reduceLT, t_tag_si, t_tag_sr, t_tag_sI, x_r_si, x_i_sr, t_r_sI, x_ia_si, x_ia_sI, x_ia_sr, x_ra_si, x_ra_sI, x_ra_sr, g_t22 (hsV _), g_r22_0 (hsV _), g_r22_2 (hsV _), g_r22_3 (hsV _), g_t23 (hsV _), g_r23_2 (hsV _), g_a25 (hsV _), g_a29 (hsV _), g_a30 (hsV _), eo _ 22 (by decide), hS, nI_leF (show j < S by omega) (show S < 2 ^ 31 by omega), if_false, hjx, hjc, h30, hkx, hkc, e25, x_fn_in hbj.2.2.2, ga, gt, h3, nI_add, s25 _ (kt j) _ hbj.2.2.2, hst]
      exact e
  have e := loop S 0 (Nat.zero_add _)
  have hfill := fun (Q' : Option Value → x_W → Prop) => S244 (L := L) (xs := xs) (d := d + 2) (Q := Q') (w := w) (a := 25) (n := 20) (v := nI 0) (g_t25 hs) (by decide) (by decide)
  simp only [X56_0, X56_1, X56_4, X56_7, X56_8, X56_11, X56_12, Nat.zero_le, and_true, true_and, x_nb0, x_nb1, x_nbp, x_isL_int, x_isL_ref, x_isL_junk, x_isR_ref, x_cat_nil, x_cat_int, x_cat_ref, x_cat_long, Option.toList_some, Option.toList_none, List.cons_append, List.nil_append, Nat.reduceAdd, Nat.reduceLeDiff, Nat.reduceLT, t_tag_si, t_tag_sr, t_tag_sI, x_r_si, x_i_sr, t_r_sI, x_ia_si, x_ia_sI, x_ia_sr, x_ra_si, x_ra_sI, x_ra_sr, g_t22 hs, g_r22_0 hs, g_t23 hs, g_r23_2 hs, hfill]
  exact e
theorem S174 {S : Nat} (hs : Sh w) (hS : x_i w 41 2 = nI S) (hS6 : S ≤ 6) : X_R L xs d 174 0 [.ref 41] [] w Q = Q (some (.int (nI (2 ^ S - 1)))) w := by
  simp only [X174_0, X174_1, X174_2, X174_5, X174_6, X174_7, X174_8, Nat.zero_le, and_true, true_and, x_nb0, x_nb1, x_nbp, x_isL_int, x_isL_ref, x_isL_junk, x_isR_ref, x_cat_nil, x_cat_int, x_cat_ref, x_cat_long, Option.toList_some, Option.toList_none, List.cons_append, List.nil_append, Nat.reduceAdd, Nat.reduceLeDiff, Nat.reduceLT, t_tag_si, t_tag_sr, t_tag_sI, x_r_si, x_i_sr, t_r_sI, x_ia_si, x_ia_sI, x_ia_sr, x_ra_si, x_ra_sI, x_ra_sr, g_t41 hs, hS, allB S hS6]
theorem S180 {p : Nat → Nat} (hs : Sh w) (hp : ∀ k, k < 20 → x_i w 61 k = nI (p k) ∧ p k ≤ 999) : X_R L xs d 180 0 [.ref 41, x_junk, x_junk] [] w Q = Q (some (.int (nI (bestN p 19)))) w := by
  have loop : ∀ n j, j + n = 19 → X_R L xs d 180 4 [.ref 41, .int (nI (bestN p j)), .int (nI (j + 1))] [] w Q = Q (some (.int (nI (bestN p 19)))) w := by
    intro n
    induction n with
    | zero =>
      intro j hj
      obtain rfl : j = 19 := by omega
      rw [X180_4]
      simp only [X180_5, X180_7, X180_37, X180_38, Nat.zero_le, and_true, true_and, x_nb0, x_nb1, x_nbp, x_isL_int, x_isL_ref, x_isL_junk, x_isR_ref, x_cat_nil, x_cat_int, x_cat_ref, x_cat_long, Option.toList_some, Option.toList_none, List.cons_append, List.nil_append, Nat.reduceAdd, Nat.reduceLeDiff, Nat.reduceLT, t_tag_si, t_tag_sr, t_tag_sI, x_r_si, x_i_sr, t_r_sI, x_ia_si, x_ia_sI, x_ia_sr, x_ra_si, x_ra_sI, x_ra_sr, nI_leT (show 20 ≤ 19 + 1 by decide) (by decide), if_true]
    | succ n ih =>
      intro j hj
      have e := ih (j + 1) (by omega)
      have hb := bestN_le p j
      have hjx := x_ix_nI (show j + 1 < 20 by omega) (show 20 < 2 ^ 31 by decide)
      have hjc := nI_cl (show j + 1 < 2 ^ 31 by omega)
      have hbx := x_ix_nI (show bestN p j < 20 by omega) (show 20 < 2 ^ 31 by decide)
      have hbc := nI_cl (show bestN p j < 2 ^ 31 by omega)
      have h1 := hp (j + 1) (by omega)
      have h2 := hp (bestN p j) (by omega)
      unfold bestN at e
      rw [X180_4]
      by_cases hlt : p (bestN p j) < p (j + 1)
      · rw [if_pos hlt] at e
        simp only [X180_5, X180_7, X180_10, X180_11, X180_14, X180_15, X180_16, X180_17, X180_20, X180_21, X180_22, X180_25, X180_26, X180_29, X180_30, X180_31, X180_34, Nat.zero_le, and_true, true_and, x_nb0, x_nb1, x_nbp, x_isL_int, x_isL_ref, x_isL_junk, x_isR_ref, x_cat_nil, x_cat_int, x_cat_ref, x_cat_long, Option.toList_some, Option.toList_none, List.cons_append, List.nil_append, Nat.reduceAdd, Nat.reduceLeDiff, Nat.reduceLT, t_tag_si, t_tag_sr, t_tag_sI, x_r_si, x_i_sr, t_r_sI, x_ia_si, x_ia_sI, x_ia_sr, x_ra_si, x_ra_sI, x_ra_sr, nI_leF (show j + 1 < 20 by omega) (by decide), if_false, g_t41 hs, g_r41_35 hs, g_a61 hs, hjx, hjc, hbx, hbc, h1.1, h2.1, nI_leF hlt (show p (j + 1) < 2 ^ 31 by omega), nI_add]
        exact e
      · rw [if_neg hlt] at e
        simp only [X180_5, X180_7, X180_10, X180_11, X180_14, X180_15, X180_16, X180_17, X180_20, X180_21, X180_22, X180_25, X180_26, X180_29, X180_30, X180_31, X180_34, Nat.zero_le, and_true, true_and, x_nb0, x_nb1, x_nbp, x_isL_int, x_isL_ref, x_isL_junk, x_isR_ref, x_cat_nil, x_cat_int, x_cat_ref, x_cat_long, Option.toList_some, Option.toList_none, List.cons_append, List.nil_append, Nat.reduceAdd, Nat.reduceLeDiff, Nat.reduceLT, t_tag_si, t_tag_sr, t_tag_sI, x_r_si, x_i_sr, t_r_sI, x_ia_si, x_ia_sI, x_ia_sr, x_ra_si, x_ra_sI, x_ra_sr, nI_leF (show j + 1 < 20 by omega) (by decide), if_false, g_t41 hs, g_r41_35 hs, g_a61 hs, hjx, hjc, hbx, hbc, h1.1, h2.1, nI_leT (Nat.not_lt.mp hlt) (show p (bestN p j) < 2 ^ 31 by omega), if_true, nI_add]
        exact e
  have e := loop 19 0 rfl
  simp only [X180_0, X180_1, X180_2, X180_3, Nat.zero_le, and_true, true_and, x_nb0, x_nb1, x_nbp, x_isL_int, x_isL_ref, x_isL_junk, x_isR_ref, x_cat_nil, x_cat_int, x_cat_ref, x_cat_long, Option.toList_some, Option.toList_none, List.cons_append, List.nil_append, Nat.reduceAdd, Nat.reduceLeDiff, Nat.reduceLT, t_tag_si, t_tag_sr, t_tag_sI, x_r_si, x_i_sr, t_r_sI, x_ia_si, x_ia_sI, x_ia_sr, x_ra_si, x_ra_sI, x_ra_sr]
  exact e
theorem S94 {p : Nat → Nat} (hs : Sh w) (hd : Sd w) (hp : ∀ k, k < 20 → x_i w 26 k = nI (p k) ∧ p k ≤ 999) : X_R L xs d 94 0 [.ref 23, x_junk, x_junk] [] w Q = Q (some (.int (nI (bestN p 19)))) w := by
  have loop : ∀ n j, j + n = 19 → X_R L xs d 94 4 [.ref 23, .int (nI (bestN p j)), .int (nI (j + 1))] [] w Q = Q (some (.int (nI (bestN p 19)))) w := by
    intro n
    induction n with
    | zero =>
      intro j hj
      obtain rfl : j = 19 := by omega
      rw [X94_4]
      simp only [X94_5, X94_7, X94_33, X94_34, Nat.zero_le, and_true, true_and, x_nb0, x_nb1, x_nbp, x_isL_int, x_isL_ref, x_isL_junk, x_isR_ref, x_cat_nil, x_cat_int, x_cat_ref, x_cat_long, Option.toList_some, Option.toList_none, List.cons_append, List.nil_append, Nat.reduceAdd, Nat.reduceLeDiff, Nat.reduceLT, t_tag_si, t_tag_sr, t_tag_sI, x_r_si, x_i_sr, t_r_sI, x_ia_si, x_ia_sI, x_ia_sr, x_ra_si, x_ra_sI, x_ra_sr, nI_leT (show 20 ≤ 19 + 1 by decide) (by decide), if_true]
    | succ n ih =>
      intro j hj
      have e := ih (j + 1) (by omega)
      have hb := bestN_le p j
      have hjx := x_ix_nI (show j + 1 < 20 by omega) (show 20 < 2 ^ 31 by decide)
      have hjc := nI_cl (show j + 1 < 2 ^ 31 by omega)
      have hbx := x_ix_nI (show bestN p j < 20 by omega) (show 20 < 2 ^ 31 by decide)
      have hbc := nI_cl (show bestN p j < 2 ^ 31 by omega)
      have h1 := hp (j + 1) (by omega)
      have h2 := hp (bestN p j) (by omega)
      unfold bestN at e
      rw [X94_4]
      by_cases hlt : p (bestN p j) < p (j + 1)
      · rw [if_pos hlt] at e
        simp only [X94_5, X94_7, X94_10, X94_11, X94_14, X94_15, X94_15s, X94_16, X94_17, X94_20, X94_21, X94_21s, X94_22, X94_25, X94_26, X94_27, X94_30, Nat.zero_le, and_true, true_and, x_nb0, x_nb1, x_nbp, x_isL_int, x_isL_ref, x_isL_junk, x_isR_ref, x_cat_nil, x_cat_int, x_cat_ref, x_cat_long, Option.toList_some, Option.toList_none, List.cons_append, List.nil_append, Nat.reduceAdd, Nat.reduceLeDiff, Nat.reduceLT, t_tag_si, t_tag_sr, t_tag_sI, x_r_si, x_i_sr, t_r_sI, x_ia_si, x_ia_sI, x_ia_sr, x_ra_si, x_ra_sI, x_ra_sr, nI_leF (show j + 1 < 20 by omega) (by decide), if_false, g_t23 hs, hd.1, g_a26 hs, hjx, hjc, hbx, hbc, h1.1, h2.1, nI_leF hlt (show p (j + 1) < 2 ^ 31 by omega), nI_add]
        exact e
      · rw [if_neg hlt] at e
        simp only [X94_5, X94_7, X94_10, X94_11, X94_14, X94_15, X94_15s, X94_16, X94_17, X94_20, X94_21, X94_21s, X94_22, X94_25, X94_26, X94_27, X94_30, Nat.zero_le, and_true, true_and, x_nb0, x_nb1, x_nbp, x_isL_int, x_isL_ref, x_isL_junk, x_isR_ref, x_cat_nil, x_cat_int, x_cat_ref, x_cat_long, Option.toList_some, Option.toList_none, List.cons_append, List.nil_append, Nat.reduceAdd, Nat.reduceLeDiff, Nat.reduceLT, t_tag_si, t_tag_sr, t_tag_sI, x_r_si, x_i_sr, t_r_sI, x_ia_si, x_ia_sI, x_ia_sr, x_ra_si, x_ra_sI, x_ra_sr, nI_leF (show j + 1 < 20 by omega) (by decide), if_false, g_t23 hs, hd.1, g_a26 hs, hjx, hjc, hbx, hbc, h1.1, h2.1, nI_leT (Nat.not_lt.mp hlt) (show p (bestN p j) < 2 ^ 31 by omega), if_true, nI_add]
        exact e
  have e := loop 19 0 rfl
  simp only [X94_0, X94_1, X94_2, X94_3, Nat.zero_le, and_true, true_and, x_nb0, x_nb1, x_nbp, x_isL_int, x_isL_ref, x_isL_junk, x_isR_ref, x_cat_nil, x_cat_int, x_cat_ref, x_cat_long, Option.toList_some, Option.toList_none, List.cons_append, List.nil_append, Nat.reduceAdd, Nat.reduceLeDiff, Nat.reduceLT, t_tag_si, t_tag_sr, t_tag_sI, x_r_si, x_i_sr, t_r_sI, x_ia_si, x_ia_sI, x_ia_sr, x_ra_si, x_ra_sI, x_ra_sr]
  exact e
def sumT (p : Nat → Nat) : Nat → Nat
  | 0 => 0
  | n + 1 => sumT p n + p n
theorem S182 {p : Nat → Nat} (hs : Sh w) (hp : ∀ k, k < 20 → x_i w 61 k = nI (p k)) : X_R L xs d 182 0 [.ref 41, x_junk, x_junk] [] w Q = Q (some (.int (nI (sumT p 20)))) w := by
  have loop : ∀ n j, j + n = 20 → X_R L xs d 182 4 [.ref 41, .int (nI (sumT p j)), .int (nI j)] [] w Q = Q (some (.int (nI (sumT p 20)))) w := by
    intro n
    induction n with
    | zero =>
      intro j hj
      obtain rfl : j = 20 := by omega
      rw [X182_4]
      simp only [X182_5, X182_7, X182_25, X182_26, Nat.zero_le, and_true, true_and, x_nb0, x_nb1, x_nbp, x_isL_int, x_isL_ref, x_isL_junk, x_isR_ref, x_cat_nil, x_cat_int, x_cat_ref, x_cat_long, Option.toList_some, Option.toList_none, List.cons_append, List.nil_append, Nat.reduceAdd, Nat.reduceLeDiff, Nat.reduceLT, t_tag_si, t_tag_sr, t_tag_sI, x_r_si, x_i_sr, t_r_sI, x_ia_si, x_ia_sI, x_ia_sr, x_ra_si, x_ra_sI, x_ra_sr, nI_leT (Nat.le_refl 20) (by decide), if_true]
    | succ n ih =>
      intro j hj
      have e := ih (j + 1) (by omega)
      have hjx := x_ix_nI (show j < 20 by omega) (show 20 < 2 ^ 31 by decide)
      have hjc := nI_cl (show j < 2 ^ 31 by omega)
      have e1 : sumT p j + p j = sumT p (j + 1) := rfl
      rw [X182_4]
      simp only [X182_5, X182_7, X182_10, X182_11, X182_12, X182_15, X182_16, X182_17, X182_18, X182_19, X182_22, Nat.zero_le, and_true, true_and, x_nb0, x_nb1, x_nbp, x_isL_int, x_isL_ref, x_isL_junk, x_isR_ref, x_cat_nil, x_cat_int, x_cat_ref, x_cat_long, Option.toList_some, Option.toList_none, List.cons_append, List.nil_append, Nat.reduceAdd, Nat.reduceLeDiff, Nat.reduceLT, t_tag_si, t_tag_sr, t_tag_sI, x_r_si, x_i_sr, t_r_sI, x_ia_si, x_ia_sI, x_ia_sr, x_ra_si, x_ra_sI, x_ra_sr, nI_leF (show j < 20 by omega) (by decide), if_false, g_t41 hs, g_r41_35 hs, g_a61 hs, hjx, hjc, hp j (by omega), nI_add, e1]
      exact e
  have e := loop 20 0 rfl
  simp only [X182_0, X182_1, X182_2, X182_3, Nat.zero_le, and_true, true_and, x_nb0, x_nb1, x_nbp, x_isL_int, x_isL_ref, x_isL_junk, x_isR_ref, x_cat_nil, x_cat_int, x_cat_ref, x_cat_long, Option.toList_some, Option.toList_none, List.cons_append, List.nil_append, Nat.reduceAdd, Nat.reduceLeDiff, Nat.reduceLT, t_tag_si, t_tag_sr, t_tag_sI, x_r_si, x_i_sr, t_r_sI, x_ia_si, x_ia_sI, x_ia_sr, x_ra_si, x_ra_sI, x_ra_sr]
  exact e
theorem S95 {p : Nat → Nat} (hs : Sh w) (hd : Sd w) (hp : ∀ k, k < 20 → x_i w 26 k = nI (p k)) : X_R L xs d 95 0 [.ref 23, x_junk, x_junk] [] w Q = Q (some (.int (nI (sumT p 20)))) w := by
  have loop : ∀ n j, j + n = 20 → X_R L xs d 95 4 [.ref 23, .int (nI (sumT p j)), .int (nI j)] [] w Q = Q (some (.int (nI (sumT p 20)))) w := by
    intro n
    induction n with
    | zero =>
      intro j hj
      obtain rfl : j = 20 := by omega
      rw [X95_4]
      simp only [X95_5, X95_7, X95_25, X95_26, Nat.zero_le, and_true, true_and, x_nb0, x_nb1, x_nbp, x_isL_int, x_isL_ref, x_isL_junk, x_isR_ref, x_cat_nil, x_cat_int, x_cat_ref, x_cat_long, Option.toList_some, Option.toList_none, List.cons_append, List.nil_append, Nat.reduceAdd, Nat.reduceLeDiff, Nat.reduceLT, t_tag_si, t_tag_sr, t_tag_sI, x_r_si, x_i_sr, t_r_sI, x_ia_si, x_ia_sI, x_ia_sr, x_ra_si, x_ra_sI, x_ra_sr, nI_leT (Nat.le_refl 20) (by decide), if_true]
    | succ n ih =>
      intro j hj
      have e := ih (j + 1) (by omega)
      have hjx := x_ix_nI (show j < 20 by omega) (show 20 < 2 ^ 31 by decide)
      have hjc := nI_cl (show j < 2 ^ 31 by omega)
      have e1 : sumT p j + p j = sumT p (j + 1) := rfl
      rw [X95_4]
      simp only [X95_5, X95_7, X95_10, X95_11, X95_12, X95_15, X95_16, X95_16s, X95_17, X95_18, X95_19, X95_22, Nat.zero_le, and_true, true_and, x_nb0, x_nb1, x_nbp, x_isL_int, x_isL_ref, x_isL_junk, x_isR_ref, x_cat_nil, x_cat_int, x_cat_ref, x_cat_long, Option.toList_some, Option.toList_none, List.cons_append, List.nil_append, Nat.reduceAdd, Nat.reduceLeDiff, Nat.reduceLT, t_tag_si, t_tag_sr, t_tag_sI, x_r_si, x_i_sr, t_r_sI, x_ia_si, x_ia_sI, x_ia_sr, x_ra_si, x_ra_sI, x_ra_sr, nI_leF (show j < 20 by omega) (by decide), if_false, g_t23 hs, hd.1, g_a26 hs, hjx, hjc, hp j (by omega), nI_add, e1]
      exact e
  have e := loop 20 0 rfl
  simp only [X95_0, X95_1, X95_2, X95_3, Nat.zero_le, and_true, true_and, x_nb0, x_nb1, x_nbp, x_isL_int, x_isL_ref, x_isL_junk, x_isR_ref, x_cat_nil, x_cat_int, x_cat_ref, x_cat_long, Option.toList_some, Option.toList_none, List.cons_append, List.nil_append, Nat.reduceAdd, Nat.reduceLeDiff, Nat.reduceLT, t_tag_si, t_tag_sr, t_tag_sI, x_r_si, x_i_sr, t_r_sI, x_ia_si, x_ia_sI, x_ia_sr, x_ra_si, x_ra_sI, x_ra_sr]
  exact e
end S50
