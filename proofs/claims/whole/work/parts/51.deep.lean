/-! ===== how it hangs: depth(), pull() ===== -/
/-- the class's side stands for S sleepers -/
def CX (w : x_W) (S : Nat) (kd td mo kt : Nat → Nat) : Prop := Sh w ∧ Sd w ∧ x_i w 22 4 = nI S ∧ S ≤ 6 ∧ XSl w S kd td mo kt ∧ (∀ s, s < 6 → kd s ≤ 5 ∧ td s ≤ 30 ∧ mo s ≤ 9 ∧ kt s < 20) ∧ Nb (x_i w 24)
section
variable {w : x_W} {S : Nat} {kd td mo kt : Nat → Nat}
theorem CX.sh (h : CX w S kd td mo kt) : Sh w := h.1
theorem CX.sd (h : CX w S kd td mo kt) : Sd w := h.2.1
theorem CX.hS (h : CX w S kd td mo kt) : x_i w 22 4 = nI S := h.2.2.1
theorem CX.S6 (h : CX w S kd td mo kt) : S ≤ 6 := h.2.2.2.1
theorem CX.X (h : CX w S kd td mo kt) : XSl w S kd td mo kt := h.2.2.2.2.1
theorem CX.bd (h : CX w S kd td mo kt) : ∀ s, s < 6 → kd s ≤ 5 ∧ td s ≤ 30 ∧ mo s ≤ 9 ∧ kt s < 20 := h.2.2.2.2.2.1
theorem CX.nb (h : CX w S kd td mo kt) : Nb (x_i w 24) := h.2.2.2.2.2.2
end
/-- the reference's side stands for S sleepers -/
def CM (w : x_W) (S : Nat) (kd td mo kt : Nat → Nat) : Prop := Sh w ∧ x_i w 41 2 = nI S ∧ S ≤ 6 ∧ MSl w kd td mo kt
section
variable {w : x_W} {S : Nat} {kd td mo kt : Nat → Nat}
theorem CM.sh (h : CM w S kd td mo kt) : Sh w := h.1
theorem CM.hS (h : CM w S kd td mo kt) : x_i w 41 2 = nI S := h.2.1
theorem CM.S6 (h : CM w S kd td mo kt) : S ≤ 6 := h.2.2.1
theorem CM.M (h : CM w S kd td mo kt) : MSl w kd td mo kt := h.2.2.2
end
def XL (S : Nat) (kd td mo kt : Nat → Nat) : Nat → Nat := loadN (fun _ => true) kt (wgF kd td mo) S
def ML (sm : Int32) (S : Nat) (kd td mo kt : Nat → Nat) : Nat → Nat := loadN (fun s => decide (bv sm (nI s) = nI 1)) kt (wgF kd td mo) S
def XD (w : x_W) (l : Nat → Nat) (n : Nat) : Nat → Nat := dpN (cbN (x_i w 24)) (tbN (x_i w 23 1)) l n
def MD (w : x_W) (l : Nat → Nat) (n : Nat) : Nat → Nat := dpN (cbN (x_i w 42)) (tbN (x_i w 41 1)) l n
def WXs (w : x_W) (l : Nat → Nat) : x_W := WX w l (XD w l 12) (XD w l 11)
def WHs (w : x_W) (l : Nat → Nat) : x_W := WH w l (MD w l 12) (MD w l 11)
theorem ML_all {S : Nat} {kd td mo kt : Nat → Nat} (h : S ≤ 6) : ML (nI (2 ^ S - 1)) S kd td mo kt = XL S kd td mo kt := by
  funext k
  exact loadN_cg (fun s hs => by
    have := allBit S h s (by omega)
    rw [this]
    exact decide_eq_true hs) k
theorem WX_25 (w : x_W) (a b c : Nat → Nat) {k : Nat} (hk : k < 20) : x_i (WX w a b c) 25 k = nI (a k) := by
  show x_i (x_sI (x_sI (x_sI w 25 _) 26 _) 27 _) 25 k = _
  rw [x_i_sIn _ _ _ (by decide), x_i_sIn _ _ _ (by decide), x_i_sI, x_fn_in hk]
theorem WX_26 (w : x_W) (a b c : Nat → Nat) {k : Nat} (hk : k < 20) : x_i (WX w a b c) 26 k = nI (b k) := by
  show x_i (x_sI (x_sI (x_sI w 25 _) 26 _) 27 _) 26 k = _
  rw [x_i_sIn _ _ _ (by decide), x_i_sI, x_fn_in hk]
theorem WX_27 (w : x_W) (a b c : Nat → Nat) {k : Nat} (hk : k < 20) : x_i (WX w a b c) 27 k = nI (c k) := by
  show x_i (x_sI (x_sI (x_sI w 25 _) 26 _) 27 _) 27 k = _
  rw [x_i_sI, x_fn_in hk]
theorem WX_o (w : x_W) (a b c : Nat → Nat) (q : Nat) (h : q ≠ 25 ∧ q ≠ 26 ∧ q ≠ 27) : x_i (WX w a b c) q = x_i w q := by
  show x_i (x_sI (x_sI (x_sI w 25 _) 26 _) 27 _) q = _
  rw [x_i_sIn _ _ _ h.2.2, x_i_sIn _ _ _ h.2.1, x_i_sIn _ _ _ h.1]
theorem WH_60 (w : x_W) (a b c : Nat → Nat) {k : Nat} (hk : k < 20) : x_i (WH w a b c) 60 k = nI (a k) := by
  show x_i (x_sI (x_sI (x_sI w 60 _) 61 _) 62 _) 60 k = _
  rw [x_i_sIn _ _ _ (by decide), x_i_sIn _ _ _ (by decide), x_i_sI, x_fn_in hk]
theorem WH_61 (w : x_W) (a b c : Nat → Nat) {k : Nat} (hk : k < 20) : x_i (WH w a b c) 61 k = nI (b k) := by
  show x_i (x_sI (x_sI (x_sI w 60 _) 61 _) 62 _) 61 k = _
  rw [x_i_sIn _ _ _ (by decide), x_i_sI, x_fn_in hk]
theorem WH_o (w : x_W) (a b c : Nat → Nat) (q : Nat) (h : q ≠ 60 ∧ q ≠ 61 ∧ q ≠ 62) : x_i (WH w a b c) q = x_i w q := by
  show x_i (x_sI (x_sI (x_sI w 60 _) 61 _) 62 _) q = _
  rw [x_i_sIn _ _ _ h.2.2, x_i_sIn _ _ _ h.2.1, x_i_sIn _ _ _ h.1]
theorem Sh_WX {w : x_W} {a b c : Nat → Nat} (h : Sh w) : Sh (WX w a b c) := h
theorem Sh_WH {w : x_W} {a b c : Nat → Nat} (h : Sh w) : Sh (WH w a b c) := h
theorem CX_WX {w : x_W} {S : Nat} {kd td mo kt a b c : Nat → Nat} (h : CX w S kd td mo kt) : CX (WX w a b c) S kd td mo kt := by
  refine ⟨Sh_WX h.sh, h.sd, by rw [WX_o _ _ _ _ _ (by decide)]; exact h.hS, h.S6, ⟨fun s hs => ?_, fun s hs => ?_⟩, h.bd, by rw [WX_o _ _ _ _ _ (by decide)]; exact h.nb⟩
  · rw [WX_o _ _ _ _ (35 + s) (by omega), WX_o _ _ _ _ 30 (by decide)]; exact h.X.1 s hs
  · rw [WX_o _ _ _ _ (35 + s) (by omega)]; exact h.X.2 s hs
theorem CM_WH {w : x_W} {S : Nat} {kd td mo kt a b c : Nat → Nat} (h : CM w S kd td mo kt) : CM (WH w a b c) S kd td mo kt := by
  refine ⟨Sh_WH h.sh, by rw [WH_o _ _ _ _ _ (by decide)]; exact h.hS, h.S6, fun s hs => ?_⟩
  rw [WH_o _ _ _ _ 43 (by decide), WH_o _ _ _ _ 44 (by decide), WH_o _ _ _ _ 45 (by decide), WH_o _ _ _ _ 46 (by decide)]
  exact h.M s hs
theorem XD_le (w : x_W) (l : Nat → Nat) (n k : Nat) : XD w l n k ≤ 999 := dpN_le _ _ _ _ _
theorem MD_le (w : x_W) (l : Nat → Nat) (n k : Nat) : MD w l n k ≤ 999 := dpN_le _ _ _ _ _
def absD (a b : Nat) : Nat := if b ≤ a then a - b else b - a
theorem nI_sub {a b : Nat} (h : b ≤ a) : nI a - nI b = nI (a - b) := by
  have := nI_add (a - b) b
  rw [Nat.sub_add_cancel h] at this
  rw [← this]
  exact Int32.add_sub_cancel _ _
theorem apartN {a b : Nat} (ha : a < 2 ^ 31) (hb : b < 2 ^ 31) : (if nI b ≤ nI a then nI a - nI b else nI b - nI a) = nI (absD a b) := by
  unfold absD
  by_cases h : b ≤ a
  · rw [if_pos ((nI_leI hb ha).mpr h), if_pos h, nI_sub h]
  · rw [if_neg (fun q => h ((nI_leI hb ha).mp q)), if_neg h, nI_sub (by omega)]
section S51
variable {L : Nat} {xs : Nat → Int32} {d : Nat} {w : x_W} {Q : Option Value → x_W → Prop} {S : Nat} {kd td mo kt : Nat → Nat}
theorem S56' (h : CX w S kd td mo kt) : X_R L xs (d + 3) 56 0 [.ref 22, x_junk] [] w Q = Q none (WXs w (XL S kd td mo kt)) := S56 h.sh h.sd h.hS h.S6 h.X h.bd h.nb
theorem S175' {sm : Int32} (h : CM w S kd td mo kt) : X_R L xs (d + 2) 175 0 [.ref 41, .int sm, x_junk, x_junk] [] w Q = Q none (WHs w (ML sm S kd td mo kt)) := S175 h.sh h.hS h.S6 h.M
theorem S73 (h : CX w S kd td mo kt) : X_R L xs (d + 4) 73 0 [.ref 22] [] w Q = Q (some (.int (nI (XD w (XL S kd td mo kt) 12 (bestN (XD w (XL S kd td mo kt) 12) 19))))) (WXs w (XL S kd td mo kt)) := by
  have h56 := fun (Q' : Option Value → x_W → Prop) => S56' (L := L) (xs := xs) (d := d) (Q := Q') h
  have hb := bestN_le (XD w (XL S kd td mo kt) 12) 19
  have hix := x_ix_nI (show bestN (XD w (XL S kd td mo kt) 12) 19 < 20 by omega) (show 20 < 2 ^ 31 by decide)
  have hic := nI_cl (show bestN (XD w (XL S kd td mo kt) 12) 19 < 2 ^ 31 by omega)
  have hsW : Sh (WXs w (XL S kd td mo kt)) := h.sh
  have hdW : Sd (WXs w (XL S kd td mo kt)) := h.sd
  have h94 := fun (Q' : Option Value → x_W → Prop) => S94 (L := L) (xs := xs) (d := d + 3) (Q := Q') (w := WXs w (XL S kd td mo kt)) (p := XD w (XL S kd td mo kt) 12) hsW hdW (fun k hk => ⟨WX_26 _ _ _ _ hk, XD_le _ _ _ _⟩)
  have h26 : x_i (WXs w (XL S kd td mo kt)) 26 (bestN (XD w (XL S kd td mo kt) 12) 19) = nI (XD w (XL S kd td mo kt) 12 (bestN (XD w (XL S kd td mo kt) 12) 19)) := WX_26 _ _ _ _ (by omega)
  simp only [X73_0, X73_1, X73_4, X73_5, X73_8, X73_11, X73_12, X73_15, X73_18, X73_19, Nat.zero_le, and_true, true_and, x_nb0, x_nb1, x_nbp, x_isL_int, x_isL_ref, x_isL_junk, x_isR_ref, x_cat_nil, x_cat_int, x_cat_ref, x_cat_long, Option.toList_some, Option.toList_none, List.cons_append, List.nil_append, Nat.reduceAdd, Nat.reduceLeDiff, Nat.reduceLT, t_tag_si, t_tag_sr, t_tag_sI, x_r_si, x_i_sr, t_r_sI, x_ia_si, x_ia_sI, x_ia_sr, x_ra_si, x_ra_sI, x_ra_sr, g_t22 h.sh, h56, g_t22 hsW, g_r22_0 hsW, g_t23 hsW, hdW.1, h94, g_a26 hsW, hix, hic, h26]
theorem S211 (h : CM w S kd td mo kt) : X_R L xs (d + 3) 211 0 [.ref 41] [] w Q = Q (some (.int (nI (MD w (XL S kd td mo kt) 12 (bestN (MD w (XL S kd td mo kt) 12) 19))))) (WHs w (XL S kd td mo kt)) := by
  have h175 := fun (Q' : Option Value → x_W → Prop) => S175' (L := L) (xs := xs) (d := d) (Q := Q') (sm := nI (2 ^ S - 1)) h
  rw [ML_all h.S6] at h175
  have h174 := fun (Q' : Option Value → x_W → Prop) => S174 (L := L) (xs := xs) (d := d + 2) (Q := Q') h.sh h.hS h.S6
  have hb := bestN_le (MD w (XL S kd td mo kt) 12) 19
  have hix := x_ix_nI (show bestN (MD w (XL S kd td mo kt) 12) 19 < 20 by omega) (show 20 < 2 ^ 31 by decide)
  have hic := nI_cl (show bestN (MD w (XL S kd td mo kt) 12) 19 < 2 ^ 31 by omega)
  have hsW : Sh (WHs w (XL S kd td mo kt)) := h.sh
  have h180 := fun (Q' : Option Value → x_W → Prop) => S180 (L := L) (xs := xs) (d := d + 2) (Q := Q') (w := WHs w (XL S kd td mo kt)) (p := MD w (XL S kd td mo kt) 12) hsW (fun k hk => ⟨WH_61 _ _ _ _ hk, MD_le _ _ _ _⟩)
  have h61 : x_i (WHs w (XL S kd td mo kt)) 61 (bestN (MD w (XL S kd td mo kt) 12) 19) = nI (MD w (XL S kd td mo kt) 12 (bestN (MD w (XL S kd td mo kt) 12) 19)) := WH_61 _ _ _ _ (by omega)
  simp only [X211_0, X211_1, X211_2, X211_5, X211_8, X211_9, X211_12, X211_13, X211_16, X211_17, Nat.zero_le, and_true, true_and, x_nb0, x_nb1, x_nbp, x_isL_int, x_isL_ref, x_isL_junk, x_isR_ref, x_cat_nil, x_cat_int, x_cat_ref, x_cat_long, Option.toList_some, Option.toList_none, List.cons_append, List.nil_append, Nat.reduceAdd, Nat.reduceLeDiff, Nat.reduceLT, t_tag_si, t_tag_sr, t_tag_sI, x_r_si, x_i_sr, t_r_sI, x_ia_si, x_ia_sI, x_ia_sr, x_ra_si, x_ra_sI, x_ra_sr, g_t41 h.sh, h174, h175, g_t41 hsW, g_r41_35 hsW, h180, g_a61 hsW, hix, hic, h61]
theorem S18 {a : Int32} (h : CX w S kd td mo kt) : X_R L xs (d + 4) 18 0 [.ref 0, .int a] [] w Q = if kn a then Q (some (.int (nI (XD w (XL S kd td mo kt) 12 a.toNatClampNeg)))) (WXs w (XL S kd td mo kt)) else Q (some (.int (-5))) w := by
  have h56 := fun (Q' : Option Value → x_W → Prop) => S56' (L := L) (xs := xs) (d := d) (Q := Q') h
  have hsW : Sh (WXs w (XL S kd td mo kt)) := h.sh
  have hdW : Sd (WXs w (XL S kd td mo kt)) := h.sd
  by_cases hk : kn a
  · have hix := kn_ix hk
    obtain ⟨i, hi, rfl⟩ := kn_of hk
    have hic := nI_cl (show i < 2 ^ 31 by omega)
    have h26 : x_i (WXs w (XL S kd td mo kt)) 26 i = nI (XD w (XL S kd td mo kt) 12 i) := WX_26 _ _ _ _ hi
    rw [if_pos hk]
    simp only [X18_0, X18_1, X18_4, X18_7, X18_9, X18_10, X18_11, X18_14, X18_17, X18_18, X18_21, X18_24, X18_25, X18_26, Nat.zero_le, and_true, true_and, x_nb0, x_nb1, x_nbp, x_isL_int, x_isL_ref, x_isL_junk, x_isR_ref, x_cat_nil, x_cat_int, x_cat_ref, x_cat_long, Option.toList_some, Option.toList_none, List.cons_append, List.nil_append, Nat.reduceAdd, Nat.reduceLeDiff, Nat.reduceLT, t_tag_si, t_tag_sr, t_tag_sI, x_r_si, x_i_sr, t_r_sI, x_ia_si, x_ia_sI, x_ia_sr, x_ra_si, x_ra_sI, x_ra_sr, S2, bI_0, hk, and_self, not_true, if_true, if_false, g_t0 h.sh, g_r0_0 h.sh, g_r0_1 h.sh, g_r0_4 h.sh, g_r0_5 h.sh, g_r0_6 h.sh, g_r0_7 h.sh, g_t22 h.sh, h56, g_t0 hsW, g_r0_0 hsW, g_r0_1 hsW, g_r0_4 hsW, g_r0_5 hsW, g_r0_6 hsW, g_r0_7 hsW, g_t23 hsW, hdW.1, g_a26 hsW, hix, hic, h26]
  · simp only [X18_0, X18_1, X18_4, X18_7, X18_9, Nat.zero_le, and_true, true_and, x_nb0, x_nb1, x_nbp, x_isL_int, x_isL_ref, x_isL_junk, x_isR_ref, x_cat_nil, x_cat_int, x_cat_ref, x_cat_long, Option.toList_some, Option.toList_none, List.cons_append, List.nil_append, Nat.reduceAdd, Nat.reduceLeDiff, Nat.reduceLT, t_tag_si, t_tag_sr, t_tag_sI, x_r_si, x_i_sr, t_r_sI, x_ia_si, x_ia_sI, x_ia_sr, x_ra_si, x_ra_sI, x_ra_sr, S2, bI_0, hk, not_false_eq_true, if_true, if_false]
theorem S173 {a : Int32} (h : CM w S kd td mo kt) : X_R L xs (d + 3) 173 0 [.ref 41, .int a] [] w Q = if kn a then Q (some (.int (nI (MD w (XL S kd td mo kt) 12 a.toNatClampNeg)))) (WHs w (XL S kd td mo kt)) else Q (some (.int (-5))) w := by
  have h175 := fun (Q' : Option Value → x_W → Prop) => S175' (L := L) (xs := xs) (d := d) (Q := Q') (sm := nI (2 ^ S - 1)) h
  rw [ML_all h.S6] at h175
  have h174 := fun (Q' : Option Value → x_W → Prop) => S174 (L := L) (xs := xs) (d := d + 2) (Q := Q') h.sh h.hS h.S6
  have hsW : Sh (WHs w (XL S kd td mo kt)) := h.sh
  by_cases hk : kn a
  · have hix := kn_ix hk
    obtain ⟨i, hi, rfl⟩ := kn_of hk
    have hic := nI_cl (show i < 2 ^ 31 by omega)
    have h61 : x_i (WHs w (XL S kd td mo kt)) 61 i = nI (MD w (XL S kd td mo kt) 12 i) := WH_61 _ _ _ _ hi
    rw [if_pos hk]
    simp only [X173_0, X173_1, X173_4, X173_7, X173_9, X173_10, X173_11, X173_12, X173_15, X173_18, X173_19, X173_22, X173_23, X173_24, Nat.zero_le, and_true, true_and, x_nb0, x_nb1, x_nbp, x_isL_int, x_isL_ref, x_isL_junk, x_isR_ref, x_cat_nil, x_cat_int, x_cat_ref, x_cat_long, Option.toList_some, Option.toList_none, List.cons_append, List.nil_append, Nat.reduceAdd, Nat.reduceLeDiff, Nat.reduceLT, t_tag_si, t_tag_sr, t_tag_sI, x_r_si, x_i_sr, t_r_sI, x_ia_si, x_ia_sI, x_ia_sr, x_ra_si, x_ra_sI, x_ra_sr, S137, bI_0, hk, and_self, not_true, if_true, if_false, g_t41 h.sh, h174, h175, g_t41 hsW, g_r41_35 hsW, g_a61 hsW, hix, hic, h61]
  · simp only [X173_0, X173_1, X173_4, X173_7, X173_9, Nat.zero_le, and_true, true_and, x_nb0, x_nb1, x_nbp, x_isL_int, x_isL_ref, x_isL_junk, x_isR_ref, x_cat_nil, x_cat_int, x_cat_ref, x_cat_long, Option.toList_some, Option.toList_none, List.cons_append, List.nil_append, Nat.reduceAdd, Nat.reduceLeDiff, Nat.reduceLT, t_tag_si, t_tag_sr, t_tag_sI, x_r_si, x_i_sr, t_r_sI, x_ia_si, x_ia_sI, x_ia_sr, x_ra_si, x_ra_sI, x_ra_sr, S137, bI_0, hk, not_false_eq_true, if_true, if_false]
end S51
