/-! ===== in which order to get in: order ===== -/
theorem sumN_mono {c : Nat → Bool} {p q : Nat → Nat} (h : ∀ o, p o ≤ q o) : ∀ n, sumN c p n ≤ sumN c q n := by
  intro n
  induction n with
  | zero => exact Nat.le_refl _
  | succ n ih =>
    unfold sumN
    have := h n
    split <;> omega
theorem snkN_mono {c : Nat → Bool} {t : Bool} {l l' : Nat} {p q : Nat → Nat} (hl : l ≤ l') (h : ∀ o, p o ≤ q o) : snkN c t l p ≤ snkN c t l' q := by
  unfold snkN
  split
  · exact Nat.le_refl _
  · split
    · exact Nat.le_refl _
    · have h1 := sumN_mono (c := c) h 20
      have h2 : (l + sumN c p 20) / cntN c 20 ≤ (l' + sumN c q 20) / cntN c 20 := Nat.div_le_div_right (by omega)
      omega
theorem dpN_mono {c : Nat → Nat → Bool} {t : Nat → Bool} {l l' : Nat → Nat} (hl : ∀ k, l k ≤ l' k) : ∀ r k, dpN c t l r k ≤ dpN c t l' r k := by
  intro r
  induction r with
  | zero => intro k; exact Nat.le_refl _
  | succ r ih => intro k; exact snkN_mono (hl k) ih
theorem loadN_mono {f : Nat → Bool} {kt wg : Nat → Nat} (n k : Nat) : loadN f kt wg n k ≤ loadN (fun _ => true) kt wg n k := by
  induction n with
  | zero => exact Nat.le_refl _
  | succ n ih =>
    unfold loadN
    by_cases h : f n = true ∧ kt n = k
    · rw [if_pos h, if_pos ⟨rfl, h.2⟩]; omega
    · rw [if_neg h]
      split <;> omega
theorem bestN_max {p : Nat → Nat} : ∀ n k, k ≤ n → p k ≤ p (bestN p n) := by
  intro n
  induction n with
  | zero => intro k hk; obtain rfl : k = 0 := by omega
            exact Nat.le_refl _
  | succ n ih =>
    intro k hk
    unfold bestN
    by_cases hkn : k = n + 1
    · subst hkn
      split
      · exact Nat.le_refl _
      · omega
    · have h1 := ih k (by omega)
      split
      · omega
      · exact h1
/-- how deep it is with the sleepers of a mask -/
def hdN (w : x_W) (S : Nat) (kd td mo kt : Nat → Nat) (m : Nat) : Nat := MD w (ML (nI m) S kd td mo kt) 12 (bestN (MD w (ML (nI m) S kd td mo kt) 12) 19)
theorem hdN_le (w : x_W) (S : Nat) (kd td mo kt : Nat → Nat) (m : Nat) : hdN w S kd td mo kt m ≤ 999 := MD_le _ _ _ _
theorem hdN_mono (w : x_W) {S : Nat} (h6 : S ≤ 6) (kd td mo kt : Nat → Nat) (m : Nat) : hdN w S kd td mo kt m ≤ hdN w S kd td mo kt (2 ^ S - 1) := by
  unfold hdN
  rw [ML_all h6]
  refine Nat.le_trans (dpN_mono (fun k => loadN_mono S k) 12 _) (bestN_max (p := MD w (XL S kd td mo kt) 12) 19 _ (bestN_le _ _))
def smx (b k : Nat) : Bool := [60, 61, 62].elem b || (b == 41 && (k == 40 || k == 41))
def dgN : Nat → Nat
  | 0 => 0
  | j + 1 => 10 * dgN j + j + 1
theorem dgN_le : ∀ j, j ≤ 6 → dgN j ≤ 123456 := by decide
theorem pc_all : ∀ S, S ≤ 6 → ∀ m, m < 64 → m < 2 ^ S → (pcN m = S ↔ m = 2 ^ S - 1) := by decide +kernel
theorem pc_or : ∀ S, S ≤ 6 → ∀ s, s < S → ∀ m, m < 64 → m < 2 ^ S → bv (nI m) (nI s) = nI 0 → (m ||| 2 ^ s) < 2 ^ S ∧ pcN (m ||| 2 ^ s) = pcN m + 1 ∧ nI m ||| nI 1 <<< (nI s &&& 31) = nI (m ||| 2 ^ s) := by
  have key : ∀ S, S ≤ 6 → ∀ s, s < 6 → ∀ m, m < 64 → (decide (s < S) && decide (m < 2 ^ S) && decide (bv (nI m) (nI s) = nI 0)) = true → (decide ((m ||| 2 ^ s) < 2 ^ S) && decide (pcN (m ||| 2 ^ s) = pcN m + 1) && decide (nI m ||| nI 1 <<< (nI s &&& 31) = nI (m ||| 2 ^ s))) = true := by decide +kernel
  intro S hS s hs m hm hm2 hb
  have h := key S hS s (by omega) m hm (by rw [decide_eq_true hs, decide_eq_true hm2, decide_eq_true hb]; rfl)
  rw [Bool.and_eq_true, Bool.and_eq_true, decide_eq_true_eq, decide_eq_true_eq, decide_eq_true_eq] at h
  exact ⟨h.1.1, h.1.2, h.2⟩
theorem all_bits : ∀ S, S ≤ 6 → ∀ s, s < 6 → bv (nI (2 ^ S - 1)) (nI s) = if s < S then nI 1 else nI 0 := by decide +kernel
theorem all_or : ∀ j, j < 6 → (2 ^ j - 1) ||| 2 ^ j = 2 ^ (j + 1) - 1 := by decide +kernel
theorem pw_le {S : Nat} (h : S ≤ 6) : 2 ^ S ≤ 64 := Nat.pow_le_pow_right (by decide) h
section S92
variable {L : Nat} {xs : Nat → Int32} {d : Nat} {w w' : x_W} {S : Nat} {kd td mo kt tl : Nat → Nat} {tk : Nat → Nat → Nat}
theorem CM.chx (h : CM w S kd td mo kt) (hc : Ch smx w w') : CM w' S kd td mo kt := by
  refine ⟨hc.sh h.sh, by rw [hc.2.2 41 2 rfl]; exact h.hS, h.S6, fun s hs => ?_⟩
  rw [hc.i (fun k => rfl : ∀ k, smx 43 k = false), hc.i (fun k => rfl : ∀ k, smx 44 k = false), hc.i (fun k => rfl : ∀ k, smx 45 k = false), hc.i (fun k => rfl : ∀ k, smx 46 k = false)]
  exact h.M s hs
theorem hdN_chx (hc : Ch smx w w') (m : Nat) : hdN w' S kd td mo kt m = hdN w S kd td mo kt m := by
  unfold hdN MD
  rw [hc.i (fun k => rfl : ∀ k, smx 42 k = false), hc.2.2 41 1 rfl]
theorem Ch_WH {a b c : Nat → Nat} : Ch (sm [60, 61, 62]) w (WH w a b c) := (Ch_sI (fun _ => rfl)).trans ((Ch_sI (fun _ => rfl)).trans (Ch_sI (fun _ => rfl)))
theorem Ch_WX {a b c : Nat → Nat} : Ch (sm [25, 26, 27]) w (WX w a b c) := (Ch_sI (fun _ => rfl)).trans ((Ch_sI (fun _ => rfl)).trans (Ch_sI (fun _ => rfl)))
theorem smx_of {w1 w2 : x_W} (h : Ch (sm [60, 61, 62]) w1 w2) : Ch smx w1 w2 := h.mono fun b k hb => by
  unfold smx at hb
  rw [Bool.or_eq_false_iff] at hb
  exact hb.1
/-- one more in the net: hangs, and how deep -/
theorem hangX (h : CM w S kd td mo kt) (m : Nat) : ∃ w2, Ch (sm [60, 61, 62]) w w2 ∧ (∀ Q, X_R L xs (d + 2) 175 0 [.ref 41, .int (nI m), x_junk, x_junk] [] w Q = Q none w2) ∧ (∀ Q, X_R L xs (d + 2) 180 0 [.ref 41, x_junk, x_junk] [] w2 Q = Q (some (.int (nI (bestN (MD w (ML (nI m) S kd td mo kt) 12) 19)))) w2) ∧ x_ix (nI (bestN (MD w (ML (nI m) S kd td mo kt) 12) 19)) 20 ∧ x_i w2 61 (nI (bestN (MD w (ML (nI m) S kd td mo kt) 12) 19)).toNatClampNeg = nI (hdN w S kd td mo kt m) := by
  have hb := bestN_le (MD w (ML (nI m) S kd td mo kt) 12) 19
  refine ⟨WHs w (ML (nI m) S kd td mo kt), Ch_WH, fun Q => S175' h, fun Q => S180 (w := WHs w (ML (nI m) S kd td mo kt)) (p := MD w (ML (nI m) S kd td mo kt) 12) h.sh (fun k hk => ⟨WH_61 _ _ _ _ hk, MD_le _ _ _ _⟩), x_ix_nI (by omega) (by decide), ?_⟩
  rw [nI_cl (by omega)]
  exact WH_61 _ _ _ _ (by omega)
/-- found already: nothing comes of it -/
theorem S209F (h : CM w S kd td mo kt) : ∀ r m, m < 2 ^ S → pcN m + r = S → ∀ e, e = d + r + 4 → ∀ w1, Ch smx w w1 → x_i w1 41 41 = nI (hdN w S kd td mo kt (2 ^ S - 1)) → ∀ most, most ≤ 999 → (m = 2 ^ S - 1 → hdN w S kd td mo kt (2 ^ S - 1) ≤ most) → ∀ dg : Int32,
    (∃ w2, Ch (sm [60, 61, 62]) w1 w2 ∧ ∀ Q, X_R L xs e 209 0 [.ref 41, .int (nI m), .int (nI most), .int dg, x_junk, x_junk] [] w1 Q = Q none w2) ∧
    (0 < r → ∀ n j, j + n = S → ∀ u5 : Value, x_isL u5 = false → ∃ w2, Ch (sm [60, 61, 62]) w1 w2 ∧ ∀ Q, X_R L xs e 209 38 [.ref 41, .int (nI m), .int (nI most), .int dg, .int (nI j), u5] [] w1 Q = Q none w2) := by
  have h6 := h.S6
  have hp6 := pw_le h6
  have ebv : ∀ m q : Int32, m >>> (q &&& 31) &&& nI 1 = bv m q := fun _ _ => rfl
  have hD9 := hdN_le w S kd td mo kt (2 ^ S - 1)
  intro r
  induction r with
  | zero =>
    intro m hm hpc e he w1 c1 hD most hmost hlast dg
    subst he
    have hM1 := h.chx c1
    have hs1 := hM1.sh
    have hmall := (pc_all S h6 m (by omega) hm).mp (by omega)
    have e174 := fun (Q' : Option Value → x_W → Prop) => S174 (L := L) (xs := xs) (d := d + 0 + 3) (Q := Q') hs1 hM1.hS h6
    refine ⟨⟨w1, Ch.refl, fun Q => ?_⟩, fun q => absurd q (Nat.lt_irrefl _)⟩
    have hle := hlast hmall
    simp only [X209_0, X209_1, X209_2, X209_5, X209_8, X209_9, X209_12, X209_13, X209_16, X209_17, X209_18, X209_21, X209_34, Nat.zero_le, and_true, true_and, x_nb0, x_nb1, x_nbp, x_isL_int, x_isL_ref, x_isL_junk, x_isR_ref, x_cat_nil, x_cat_int, x_cat_ref, x_cat_long, Option.toList_some, Option.toList_none, List.cons_append, List.nil_append, Nat.reduceAdd, Nat.reduceLeDiff, Nat.reduceLT, t_tag_si, t_tag_sr, t_tag_sI, x_r_si, x_i_sr, t_r_sI, x_ia_si, x_ia_sI, x_ia_sr, x_ra_si, x_ra_sI, x_ra_sr, g_t41 hs1, e174, hmall, if_true, hD, nI_m1e (show hdN w S kd td mo kt (2 ^ S - 1) < 2 ^ 31 by omega), if_false, nI_leT hle (show most < 2 ^ 31 by omega)]
  | succ r ih =>
    intro m hm hpc e he
    obtain ⟨e', rfl⟩ : ∃ e', e = e' + 1 := ⟨d + r + 4, by omega⟩
    obtain ⟨e2, rfl⟩ : ∃ e2, e' = e2 + 2 := ⟨d + r + 2, by omega⟩
    have hnall : m ≠ 2 ^ S - 1 := fun q => by have := (pc_all S h6 m (by omega) hm).mpr q; omega
    have loop : ∀ n j, j + n = S → ∀ w1, Ch smx w w1 → x_i w1 41 41 = nI (hdN w S kd td mo kt (2 ^ S - 1)) → ∀ most, most ≤ 999 → ∀ dg : Int32, ∀ u5 : Value, x_isL u5 = false → ∃ w2, Ch (sm [60, 61, 62]) w1 w2 ∧ ∀ Q, X_R L xs (e2 + 2 + 1) 209 38 [.ref 41, .int (nI m), .int (nI most), .int dg, .int (nI j), u5] [] w1 Q = Q none w2 := by
      intro n
      induction n with
      | zero =>
        intro j hj w1 c1 hD most hmost dg u5 h5
        obtain rfl : j = S := by omega
        have hM1 := h.chx c1
        refine ⟨w1, Ch.refl, fun Q => ?_⟩
        rw [X209_38]
        simp only [X209_40, X209_41, X209_44, X209_114, Nat.zero_le, and_true, true_and, x_nb0, x_nb1, x_nbp, x_isL_int, x_isL_ref, x_isL_junk, x_isR_ref, x_cat_nil, x_cat_int, x_cat_ref, x_cat_long, Option.toList_some, Option.toList_none, List.cons_append, List.nil_append, Nat.reduceAdd, Nat.reduceLeDiff, Nat.reduceLT, t_tag_si, t_tag_sr, t_tag_sI, x_r_si, x_i_sr, t_r_sI, x_ia_si, x_ia_sI, x_ia_sr, x_ra_si, x_ra_sI, x_ra_sr, g_t41 hM1.sh, hM1.hS, nI_leT (Nat.le_refl j) (show j < 2 ^ 31 by omega), if_true]
      | succ n ihn =>
        intro j hj w1 c1 hD most hmost dg u5 h5
        have hM1 := h.chx c1
        have hs1 := hM1.sh
        rcases bv_cases (nI m) (nI j) with hb | hb
        · obtain ⟨o1, o2, o3⟩ := pc_or S h6 j (by omega) m (by omega) hm hb
          obtain ⟨w2, c2, e175, e180, bix, e61⟩ := hangX (L := L) (xs := xs) (d := e2) hM1 (m ||| 2 ^ j)
          rw [hdN_chx c1] at e61
          have hs2 := c2.sh hs1
          have hd9 := hdN_le w S kd td mo kt (m ||| 2 ^ j)
          have c12 := c1.trans (smx_of c2)
          by_cases hlt : most < hdN w S kd td mo kt (m ||| 2 ^ j)
          · obtain ⟨⟨w3, c3, e3⟩, _⟩ := ih (m ||| 2 ^ j) o1 (by omega) (e2 + 2) (by omega) w2 c12 (by rw [c2.2.2 41 41 rfl]; exact hD) (hdN w S kd td mo kt (m ||| 2 ^ j)) hd9 (fun q => by rw [q]; exact Nat.le_refl _) (nI 10 * dg + nI j + nI 1)
            obtain ⟨w4, c4, e4⟩ := ihn (j + 1) (by omega) w3 (c12.trans (smx_of c3)) (by rw [c3.2.2 41 41 rfl, c2.2.2 41 41 rfl]; exact hD) most hmost dg (.int (nI (hdN w S kd td mo kt (m ||| 2 ^ j)))) rfl
            refine ⟨w4, c2.trans (c3.trans c4), fun Q => ?_⟩
            rw [← e4 Q, X209_38]
            simp only [X209_40, X209_41, X209_44, X209_47, X209_48, X209_50, X209_51, X209_52, X209_53, X209_56, X209_57, X209_58, X209_59, X209_61, X209_62, X209_63, X209_66, X209_67, X209_70, X209_71, X209_74, X209_75, X209_77, X209_78, X209_79, X209_80, X209_82, X209_83, X209_84, X209_86, X209_87, X209_90, X209_92, X209_96, X209_98, X209_99, X209_100, X209_102, X209_103, X209_104, X209_105, X209_108, X209_111, Nat.zero_le, and_true, true_and, x_nb0, x_nb1, x_nbp, x_isL_int, x_isL_ref, x_isL_junk, x_isR_ref, x_cat_nil, x_cat_int, x_cat_ref, x_cat_long, Option.toList_some, Option.toList_none, List.cons_append, List.nil_append, Nat.reduceAdd, Nat.reduceLeDiff, Nat.reduceLT, t_tag_si, t_tag_sr, t_tag_sI, x_r_si, x_i_sr, t_r_sI, x_ia_si, x_ia_sI, x_ia_sr, x_ra_si, x_ra_sI, x_ra_sr, h5, g_t41 hs1, hM1.hS, nI_leF (show j < S by omega) (show S < 2 ^ 31 by omega), if_false, if_true, ebv, hb, o3, e175, g_t41 hs2, g_r41_35 hs2, e180, g_a61 hs2, bix, e61, nI_leF hlt (show hdN w S kd td mo kt (m ||| 2 ^ j) < 2 ^ 31 by omega), e3, nI_add]
          · obtain ⟨⟨w3, c3, e3⟩, _⟩ := ih (m ||| 2 ^ j) o1 (by omega) (e2 + 2) (by omega) w2 c12 (by rw [c2.2.2 41 41 rfl]; exact hD) most hmost (fun q => by rw [← q]; omega) (nI 10 * dg + nI j + nI 1)
            obtain ⟨w4, c4, e4⟩ := ihn (j + 1) (by omega) w3 (c12.trans (smx_of c3)) (by rw [c3.2.2 41 41 rfl, c2.2.2 41 41 rfl]; exact hD) most hmost dg (.int (nI (hdN w S kd td mo kt (m ||| 2 ^ j)))) rfl
            refine ⟨w4, c2.trans (c3.trans c4), fun Q => ?_⟩
            rw [← e4 Q, X209_38]
            simp only [X209_40, X209_41, X209_44, X209_47, X209_48, X209_50, X209_51, X209_52, X209_53, X209_56, X209_57, X209_58, X209_59, X209_61, X209_62, X209_63, X209_66, X209_67, X209_70, X209_71, X209_74, X209_75, X209_77, X209_78, X209_79, X209_80, X209_82, X209_83, X209_84, X209_86, X209_87, X209_95, X209_96, X209_98, X209_99, X209_100, X209_102, X209_103, X209_104, X209_105, X209_108, X209_111, Nat.zero_le, and_true, true_and, x_nb0, x_nb1, x_nbp, x_isL_int, x_isL_ref, x_isL_junk, x_isR_ref, x_cat_nil, x_cat_int, x_cat_ref, x_cat_long, Option.toList_some, Option.toList_none, List.cons_append, List.nil_append, Nat.reduceAdd, Nat.reduceLeDiff, Nat.reduceLT, t_tag_si, t_tag_sr, t_tag_sI, x_r_si, x_i_sr, t_r_sI, x_ia_si, x_ia_sI, x_ia_sr, x_ra_si, x_ra_sI, x_ra_sr, h5, g_t41 hs1, hM1.hS, nI_leF (show j < S by omega) (show S < 2 ^ 31 by omega), if_false, if_true, ebv, hb, o3, e175, g_t41 hs2, g_r41_35 hs2, e180, g_a61 hs2, bix, e61, nI_leT (Nat.not_lt.mp hlt) (show most < 2 ^ 31 by omega), e3, nI_add]
        · obtain ⟨w4, c4, e4⟩ := ihn (j + 1) (by omega) w1 c1 hD most hmost dg u5 h5
          refine ⟨w4, c4, fun Q => ?_⟩
          rw [← e4 Q, X209_38]
          simp only [X209_40, X209_41, X209_44, X209_47, X209_48, X209_50, X209_51, X209_52, X209_53, X209_108, X209_111, Nat.zero_le, and_true, true_and, x_nb0, x_nb1, x_nbp, x_isL_int, x_isL_ref, x_isL_junk, x_isR_ref, x_cat_nil, x_cat_int, x_cat_ref, x_cat_long, Option.toList_some, Option.toList_none, List.cons_append, List.nil_append, Nat.reduceAdd, Nat.reduceLeDiff, Nat.reduceLT, t_tag_si, t_tag_sr, t_tag_sI, x_r_si, x_i_sr, t_r_sI, x_ia_si, x_ia_sI, x_ia_sr, x_ra_si, x_ra_sI, x_ra_sr, g_t41 hs1, hM1.hS, nI_leF (show j < S by omega) (show S < 2 ^ 31 by omega), if_false, ebv, hb, n10, nI_add]
    intro w1 c1 hD most hmost hlast dg
    refine ⟨?_, fun _ n j hj u5 h5 => loop n j hj w1 c1 hD most hmost dg u5 h5⟩
    have hM1 := h.chx c1
    have hs1 := hM1.sh
    obtain ⟨w2, c2, e2'⟩ := loop S 0 (by omega) w1 c1 hD most hmost dg x_junk rfl
    have e174 := fun (Q' : Option Value → x_W → Prop) => S174 (L := L) (xs := xs) (d := e2 + 2) (Q := Q') hs1 hM1.hS h6
    refine ⟨w2, c2, fun Q => ?_⟩
    rw [← e2' Q]
    simp only [X209_0, X209_1, X209_2, X209_5, X209_35, X209_36, Nat.zero_le, and_true, true_and, x_nb0, x_nb1, x_nbp, x_isL_int, x_isL_ref, x_isL_junk, x_isR_ref, x_cat_nil, x_cat_int, x_cat_ref, x_cat_long, Option.toList_some, Option.toList_none, List.cons_append, List.nil_append, Nat.reduceAdd, Nat.reduceLeDiff, Nat.reduceLT, t_tag_si, t_tag_sr, t_tag_sI, x_r_si, x_i_sr, t_r_sI, x_ia_si, x_ia_sI, x_ia_sr, x_ra_si, x_ra_sI, x_ra_sr, g_t41 hs1, e174, nI_eqF hnall (show m < 2 ^ 31 by omega) (show 2 ^ S - 1 < 2 ^ 31 by omega), if_false]
/-- not found yet: the first order is that by numbers -/
theorem S209N (h : CM w S kd td mo kt) (hS0 : 0 < S) : ∀ r j, j + r = S → ∀ e, e = d + r + 4 → ∀ w1, Ch smx w w1 → x_i w1 41 41 = -1 → ∀ most, most ≤ hdN w S kd td mo kt (2 ^ S - 1) → (j = S → hdN w S kd td mo kt (2 ^ S - 1) ≤ most) → ∃ w2, Ch smx w w2 ∧ x_i w2 41 41 = nI (hdN w S kd td mo kt (2 ^ S - 1)) ∧ x_i w2 41 40 = nI (dgN S) ∧ ∀ Q, X_R L xs e 209 0 [.ref 41, .int (nI (2 ^ j - 1)), .int (nI most), .int (nI (dgN j)), x_junk, x_junk] [] w1 Q = Q none w2 := by
  have h6 := h.S6
  have hp6 := pw_le h6
  have ebv : ∀ m q : Int32, m >>> (q &&& 31) &&& nI 1 = bv m q := fun _ _ => rfl
  have hD9 := hdN_le w S kd td mo kt (2 ^ S - 1)
  intro r
  induction r with
  | zero =>
    intro j hj e he w1 c1 hD most hmost hlast
    subst he
    obtain rfl : j = S := by omega
    have hM1 := h.chx c1
    have hs1 := hM1.sh
    obtain rfl : most = hdN w j kd td mo kt (2 ^ j - 1) := by have := hlast rfl; omega
    have e174 := fun (Q' : Option Value → x_W → Prop) => S174 (L := L) (xs := xs) (d := d + 0 + 3) (Q := Q') hs1 hM1.hS h6
    have cA : Ch smx w1 (x_si w1 41 41 (nI (hdN w j kd td mo kt (2 ^ j - 1)))) := Ch_si rfl
    have hsA := cA.sh hs1
    refine ⟨x_si (x_si w1 41 41 (nI (hdN w j kd td mo kt (2 ^ j - 1)))) 41 40 (nI (dgN j)), c1.trans (cA.trans (Ch_si rfl)), ?_, ?_, fun Q => ?_⟩
    · rw [x_i_si, upd_o (by decide), x_i_si, upd_s]
    · rw [x_i_si, upd_s]
    · simp only [X209_0, X209_1, X209_2, X209_5, X209_8, X209_9, X209_12, X209_13, X209_24, X209_25, X209_26, X209_29, X209_30, X209_31, X209_34, Nat.zero_le, and_true, true_and, x_nb0, x_nb1, x_nbp, x_isL_int, x_isL_ref, x_isL_junk, x_isR_ref, x_cat_nil, x_cat_int, x_cat_ref, x_cat_long, Option.toList_some, Option.toList_none, List.cons_append, List.nil_append, Nat.reduceAdd, Nat.reduceLeDiff, Nat.reduceLT, t_tag_si, t_tag_sr, t_tag_sI, x_r_si, x_i_sr, t_r_sI, x_ia_si, x_ia_sI, x_ia_sr, x_ra_si, x_ra_sI, x_ra_sr, g_t41 hs1, e174, if_true, hD, g_t41 hsA]
  | succ r ih =>
    intro j hj e he w1 c1 hD most hmost _
    obtain ⟨e', rfl⟩ : ∃ e', e = e' + 1 := ⟨d + r + 4, by omega⟩
    obtain ⟨e2, rfl⟩ : ∃ e2, e' = e2 + 2 := ⟨d + r + 2, by omega⟩
    have hM1 := h.chx c1
    have hs1 := hM1.sh
    have hj6 : 2 ^ j ≤ 64 := pw_le (by omega)
    have hjlt : 2 ^ j - 1 < 2 ^ S := by
      have := Nat.pow_le_pow_right (show 0 < 2 by decide) (show j ≤ S by omega)
      have := Nat.two_pow_pos j
      omega
    have hpcj : pcN (2 ^ j - 1) = j := (pc_all j (by omega) (2 ^ j - 1) (by omega) (by have := Nat.two_pow_pos j; omega)).mpr rfl
    have hnall : 2 ^ j - 1 ≠ 2 ^ S - 1 := fun q => by
      have h1 := (pc_all S h6 (2 ^ j - 1) (by omega) hjlt).mpr q
      omega
    have hbj := all_bits j (by omega) j (by omega)
    rw [if_neg (Nat.lt_irrefl _)] at hbj
    obtain ⟨o1, o2, o3⟩ := pc_or S h6 j (by omega) (2 ^ j - 1) (by omega) hjlt hbj
    rw [all_or j (by omega)] at o1 o2 o3
    obtain ⟨w2, c2, e175, e180, bix, e61⟩ := hangX (L := L) (xs := xs) (d := e2) hM1 (2 ^ (j + 1) - 1)
    rw [hdN_chx c1] at e61
    have hs2 := c2.sh hs1
    have hdm := hdN_mono w h6 kd td mo kt (2 ^ (j + 1) - 1)
    have c12 := c1.trans (smx_of c2)
    have hdg : dgN (j + 1) = 10 * dgN j + j + 1 := rfl
    have hmx : (if most < hdN w S kd td mo kt (2 ^ (j + 1) - 1) then hdN w S kd td mo kt (2 ^ (j + 1) - 1) else most) ≤ hdN w S kd td mo kt (2 ^ S - 1) := by split <;> omega
    obtain ⟨w3, c3, hD3, hG3, e3⟩ := ih (j + 1) (by omega) (e2 + 2) (by omega) w2 c12 (by rw [c2.2.2 41 41 rfl]; exact hD) (if most < hdN w S kd td mo kt (2 ^ (j + 1) - 1) then hdN w S kd td mo kt (2 ^ (j + 1) - 1) else most) hmx (fun q => by rw [← q]; split <;> omega)
    rw [hdg, ← nI_add, ← nI_add, ← nI_mul] at e3
    obtain ⟨_, hloop⟩ := S209F (L := L) (xs := xs) (d := d) h (r + 1) (2 ^ j - 1) hjlt (by omega) (e2 + 2 + 1) (by omega) w3 c3 hD3 most (by omega) (fun q => absurd q hnall) (nI (dgN j))
    obtain ⟨w4, c4, e4⟩ := hloop (by omega) (S - (j + 1)) (j + 1) (by omega) (.int (nI (hdN w S kd td mo kt (2 ^ (j + 1) - 1)))) rfl
    have e174 := fun (Q' : Option Value → x_W → Prop) => S174 (L := L) (xs := xs) (d := e2 + 2) (Q := Q') hs1 hM1.hS h6
    have skip : ∀ n s, s + n = j → ∀ Q, X_R L xs (e2 + 2 + 1) 209 38 [.ref 41, .int (nI (2 ^ j - 1)), .int (nI most), .int (nI (dgN j)), .int (nI s), x_junk] [] w1 Q = X_R L xs (e2 + 2 + 1) 209 38 [.ref 41, .int (nI (2 ^ j - 1)), .int (nI most), .int (nI (dgN j)), .int (nI j), x_junk] [] w1 Q := by
      intro n
      induction n with
      | zero => intro s hs Q; obtain rfl : s = j := by omega
                rfl
      | succ n ihn =>
        intro s hs Q
        have hbs := all_bits j (by omega) s (by omega)
        rw [if_pos (show s < j by omega)] at hbs
        rw [← ihn (s + 1) (by omega) Q, X209_38]
        simp only [X209_40, X209_41, X209_44, X209_47, X209_48, X209_50, X209_51, X209_52, X209_53, X209_108, X209_111, Nat.zero_le, and_true, true_and, x_nb0, x_nb1, x_nbp, x_isL_int, x_isL_ref, x_isL_junk, x_isR_ref, x_cat_nil, x_cat_int, x_cat_ref, x_cat_long, Option.toList_some, Option.toList_none, List.cons_append, List.nil_append, Nat.reduceAdd, Nat.reduceLeDiff, Nat.reduceLT, t_tag_si, t_tag_sr, t_tag_sI, x_r_si, x_i_sr, t_r_sI, x_ia_si, x_ia_sI, x_ia_sr, x_ra_si, x_ra_sI, x_ra_sr, g_t41 hs1, hM1.hS, nI_leF (show s < S by omega) (show S < 2 ^ 31 by omega), if_false, ebv, hbs, n10, nI_add]
    refine ⟨w4, c3.trans (smx_of c4), by rw [c4.2.2 41 41 rfl]; exact hD3, by rw [c4.2.2 41 40 rfl]; exact hG3, fun Q => ?_⟩
    have e0 : X_R L xs (e2 + 2 + 1) 209 0 [.ref 41, .int (nI (2 ^ j - 1)), .int (nI most), .int (nI (dgN j)), x_junk, x_junk] [] w1 Q = X_R L xs (e2 + 2 + 1) 209 38 [.ref 41, .int (nI (2 ^ j - 1)), .int (nI most), .int (nI (dgN j)), .int (nI 0), x_junk] [] w1 Q := by
      simp only [X209_0, X209_1, X209_2, X209_5, X209_35, X209_36, Nat.zero_le, and_true, true_and, x_nb0, x_nb1, x_nbp, x_isL_int, x_isL_ref, x_isL_junk, x_isR_ref, x_cat_nil, x_cat_int, x_cat_ref, x_cat_long, Option.toList_some, Option.toList_none, List.cons_append, List.nil_append, Nat.reduceAdd, Nat.reduceLeDiff, Nat.reduceLT, t_tag_si, t_tag_sr, t_tag_sI, x_r_si, x_i_sr, t_r_sI, x_ia_si, x_ia_sI, x_ia_sr, x_ra_si, x_ra_sI, x_ra_sr, g_t41 hs1, e174, nI_eqF hnall (show 2 ^ j - 1 < 2 ^ 31 by omega) (show 2 ^ S - 1 < 2 ^ 31 by omega), if_false]
    rw [e0, skip j 0 (by omega) Q, ← e4 Q, X209_38]
    by_cases hlt : most < hdN w S kd td mo kt (2 ^ (j + 1) - 1)
    · rw [if_pos hlt] at e3
      simp only [X209_40, X209_41, X209_44, X209_47, X209_48, X209_50, X209_51, X209_52, X209_53, X209_56, X209_57, X209_58, X209_59, X209_61, X209_62, X209_63, X209_66, X209_67, X209_70, X209_71, X209_74, X209_75, X209_77, X209_78, X209_79, X209_80, X209_82, X209_83, X209_84, X209_86, X209_87, X209_90, X209_92, X209_96, X209_98, X209_99, X209_100, X209_102, X209_103, X209_104, X209_105, X209_108, X209_111, Nat.zero_le, and_true, true_and, x_nb0, x_nb1, x_nbp, x_isL_int, x_isL_ref, x_isL_junk, x_isR_ref, x_cat_nil, x_cat_int, x_cat_ref, x_cat_long, Option.toList_some, Option.toList_none, List.cons_append, List.nil_append, Nat.reduceAdd, Nat.reduceLeDiff, Nat.reduceLT, t_tag_si, t_tag_sr, t_tag_sI, x_r_si, x_i_sr, t_r_sI, x_ia_si, x_ia_sI, x_ia_sr, x_ra_si, x_ra_sI, x_ra_sr, g_t41 hs1, hM1.hS, nI_leF (show j < S by omega) (show S < 2 ^ 31 by omega), if_false, if_true, ebv, hbj, o3, e175, g_t41 hs2, g_r41_35 hs2, e180, g_a61 hs2, bix, e61, nI_leF hlt (show hdN w S kd td mo kt (2 ^ (j + 1) - 1) < 2 ^ 31 by omega), e3]
      simp only [nI_add]
    · rw [if_neg hlt] at e3
      simp only [X209_40, X209_41, X209_44, X209_47, X209_48, X209_50, X209_51, X209_52, X209_53, X209_56, X209_57, X209_58, X209_59, X209_61, X209_62, X209_63, X209_66, X209_67, X209_70, X209_71, X209_74, X209_75, X209_77, X209_78, X209_79, X209_80, X209_82, X209_83, X209_84, X209_86, X209_87, X209_95, X209_96, X209_98, X209_99, X209_100, X209_102, X209_103, X209_104, X209_105, X209_108, X209_111, Nat.zero_le, and_true, true_and, x_nb0, x_nb1, x_nbp, x_isL_int, x_isL_ref, x_isL_junk, x_isR_ref, x_cat_nil, x_cat_int, x_cat_ref, x_cat_long, Option.toList_some, Option.toList_none, List.cons_append, List.nil_append, Nat.reduceAdd, Nat.reduceLeDiff, Nat.reduceLT, t_tag_si, t_tag_sr, t_tag_sI, x_r_si, x_i_sr, t_r_sI, x_ia_si, x_ia_sI, x_ia_sr, x_ra_si, x_ra_sI, x_ra_sr, g_t41 hs1, hM1.hS, nI_leF (show j < S by omega) (show S < 2 ^ 31 by omega), if_false, if_true, ebv, hbj, o3, e175, g_t41 hs2, g_r41_35 hs2, e180, g_a61 hs2, bix, e61, nI_leT (Nat.not_lt.mp hlt) (show most < 2 ^ 31 by omega), e3]
      simp only [nI_add]
/-- what may change in a question, with order's two fields -/
def scO (b k : Nat) : Bool := sc SA b k || (b == 41 && (k == 40 || k == 41))
def AQo (L : Nat) (xs : Nat → Int32) (d mx mm : Nat) (ax am : List Value) (w : x_W) : Prop := ∃ v w1 w', Ch scO w w' ∧ FarOk w' ∧ (∀ Q, X_R L xs d mx 0 ax [] w Q = Q (some v) w1) ∧ ∀ Q, X_R L xs d mm 0 am [] w1 Q = Q (some v) w'
theorem scO_of {w1 w2 : x_W} (h : ChA w1 w2) : Ch scO w1 w2 := h.mono fun b k hb => by
  unfold scO at hb
  rw [Bool.or_eq_false_iff] at hb
  exact hb.1
theorem scO_x {w1 w2 : x_W} (h : Ch smx w1 w2) : Ch scO w1 w2 := h.mono fun b k hb => by
  unfold scO at hb
  rw [Bool.or_eq_false_iff] at hb
  unfold smx
  rw [hb.2, Bool.or_false]
  have h1 := hb.1
  unfold sc at h1
  rw [Bool.or_eq_false_iff, Bool.or_eq_false_iff] at h1
  cases hq : [60, 61, 62].elem b with
  | false => rfl
  | true => exact absurd (elem_sub (m := SA) rfl b hq) (by rw [h1.1.1]; decide)
theorem AQ.o {mx mm : Nat} {ax am : List Value} (h : AQ L xs d mx mm ax am w) : AQo L xs d mx mm ax am w := by
  obtain ⟨v, w1, w2, c, hF, e1, e2⟩ := h
  exact ⟨v, w1, w2, scO_of c, hF, e1, e2⟩
theorem FarOk.x (h : FarOk w) (hc : Ch smx w w') : FarOk w' := h.of (hc.2.2 23 6 rfl) (hc.i (fun _ => rfl)) (hc.i (fun _ => rfl))
theorem S30d (h : CX w S kd td mo kt) (v : Int32) : ∀ n j, j + n = S → ∀ Q, X_R L xs (d + 12) 30 39 [.ref 0, .int v, .int (nI (dgN j)), .int (nI j)] [] w Q = Q (some (.int (nI (dgN S)))) w := by
  have h6 := h.S6
  have hs := h.sh
  intro n
  induction n with
  | zero =>
    intro j hj Q
    obtain rfl : j = S := by omega
    rw [X30_39]
    simp only [X30_40, X30_41, X30_44, X30_47, X30_65, X30_66, Nat.zero_le, and_true, true_and, x_nb0, x_nb1, x_nbp, x_isL_int, x_isL_ref, x_isL_junk, x_isR_ref, x_cat_nil, x_cat_int, x_cat_ref, x_cat_long, Option.toList_some, Option.toList_none, List.cons_append, List.nil_append, Nat.reduceAdd, Nat.reduceLeDiff, Nat.reduceLT, t_tag_si, t_tag_sr, t_tag_sI, x_r_si, x_i_sr, t_r_sI, x_ia_si, x_ia_sI, x_ia_sr, x_ra_si, x_ra_sI, x_ra_sr, g_t0 hs, g_r0_4 hs, g_t22 hs, h.hS, nI_leT (Nat.le_refl j) (show j < 2 ^ 31 by omega), if_true]
  | succ n ih =>
    intro j hj Q
    have hdg : dgN (j + 1) = 10 * dgN j + j + 1 := rfl
    rw [← ih (j + 1) (by omega) Q, X30_39, hdg]
    simp only [X30_40, X30_41, X30_44, X30_47, X30_50, X30_52, X30_53, X30_54, X30_55, X30_56, X30_57, X30_58, X30_59, X30_62, Nat.zero_le, and_true, true_and, x_nb0, x_nb1, x_nbp, x_isL_int, x_isL_ref, x_isL_junk, x_isR_ref, x_cat_nil, x_cat_int, x_cat_ref, x_cat_long, Option.toList_some, Option.toList_none, List.cons_append, List.nil_append, Nat.reduceAdd, Nat.reduceLeDiff, Nat.reduceLT, t_tag_si, t_tag_sr, t_tag_sI, x_r_si, x_i_sr, t_r_sI, x_ia_si, x_ia_sI, x_ia_sr, x_ra_si, x_ra_sI, x_ra_sr, g_t0 hs, g_r0_4 hs, g_t22 hs, h.hS, nI_leF (show j < S by omega) (show S < 2 ^ 31 by omega), if_false, nI_mul, nI_add]
theorem b4_t {v : Int32} {Q : Option Value → x_W → Prop} (h : v = nI 0 ∨ v = nI 1) : X_R L xs d 4 0 [.int v] [] w Q = Q (some (.int (nI 1))) w := by rw [S4, bI_t h]
theorem b138_t {v : Int32} {Q : Option Value → x_W → Prop} (h : v = nI 0 ∨ v = nI 1) : X_R L xs d 138 0 [.int v, .int (nI 0), .int (nI 1)] [] w Q = Q (some (.int (nI 1))) w := by rw [S138, bI_t (by rw [in01]; exact h)]
theorem AQ_order (h : AG w S kd td mo kt tl tk) (v : Int32) : AQo L xs (d + 12) 30 208 [.ref 0, .int v, x_junk, x_junk] [.ref 41, .int v] w := by
  have hs := h.1.sh
  have h6 := h.1.1.S6
  have h01 : bI (nI 0 ≤ v ∧ v ≤ nI 1) = bI (v = nI 0 ∨ v = nI 1) := bI_c (by rw [in01])
  by_cases h2 : v = nI 0 ∨ v = nI 1
  · have e4 := fun (w : x_W) (Q' : Option Value → x_W → Prop) => b4_t (L := L) (xs := xs) (d := d + 11) (w := w) (Q := Q') h2
    have e138 := fun (w : x_W) (Q' : Option Value → x_W → Prop) => b138_t (L := L) (xs := xs) (d := d + 11) (w := w) (Q := Q') h2
    -- the reference
    have hmod : ∀ w1, ChA w w1 → FarOk w1 → ∃ w2, Ch scO w1 w2 ∧ FarOk w2 ∧ ∀ Q, X_R L xs (d + 12) 208 0 [.ref 41, .int v] [] w1 Q = Q (some (.int (if S = 0 then nI 0 else if v = nI 0 then nI (dgN S) else nI (hdN w S kd td mo kt (2 ^ S - 1))))) w2 := by
      intro w1 c1 hF1
      have hM1 := (h.2.1.ch c1).1
      have hs1 := hM1.sh
      have cA : Ch smx w1 (x_si (x_si w1 41 41 (-1)) 41 40 (nI 0)) := (Ch_si rfl).trans (Ch_si rfl)
      have hA41 : x_i (x_si (x_si w1 41 41 (-1)) 41 40 (nI 0)) 41 41 = -1 := by rw [x_i_si, upd_o (by decide), x_i_si, upd_s]
      have hsB : Sh (x_si w1 41 41 (-1)) := hs1
      have ehd : hdN w1 S kd td mo kt (2 ^ S - 1) = hdN w S kd td mo kt (2 ^ S - 1) := by
        unfold hdN MD
        rw [EM.C c1, c1.2.2 41 1 rfl]
      by_cases hS0 : S = 0
      · subst hS0
        rw [if_pos rfl]
        generalize hwA : x_si (x_si w1 41 41 (-1)) 41 40 (nI 0) = wA at cA hA41
        have hMA := hM1.chx cA
        have hsA := hMA.sh
        have e174 := fun (Q' : Option Value → x_W → Prop) => S174 (L := L) (xs := xs) (d := d + 10) (Q := Q') hsA hMA.hS h6
        have cB : Ch smx wA (x_si wA 41 41 (nI 0)) := Ch_si rfl
        have hsC := cB.sh hsA
        have cC : Ch smx w1 (x_si (x_si wA 41 41 (nI 0)) 41 40 (nI 0)) := cA.trans (cB.trans (Ch_si rfl))
        have hs0' := cC.sh hs1
        have h40 : x_i (x_si (x_si wA 41 41 (nI 0)) 41 40 (nI 0)) 41 40 = nI 0 := by rw [x_i_si, upd_s]
        have h41 : x_i (x_si (x_si wA 41 41 (nI 0)) 41 40 (nI 0)) 41 41 = nI 0 := by rw [x_i_si, upd_o (by decide), x_i_si, upd_s]
        refine ⟨_, scO_x cC, hF1.x cC, fun Q => ?_⟩
        have e20 : nI (2 ^ 0 - 1) = nI 0 := rfl
        rw [e20] at e174
        by_cases hv : v = nI 0
        · simp only [X208_0, X208_1, X208_2, X208_3, X208_6, X208_9, X208_11, X208_12, X208_13, X208_14, X208_17, X208_18, X208_19, X208_22, X208_23, X208_24, X208_25, X208_26, X208_29, X208_30, X208_33, X208_34, X208_37, X208_40, X208_41, X208_44, Nat.zero_le, and_true, true_and, x_nb0, x_nb1, x_nbp, x_isL_int, x_isL_ref, x_isL_junk, x_isR_ref, x_cat_nil, x_cat_int, x_cat_ref, x_cat_long, Option.toList_some, Option.toList_none, List.cons_append, List.nil_append, Nat.reduceAdd, Nat.reduceLeDiff, Nat.reduceLT, t_tag_si, t_tag_sr, t_tag_sI, x_r_si, x_i_sr, t_r_sI, x_ia_si, x_ia_sI, x_ia_sr, x_ra_si, x_ra_sI, x_ra_sr, g_t41 hs1, e138, n10, if_false, g_t41 hsB, hwA, X209_0, X209_1, X209_2, X209_5, X209_8, X209_9, X209_12, X209_13, X209_24, X209_25, X209_26, X209_29, X209_30, X209_31, X209_34, g_t41 hsA, e174, if_true, hA41, g_t41 hsC, eq_true hv, g_t41 hs0', h40]
        · simp only [X208_0, X208_1, X208_2, X208_3, X208_6, X208_9, X208_11, X208_12, X208_13, X208_14, X208_17, X208_18, X208_19, X208_22, X208_23, X208_24, X208_25, X208_26, X208_29, X208_30, X208_33, X208_34, X208_37, X208_40, X208_41, X208_44, Nat.zero_le, and_true, true_and, x_nb0, x_nb1, x_nbp, x_isL_int, x_isL_ref, x_isL_junk, x_isR_ref, x_cat_nil, x_cat_int, x_cat_ref, x_cat_long, Option.toList_some, Option.toList_none, List.cons_append, List.nil_append, Nat.reduceAdd, Nat.reduceLeDiff, Nat.reduceLT, t_tag_si, t_tag_sr, t_tag_sI, x_r_si, x_i_sr, t_r_sI, x_ia_si, x_ia_sI, x_ia_sr, x_ra_si, x_ra_sI, x_ra_sr, g_t41 hs1, e138, n10, if_false, g_t41 hsB, hwA, X209_0, X209_1, X209_2, X209_5, X209_8, X209_9, X209_12, X209_13, X209_24, X209_25, X209_26, X209_29, X209_30, X209_31, X209_34, g_t41 hsA, e174, if_true, hA41, g_t41 hsC, hv, g_t41 hs0', h41]
      · rw [if_neg hS0]
        obtain ⟨w2, c2, hD2, hG2, e2⟩ := S209N (L := L) (xs := xs) (d := d + 11 - S - 4) hM1 (by omega) S 0 (by omega) (d + 11) (by omega) (x_si (x_si w1 41 41 (-1)) 41 40 (nI 0)) cA hA41 0 (Nat.zero_le _) (fun q => absurd q.symm hS0)
        have e20 : nI (2 ^ 0 - 1) = nI 0 := rfl
        have ed0 : nI (dgN 0) = nI 0 := rfl
        rw [e20, ed0] at e2
        rw [ehd] at hD2
        have hs2 := c2.sh hs1
        refine ⟨w2, scO_x c2, hF1.x c2, fun Q => ?_⟩
        by_cases hv : v = nI 0
        · simp only [X208_0, X208_1, X208_2, X208_3, X208_6, X208_9, X208_11, X208_12, X208_13, X208_14, X208_17, X208_18, X208_19, X208_22, X208_23, X208_24, X208_25, X208_26, X208_29, X208_30, X208_33, X208_34, X208_37, X208_40, X208_41, X208_44, Nat.zero_le, and_true, true_and, x_nb0, x_nb1, x_nbp, x_isL_int, x_isL_ref, x_isL_junk, x_isR_ref, x_cat_nil, x_cat_int, x_cat_ref, x_cat_long, Option.toList_some, Option.toList_none, List.cons_append, List.nil_append, Nat.reduceAdd, Nat.reduceLeDiff, Nat.reduceLT, t_tag_si, t_tag_sr, t_tag_sI, x_r_si, x_i_sr, t_r_sI, x_ia_si, x_ia_sI, x_ia_sr, x_ra_si, x_ra_sI, x_ra_sr, g_t41 hs1, e138, n10, if_false, g_t41 hsB, g_t41 (cA.sh hs1), e2, eq_true hv, if_true, g_t41 hs2, hG2]
        · simp only [X208_0, X208_1, X208_2, X208_3, X208_6, X208_9, X208_11, X208_12, X208_13, X208_14, X208_17, X208_18, X208_19, X208_22, X208_23, X208_24, X208_25, X208_26, X208_29, X208_30, X208_33, X208_34, X208_37, X208_40, X208_41, X208_44, Nat.zero_le, and_true, true_and, x_nb0, x_nb1, x_nbp, x_isL_int, x_isL_ref, x_isL_junk, x_isR_ref, x_cat_nil, x_cat_int, x_cat_ref, x_cat_long, Option.toList_some, Option.toList_none, List.cons_append, List.nil_append, Nat.reduceAdd, Nat.reduceLeDiff, Nat.reduceLT, t_tag_si, t_tag_sr, t_tag_sI, x_r_si, x_i_sr, t_r_sI, x_ia_si, x_ia_sI, x_ia_sr, x_ra_si, x_ra_sI, x_ra_sr, g_t41 hs1, e138, n10, if_false, g_t41 hsB, g_t41 (cA.sh hs1), e2, hv, g_t41 hs2, hD2]
    by_cases hS0 : S = 0
    · obtain ⟨w2, c2, hF2, e2⟩ := hmod w Ch.refl h.1.2.2
      rw [if_pos hS0] at e2
      have h4 := h.1.1.hS
      rw [hS0] at h4
      refine ⟨.int (nI 0), w, w2, c2, hF2, fun Q => ?_, e2⟩
      simp only [X30_0, X30_1, X30_4, X30_10, X30_11, X30_14, X30_17, X30_20, X30_21, Nat.zero_le, and_true, true_and, x_nb0, x_nb1, x_nbp, x_isL_int, x_isL_ref, x_isL_junk, x_isR_ref, x_cat_nil, x_cat_int, x_cat_ref, x_cat_long, Option.toList_some, Option.toList_none, List.cons_append, List.nil_append, Nat.reduceAdd, Nat.reduceLeDiff, Nat.reduceLT, t_tag_si, t_tag_sr, t_tag_sI, x_r_si, x_i_sr, t_r_sI, x_ia_si, x_ia_sI, x_ia_sr, x_ra_si, x_ra_sI, x_ra_sr, e4, n10, if_false, g_t0 hs, g_r0_4 hs, g_t22 hs, h4, if_true]
    · have h4 := h.1.1.hS
      have hSn : ¬ nI S = nI 0 := fun q => hS0 ((nI_eq (show S < 2 ^ 31 by omega) (by decide)).mp q)
      by_cases hv1 : v = nI 1
      · have e73 := fun (Q' : Option Value → x_W → Prop) => S73 (L := L) (xs := xs) (d := d + 7) (Q := Q') h.1.1
        have c1 : ChA w (WXs w (XL S kd td mo kt)) := (Ch_WX).ma rfl
        have hF1 : FarOk (WXs w (XL S kd td mo kt)) := h.1.2.2.m (Ch_WX) rfl rfl rfl
        obtain ⟨w2, c2, hF2, e2⟩ := hmod _ c1 hF1
        rw [if_neg hS0, if_neg (by rw [hv1]; decide)] at e2
        refine ⟨.int (nI (hdN w S kd td mo kt (2 ^ S - 1))), _, w2, (scO_of c1).trans c2, hF2, fun Q => ?_, e2⟩
        have ehd : hdN w S kd td mo kt (2 ^ S - 1) = XD w (XL S kd td mo kt) 12 (bestN (XD w (XL S kd td mo kt) 12) 19) := by
          unfold hdN
          rw [ML_all h6]
          exact (bestV_eq h.2.2.1 _).symm
        rw [ehd]
        simp only [X30_0, X30_1, X30_4, X30_10, X30_11, X30_14, X30_17, X30_22, X30_23, X30_24, X30_27, X30_28, X30_31, X30_34, Nat.zero_le, and_true, true_and, x_nb0, x_nb1, x_nbp, x_isL_int, x_isL_ref, x_isL_junk, x_isR_ref, x_cat_nil, x_cat_int, x_cat_ref, x_cat_long, Option.toList_some, Option.toList_none, List.cons_append, List.nil_append, Nat.reduceAdd, Nat.reduceLeDiff, Nat.reduceLT, t_tag_si, t_tag_sr, t_tag_sI, x_r_si, x_i_sr, t_r_sI, x_ia_si, x_ia_sI, x_ia_sr, x_ra_si, x_ra_sI, x_ra_sr, e4, n10, if_false, g_t0 hs, g_r0_4 hs, g_t22 hs, h4, hSn, eq_true hv1, if_true, e73]
      · have hv0 := h2.resolve_right hv1
        obtain ⟨w2, c2, hF2, e2⟩ := hmod w Ch.refl h.1.2.2
        rw [if_neg hS0, if_pos hv0] at e2
        refine ⟨.int (nI (dgN S)), w, w2, c2, hF2, fun Q => ?_, e2⟩
        have e0 : X_R L xs (d + 12) 30 0 [.ref 0, .int v, x_junk, x_junk] [] w Q = X_R L xs (d + 12) 30 39 [.ref 0, .int v, .int (nI (dgN 0)), .int (nI 0)] [] w Q := by
          simp only [X30_0, X30_1, X30_4, X30_10, X30_11, X30_14, X30_17, X30_22, X30_23, X30_24, X30_35, X30_36, X30_37, X30_38, Nat.zero_le, and_true, true_and, x_nb0, x_nb1, x_nbp, x_isL_int, x_isL_ref, x_isL_junk, x_isR_ref, x_cat_nil, x_cat_int, x_cat_ref, x_cat_long, Option.toList_some, Option.toList_none, List.cons_append, List.nil_append, Nat.reduceAdd, Nat.reduceLeDiff, Nat.reduceLT, t_tag_si, t_tag_sr, t_tag_sI, x_r_si, x_i_sr, t_r_sI, x_ia_si, x_ia_sI, x_ia_sr, x_ra_si, x_ra_sI, x_ra_sr, e4, n10, if_false, g_t0 hs, g_r0_4 hs, g_t22 hs, h4, hSn, hv1]
          rfl
        rw [e0, S30d h.1.1 v S 0 (by omega) Q]
  · refine (AQ_no (v := .int (-2)) h.1.2.2 (fun Q => ?_) (fun Q => ?_)).o
    · simp only [X30_0, X30_1, X30_4, X30_7, X30_9, Nat.zero_le, and_true, true_and, x_nb0, x_nb1, x_nbp, x_isL_int, x_isL_ref, x_isL_junk, x_isR_ref, x_cat_nil, x_cat_int, x_cat_ref, x_cat_long, Option.toList_some, Option.toList_none, List.cons_append, List.nil_append, Nat.reduceAdd, Nat.reduceLeDiff, Nat.reduceLT, t_tag_si, t_tag_sr, t_tag_sI, x_r_si, x_i_sr, t_r_sI, x_ia_si, x_ia_sI, x_ia_sr, x_ra_si, x_ra_sI, x_ra_sr, S4, bI_f h2, if_true]
    · simp only [X208_0, X208_1, X208_2, X208_3, X208_6, X208_9, X208_11, Nat.zero_le, and_true, true_and, x_nb0, x_nb1, x_nbp, x_isL_int, x_isL_ref, x_isL_junk, x_isR_ref, x_cat_nil, x_cat_int, x_cat_ref, x_cat_long, Option.toList_some, Option.toList_none, List.cons_append, List.nil_append, Nat.reduceAdd, Nat.reduceLeDiff, Nat.reduceLT, t_tag_si, t_tag_sr, t_tag_sI, x_r_si, x_i_sr, t_r_sI, x_ia_si, x_ia_sI, x_ia_sr, x_ra_si, x_ra_sI, x_ra_sr, S138, h01, bI_f h2, if_true]
end S92
