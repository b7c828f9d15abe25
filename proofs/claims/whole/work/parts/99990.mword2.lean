/-! ===== the reference's words: which one ===== -/
theorem fl_all (b : Nat → Nat) (s e q : Nat) : ∀ k, fl b s e q k = true ↔ (e - s ≤ 8 ∧ ∀ i, i < k → wdC q i = mC b s e i) := by
  intro k
  induction k with
  | zero =>
    show decide (e - s ≤ 8) = true ↔ _
    rw [decide_eq_true_eq]
    exact ⟨fun h => ⟨h, fun i hi => absurd hi (Nat.not_lt_zero i)⟩, fun h => h.1⟩
  | succ k ih =>
    show (fl b s e q k && (wdC q k == mC b s e k)) = true ↔ _
    rw [Bool.and_eq_true, ih, beq_iff_eq]
    constructor
    · rintro ⟨⟨h1, h2⟩, h3⟩
      refine ⟨h1, fun i hi => ?_⟩
      by_cases hik : i = k
      · rw [hik]; exact h3
      · exact h2 i (by omega)
    · rintro ⟨h1, h2⟩
      exact ⟨⟨h1, fun i hi => h2 i (by omega)⟩, h2 k (by omega)⟩
theorem wd32 : ∀ q, q < 12 → ∀ i, i < 8 → (wdC q i = 32 ↔ wl q ≤ i) := by decide +kernel
theorem fl_iff {b : Nat → Nat} {s e q : Nat} (hL : ∀ j, s ≤ j → j < e → b j ≠ 32) (hse : s ≤ e) (hq : q < 12) : fl b s e q 8 = true ↔ wdE b s e q = true := by
  have h6 := (wd_s q hq).2.2.1
  rw [fl_all, wdE_iff]
  constructor
  · rintro ⟨h1, h2⟩
    have k1 : ∀ i, i < 8 → (wl q ≤ i ↔ e - s ≤ i) := by
      intro i hi
      rw [← wd32 q hq i hi, h2 i hi]
      unfold mC
      by_cases h : s + i < e
      · rw [if_pos h]
        exact ⟨fun z => absurd z (hL (s + i) (by omega) h), fun z => by omega⟩
      · rw [if_neg h]
        exact ⟨fun _ => by omega, fun _ => rfl⟩
    have k2 := (k1 (wl q) (by omega)).mp (Nat.le_refl _)
    have k3 := (k1 (e - s) (by omega)).mpr (Nat.le_refl _)
    refine ⟨by omega, fun i hi => ?_⟩
    have k4 := h2 i (by omega)
    unfold mC at k4
    rw [if_pos (by omega)] at k4
    exact k4.symm
  · rintro ⟨h1, h2⟩
    refine ⟨by omega, fun i hi => ?_⟩
    unfold mC
    by_cases h : s + i < e
    · rw [if_pos h]
      exact (h2 i (by omega)).symm
    · rw [if_neg h]
      exact (wd32 q hq i hi).mpr (by omega)
def wdG (b : Nat → Nat) (s e : Nat) : Nat → Nat → Nat
  | 0, _ => 12
  | m + 1, r => if wdE b s e (mqi r) = true then r else wdG b s e m (r + 1)
section S99990
variable {L : Nat} {xs : Nat → Int32} {b : Nat → Nat} {n : Nat} {d : Nat} {w : x_W}
theorem S142l (hs : Sh w) (hT : TPm w b n) {s e : Nat} (hL : ∀ j, s ≤ j → j < e → b j ≠ 32) (hse : s ≤ e) (he : e ≤ n) {Q : Option Value → x_W → Prop} : ∀ m r, r + m = 12 → ∀ v4 v5, X_R L xs d 142 2 [.ref 41, .int (nI s), .int (nI e), .int (nI r), v4, v5] [] w Q = Q (some (.int (nI (wdG b s e m r)))) w := by
  have h160 := hT.1
  intro m
  induction m with
  | zero =>
    intro r hr v4 v5
    obtain rfl : r = 12 := by omega
    rw [X142_2]
    simp only [X142_3, X142_5, X142_101, X142_103, Nat.zero_le, and_true, true_and, x_nb0, x_nb1, x_nbp, x_isL_int, x_isL_ref, x_isL_junk, x_isR_ref, x_cat_nil, x_cat_int, x_cat_ref, x_cat_long, Option.toList_some, Option.toList_none, List.cons_append, List.nil_append, Nat.reduceAdd, Nat.reduceLeDiff, Nat.reduceLT, t_tag_si, t_tag_sr, t_tag_sI, x_r_si, x_i_sr, t_r_sI, x_ia_si, x_ia_sI, x_ia_sr, x_ra_si, x_ra_sI, x_ra_sr, nI_leT (Nat.le_refl 12) (show 12 < 2 ^ 31 by decide), if_true]
    rfl
  | succ m ih =>
    intro r hr v4 v5
    have l12 : (nI 12 ≤ nI r) = False := nI_leF (show r < 12 by omega) (by decide)
    have hfi := fl_iff hL hse (mqi_lt r (by omega))
    unfold wdG
    rw [X142_2]
    by_cases h8 : e - s ≤ 8
    · obtain ⟨v, hv⟩ := S142i (L := L) (xs := xs) (d := d) hs hT (show r < 12 by omega) hse he 8 0 rfl (decide_eq_true h8)
      by_cases hE : wdE b s e (mqi r) = true
      · rw [if_pos hE]
        rw [bI_t (hfi.mpr hE)] at hv
        simp only [X142_3, X142_5, X142_8, X142_9, X142_10, X142_11, X142_13, X142_16, X142_17, X142_21, X142_23, X142_24, Nat.zero_le, and_true, true_and, x_nb0, x_nb1, x_nbp, x_isL_int, x_isL_ref, x_isL_junk, x_isR_ref, x_cat_nil, x_cat_int, x_cat_ref, x_cat_long, Option.toList_some, Option.toList_none, List.cons_append, List.nil_append, Nat.reduceAdd, Nat.reduceLeDiff, Nat.reduceLT, t_tag_si, t_tag_sr, t_tag_sI, x_r_si, x_i_sr, t_r_sI, x_ia_si, x_ia_sI, x_ia_sr, x_ra_si, x_ra_sI, x_ra_sr, l12, if_false, nI_sub hse, nI_leT h8 (show 8 < 2 ^ 31 by decide), nI_ltF h8 (show 8 < 2 ^ 31 by decide), if_true, hv, X142_88, X142_90, X142_93, X142_94, n10]
      · rw [if_neg hE, ← ih (r + 1) (by omega) (.int (nI 0)) (.int v)]
        rw [bI_f (fun z => hE (hfi.mp z))] at hv
        simp only [X142_3, X142_5, X142_8, X142_9, X142_10, X142_11, X142_13, X142_16, X142_17, X142_21, X142_23, X142_24, Nat.zero_le, and_true, true_and, x_nb0, x_nb1, x_nbp, x_isL_int, x_isL_ref, x_isL_junk, x_isR_ref, x_cat_nil, x_cat_int, x_cat_ref, x_cat_long, Option.toList_some, Option.toList_none, List.cons_append, List.nil_append, Nat.reduceAdd, Nat.reduceLeDiff, Nat.reduceLT, t_tag_si, t_tag_sr, t_tag_sI, x_r_si, x_i_sr, t_r_sI, x_ia_si, x_ia_sI, x_ia_sr, x_ra_si, x_ra_sI, x_ra_sr, l12, if_false, nI_sub hse, nI_leT h8 (show 8 < 2 ^ 31 by decide), nI_ltF h8 (show 8 < 2 ^ 31 by decide), if_true, hv, X142_88, X142_90, X142_95, X142_98, nI_add]
    · have hE : ¬ wdE b s e (mqi r) = true := fun z => h8 (by have := ((fl_all b s e (mqi r) 8).mp (hfi.mpr z)).1; exact this)
      rw [if_neg hE, ← ih (r + 1) (by omega) (.int (nI 0)) (.int (nI 0))]
      simp only [X142_3, X142_5, X142_8, X142_9, X142_10, X142_11, X142_13, X142_20, X142_21, X142_23, X142_24, Nat.zero_le, and_true, true_and, x_nb0, x_nb1, x_nbp, x_isL_int, x_isL_ref, x_isL_junk, x_isR_ref, x_cat_nil, x_cat_int, x_cat_ref, x_cat_long, Option.toList_some, Option.toList_none, List.cons_append, List.nil_append, Nat.reduceAdd, Nat.reduceLeDiff, Nat.reduceLT, t_tag_si, t_tag_sr, t_tag_sI, x_r_si, x_i_sr, t_r_sI, x_ia_si, x_ia_sI, x_ia_sr, x_ra_si, x_ra_sI, x_ra_sr, l12, if_false, nI_sub hse, nI_leF (show 8 < e - s by omega) (show e - s < 2 ^ 31 by omega), nI_ltT (show 8 < e - s by omega) (show e - s < 2 ^ 31 by omega), if_true]
      rw [X142_26]
      simp only [X142_28, X142_30, X142_33, X142_35, X142_88, X142_90, X142_95, X142_98, Nat.zero_le, and_true, true_and, x_nb0, x_nb1, x_nbp, x_isL_int, x_isL_ref, x_isL_junk, x_isR_ref, x_cat_nil, x_cat_int, x_cat_ref, x_cat_long, Option.toList_some, Option.toList_none, List.cons_append, List.nil_append, Nat.reduceAdd, Nat.reduceLeDiff, Nat.reduceLT, t_tag_si, t_tag_sr, t_tag_sI, x_r_si, x_i_sr, t_r_sI, x_ia_si, x_ia_sI, x_ia_sr, x_ra_si, x_ra_sI, x_ra_sr, nI_leF (show 0 < 8 by decide) (by decide), if_false, if_true, nI_add]
end S99990
