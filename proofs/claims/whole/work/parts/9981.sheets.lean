/-! ===== sheets: sheet, cell, film ===== -/
def x_seg (b n : Nat) (h g : Nat → Int32) : Nat → Int32 := fun q => if b ≤ q ∧ q < b + n then h (q - b) else g q
theorem x_seg_0 (b : Nat) (h g : Nat → Int32) : x_seg b 0 h g = g := by
  funext q
  unfold x_seg
  rw [if_neg (by omega)]
theorem x_seg_s (b n : Nat) (h g : Nat → Int32) : upd (x_seg b n h g) (b + n) (h n) = x_seg b (n + 1) h g := by
  funext q
  unfold upd x_seg
  by_cases hq : q = b + n
  · subst hq
    rw [if_pos rfl, if_pos (by omega), Nat.add_sub_cancel_left]
  · rw [if_neg hq]
    by_cases h2 : b ≤ q ∧ q < b + n
    · rw [if_pos h2, if_pos (by omega)]
    · rw [if_neg h2, if_neg (by omega)]
theorem x_seg_in {b n k : Nat} {h g : Nat → Int32} (hk : k < n) : x_seg b n h g (b + k) = h k := by
  unfold x_seg
  rw [if_pos (by omega), Nat.add_sub_cancel_left]
theorem x_seg_out {b n q : Nat} {h g : Nat → Int32} (hq : q < b ∨ b + n ≤ q) : x_seg b n h g q = g q := by
  unfold x_seg
  rw [if_neg (by omega)]
def updF (f : Nat → Int32) (s : Nat) (v : Int32) : Nat → Int32 := fun j => if j = s then v else f j
theorem updF_s {f : Nat → Int32} {s : Nat} {v : Int32} : updF f s v s = v := if_pos rfl
theorem updF_o {f : Nat → Int32} {s j : Nat} {v : Int32} (h : j ≠ s) : updF f s v j = f j := if_neg h
/-- what a sheet's cell holds, by its sort -/
def nrI (so v : Int32) : Int32 := if so = nI 0 then v.toInt8.toInt32 else if so = nI 1 then v.toInt16.toInt32 else v
def shW (w : x_W) (s : Nat) (v n : Int32) : x_W := x_sI (x_si (x_si w (14 + 2 * s) 0 v) (14 + 2 * s) 1 n) (15 + 2 * s) (x_fn 40 (fun _ => nI 0) (x_i w (15 + 2 * s)))
def pH : Nat → Nat → Bool := gp [14, 15, 16, 17, 18, 19, 20, 21, 52, 53, 54] []
theorem pH_s : ∀ s, s < 4 → ∀ k, pH (14 + 2 * s) k = true ∧ pH (15 + 2 * s) k = true := four ⟨fun _ => ⟨rfl, rfl⟩, fun _ => ⟨rfl, rfl⟩, fun _ => ⟨rfl, rfl⟩, fun _ => ⟨rfl, rfl⟩⟩
theorem KA_H : KA pH := ⟨⟨rfl, rfl, rfl, rfl, rfl, rfl, rfl, rfl⟩, fun _ => ⟨rfl, rfl, rfl, rfl, rfl, rfl, rfl, rfl, rfl⟩, six ⟨fun _ => rfl, fun _ => rfl, fun _ => rfl, fun _ => rfl, fun _ => rfl, fun _ => rfl⟩, KL_gp rfl rfl⟩
section S9981
variable {L : Nat} {xs : Nat → Int32} {d : Nat} {w w' : x_W} {S nt r : Nat} {kd td mo kt : Nat → Nat} {tls : Nat → Nat → Nat} {tks : Nat → Nat → Nat → Nat} {so : Nat → Int32} {sz : Nat → Nat}
theorem Ch_shW {s : Nat} (h4 : s < 4) {v n : Int32} : Ch pH w (shW w s v n) := (Ch_si (pH_s s h4 0).1).trans ((Ch_si (pH_s s h4 1).1).trans (Ch_sI (fun k => (pH_s s h4 k).2)))
theorem shW_i {s : Nat} {v n : Int32} : x_i (shW w s v n) (14 + 2 * s) 0 = v ∧ x_i (shW w s v n) (14 + 2 * s) 1 = n ∧ x_i (shW w s v n) (15 + 2 * s) = x_fn 40 (fun _ => nI 0) (x_i w (15 + 2 * s)) ∧ ∀ b, b ≠ 14 + 2 * s → b ≠ 15 + 2 * s → x_i (shW w s v n) b = x_i w b := by
  unfold shW
  refine ⟨?_, ?_, x_i_sI _ _ _, fun b h1 h2 => ?_⟩
  · rw [x_i_sIn _ _ _ (by omega), x_i_si, upd_o (by decide), x_i_si, upd_s]
  · rw [x_i_sIn _ _ _ (by omega), x_i_si, upd_s]
  · rw [x_i_sIn _ _ _ h2, x_i_sin _ _ _ _ h1, x_i_sin _ _ _ _ h1]
theorem S101 (hs : Sh w) {s : Nat} (h4 : s < 4) {v n : Int32} {Q : Option Value → x_W → Prop} : X_R L xs (d + 1) 101 0 [.ref (14 + 2 * s), .int v, .int n] [] w Q = Q none (shW w s v n) := by
  obtain ⟨r1, r2, r3, r4⟩ := g_sh hs s h4
  have t15 : x_tag w (15 + 2 * s) = some (1, 40) := four (p := fun s => x_tag w (15 + 2 * s) = some (1, 40)) ⟨g_t15 hs, g_t17 hs, g_t19 hs, g_t21 hs⟩ s h4
  have e244 := fun (Q' : Option Value → x_W → Prop) => S244 (L := L) (xs := xs) (d := d) (Q := Q') (w := x_si (x_si w (14 + 2 * s) 0 v) (14 + 2 * s) 1 n) (a := 15 + 2 * s) (n := 40) (v := nI 0) t15 (by omega) (by decide)
  have e15 : x_i (x_si (x_si w (14 + 2 * s) 0 v) (14 + 2 * s) 1 n) (15 + 2 * s) = x_i w (15 + 2 * s) := by rw [x_i_sin _ _ _ _ (by omega), x_i_sin _ _ _ _ (by omega)]
  rw [e15] at e244
  simp only [X101_0, X101_1, X101_2, X101_5, X101_6, X101_7, X101_10, X101_11, X101_14, X101_15, X101_18, Nat.zero_le, and_true, true_and, x_nb0, x_nb1, x_nbp, x_isL_int, x_isL_ref, x_isL_junk, x_isR_ref, x_cat_nil, x_cat_int, x_cat_ref, x_cat_long, Option.toList_some, Option.toList_none, List.cons_append, List.nil_append, Nat.reduceAdd, Nat.reduceLeDiff, Nat.reduceLT, t_tag_si, t_tag_sr, t_tag_sI, x_r_si, x_i_sr, t_r_sI, x_ia_si, x_ia_sI, x_ia_sr, x_ra_si, x_ra_sI, x_ra_sr, r2, r3, e244]
  rfl
theorem S102 (hs : Sh w) {s : Nat} (h4 : s < 4) {i : Nat} (hi : i < 40) {v : Int32} {Q : Option Value → x_W → Prop} : X_R L xs d 102 0 [.ref (14 + 2 * s), .int (nI i), .int v] [] w Q = Q none (x_si w (15 + 2 * s) i (nrI (x_i w (14 + 2 * s) 0) v)) := by
  obtain ⟨r1, r2, r3, r4⟩ := g_sh hs s h4
  have ix := x_ix_nI hi (show 40 < 2 ^ 31 by decide)
  have ic := nI_cl (show i < 2 ^ 31 by omega)
  unfold nrI
  by_cases h0 : x_i w (14 + 2 * s) 0 = nI 0
  · simp only [X102_0, X102_1, X102_4, X102_5, X102_6, X102_9, X102_12, X102_13, X102_14, X102_17, X102_18, X102_21, X102_22, X102_25, X102_26, X102_27, X102_30, X102_31, X102_32, Nat.zero_le, and_true, true_and, x_nb0, x_nb1, x_nbp, x_isL_int, x_isL_ref, x_isL_junk, x_isR_ref, x_cat_nil, x_cat_int, x_cat_ref, x_cat_long, Option.toList_some, Option.toList_none, List.cons_append, List.nil_append, Nat.reduceAdd, Nat.reduceLeDiff, Nat.reduceLT, t_tag_si, t_tag_sr, t_tag_sI, x_r_si, x_i_sr, t_r_sI, x_ia_si, x_ia_sI, x_ia_sr, x_ra_si, x_ra_sI, x_ra_sr, r2, r3, r4, h0, if_true, ix, ic]
  · by_cases h1 : x_i w (14 + 2 * s) 0 = nI 1
    · simp only [X102_0, X102_1, X102_4, X102_5, X102_6, X102_9, X102_12, X102_13, X102_14, X102_17, X102_18, X102_21, X102_22, X102_25, X102_26, X102_27, X102_30, X102_31, X102_32, Nat.zero_le, and_true, true_and, x_nb0, x_nb1, x_nbp, x_isL_int, x_isL_ref, x_isL_junk, x_isR_ref, x_cat_nil, x_cat_int, x_cat_ref, x_cat_long, Option.toList_some, Option.toList_none, List.cons_append, List.nil_append, Nat.reduceAdd, Nat.reduceLeDiff, Nat.reduceLT, t_tag_si, t_tag_sr, t_tag_sI, x_r_si, x_i_sr, t_r_sI, x_ia_si, x_ia_sI, x_ia_sr, x_ra_si, x_ra_sI, x_ra_sr, r2, r3, r4, eq_false h0, eq_true h1, if_false, if_true, ix, ic]
    · simp only [X102_0, X102_1, X102_4, X102_5, X102_6, X102_9, X102_12, X102_13, X102_14, X102_17, X102_18, X102_21, X102_22, X102_25, X102_26, X102_27, X102_30, X102_31, X102_32, Nat.zero_le, and_true, true_and, x_nb0, x_nb1, x_nbp, x_isL_int, x_isL_ref, x_isL_junk, x_isR_ref, x_cat_nil, x_cat_int, x_cat_ref, x_cat_long, Option.toList_some, Option.toList_none, List.cons_append, List.nil_append, Nat.reduceAdd, Nat.reduceLeDiff, Nat.reduceLT, t_tag_si, t_tag_sr, t_tag_sI, x_r_si, x_i_sr, t_r_sI, x_ia_si, x_ia_sI, x_ia_sr, x_ra_si, x_ra_sI, x_ra_sr, r2, r3, r4, eq_false h0, eq_false h1, if_false, ix, ic]
/-- a sheet filled anew on both sides -/
theorem SHT.fill (h : SHT w so sz) {w2 : x_W} {s : Nat} {v : Int32} {n : Nat} (hv : v = -1 ∨ v = nI 0 ∨ v = nI 1 ∨ v = nI 2) (hn : n ≤ 40) (a1 : x_i w2 (14 + 2 * s) 0 = v) (a2 : x_i w2 (14 + 2 * s) 1 = nI n) (a3 : x_i w2 52 = upd (x_i w 52) s v) (a4 : x_i w2 53 = upd (x_i w 53) s (nI n)) (ho : ∀ b, b ≠ 14 + 2 * s → b ≠ 15 + 2 * s → b < 22 → x_i w2 b = x_i w b) (hc : ∀ k, k < 40 → x_i w2 (15 + 2 * s) k = x_i w2 54 (40 * s + k)) (ho2 : ∀ q, q < 40 * s ∨ 40 * s + 40 ≤ q → x_i w2 54 q = x_i w 54 q) : SHT w2 (updF so s v) (updN sz s n) := by
  intro j hj
  by_cases hjs : j = s
  · subst hjs
    rw [updF_s, updN_s, a3, a4, upd_s, upd_s]
    exact ⟨⟨a1, a2, rfl, rfl⟩, hn, hv, hc⟩
  · obtain ⟨⟨q1, q2, q3, q4⟩, q5, q6, q7⟩ := h j hj
    rw [updF_o hjs, updN_o hjs, a3, a4, upd_o hjs, upd_o hjs, ho (14 + 2 * j) (by omega) (by omega) (by omega), ho (15 + 2 * j) (by omega) (by omega) (by omega)]
    refine ⟨⟨q1, q2, q3, q4⟩, q5, q6, fun k hk => ?_⟩
    rw [ho2 (40 * j + k) (by omega)]
    exact q7 k hk
theorem J.sht (hJ : J w S kd td mo kt nt r tls tks so sz) {w2 : x_W} {P : Nat → Nat → Bool} (c : Ch P w w2) (hk : KA P) (hF : FarOk w2) (ht : (∀ k, P 2 k = false ∧ P 47 k = false ∧ P 7 k = false ∧ P 8 k = false ∧ P 9 k = false ∧ P 50 k = false ∧ P 51 k = false ∧ P 56 k = false) ∧ P 1 1 = false ∧ P 41 8 = false ∧ P 41 13 = false ∧ P 41 14 = false ∧ P 41 15 = false ∧ P 41 16 = false) {so2 : Nat → Int32} {sz2 : Nat → Nat} (hS : SHT w2 so2 sz2) : J w2 S kd td mo kt nt r tls tks so2 sz2 := ⟨hJ.1.gen c hk hF, hS, hJ.2.2.1.gen c ht.2.1 ht.2.2.1 (fun k => ⟨(ht.1 k).1, (ht.1 k).2.1, (ht.1 k).2.2.2.2.2.2.2⟩), hJ.2.2.2.1.gen c (fun k => ⟨(ht.1 k).2.2.1, (ht.1 k).2.2.2.1, (ht.1 k).2.2.2.2.1, (ht.1 k).2.2.2.2.2.1, (ht.1 k).2.2.2.2.2.2.1⟩) ht.2.2.2, c.len hJ.2.2.2.2⟩
theorem S226l (hs : Sh w) {s : Nat} (h4 : s < 4) (v n : Int32) {Q : Option Value → x_W → Prop} : ∀ m j, j + m = 40 → X_R L xs d 226 70 [.ref 41, .int (nI s), .int v, .int n, .int (nI j)] [] (x_sI w 54 (x_seg (40 * s) j (fun _ => nI 0) (x_i w 54))) Q = Q (some (.int (nI 1))) (x_sI w 54 (x_seg (40 * s) 40 (fun _ => nI 0) (x_i w 54))) := by
  intro m
  induction m with
  | zero =>
    intro j hj
    obtain rfl : j = 40 := by omega
    rw [X226_70]
    simp only [X226_72, X226_74, X226_96, X226_97, Nat.zero_le, and_true, true_and, x_nb0, x_nb1, x_nbp, x_isL_int, x_isL_ref, x_isL_junk, x_isR_ref, x_cat_nil, x_cat_int, x_cat_ref, x_cat_long, Option.toList_some, Option.toList_none, List.cons_append, List.nil_append, Nat.reduceAdd, Nat.reduceLeDiff, Nat.reduceLT, t_tag_si, t_tag_sr, t_tag_sI, x_r_si, x_i_sr, t_r_sI, x_ia_si, x_ia_sI, x_ia_sr, x_ra_si, x_ra_sI, x_ra_sr, nI_leT (Nat.le_refl 40) (show 40 < 2 ^ 31 by decide), if_true]
  | succ m ih =>
    intro j hj
    have jx := x_ix_nI (show 40 * s + j < 160 by omega) (show 160 < 2 ^ 31 by decide)
    have jc := nI_cl (show 40 * s + j < 2 ^ 31 by omega)
    have es := x_seg_s (40 * s) j (fun _ => nI 0) (x_i w 54)
    rw [← ih (j + 1) (by omega), X226_70]
    simp only [X226_72, X226_74, X226_77, X226_78, X226_81, X226_83, X226_84, X226_85, X226_87, X226_88, X226_89, X226_90, X226_93, Nat.zero_le, and_true, true_and, x_nb0, x_nb1, x_nbp, x_isL_int, x_isL_ref, x_isL_junk, x_isR_ref, x_cat_nil, x_cat_int, x_cat_ref, x_cat_long, Option.toList_some, Option.toList_none, List.cons_append, List.nil_append, Nat.reduceAdd, Nat.reduceLeDiff, Nat.reduceLT, t_tag_si, t_tag_sr, t_tag_sI, x_r_si, x_i_sr, t_r_sI, x_ia_si, x_ia_sI, x_ia_sr, x_ra_si, x_ra_sI, x_ra_sr, nI_leF (show j < 40 by omega) (show 40 < 2 ^ 31 by decide), if_false, g_t41 hs, g_r41_21 hs, g_a54 hs, nI_mul, nI_add, jx, jc, x_si_sI, es]
theorem CA_sheet (hJ : J w S kd td mo kt nt r tls tks so sz) (u v n : Int32) : CA L xs (d + 12) 46 226 [.ref 0, .int u, .int v, .int n] [.ref 41, .int u, .int v, .int n, x_junk] w := by
  have hs := hJ.sh
  by_cases hu : shn u
  · obtain ⟨s, h4, rfl⟩ := sh_of hu
    have e37 : ∀ (w : x_W) (Q' : Option Value → x_W → Prop), X_R L xs (d + 11) 37 0 [.int (nI s)] [] w Q' = Q' (some (.int (nI 1))) w := fun w Q' => by rw [S37 (d := d + 10), bI_t hu]
    have e138 := fun (w : x_W) (Q' : Option Value → x_W → Prop) => b138 (L := L) (xs := xs) (d := d + 11) (w := w) (Q := Q') hu
    by_cases hv : (-1 : Int32) ≤ v ∧ v ≤ nI 2
    · have e10 := fun (w : x_W) (Q' : Option Value → x_W → Prop) => b10 (L := L) (xs := xs) (d := d + 11) (w := w) (Q := Q') hv
      have f138' := fun (w : x_W) (Q' : Option Value → x_W → Prop) => b138 (L := L) (xs := xs) (d := d + 11) (w := w) (Q := Q') hv
      have hv4 : v = -1 ∨ v = nI 0 ∨ v = nI 1 ∨ v = nI 2 := by
        have m1 : (-1 : Int32).toInt = -1 := rfl
        have m2 : (nI 2).toInt = 2 := rfl
        have m0 : (nI 0).toInt = 0 := rfl
        have m11 : (nI 1).toInt = 1 := rfl
        rw [Int32.le_iff_toInt_le, Int32.le_iff_toInt_le, m1, m2] at hv
        rw [← Int32.toInt_inj, ← Int32.toInt_inj, ← Int32.toInt_inj, ← Int32.toInt_inj, m1, m2, m0, m11]
        omega
      obtain ⟨r1, r2, r3, r4⟩ := g_sh hs s h4
      have sx := x_ix_nI h4 (show 4 < 2 ^ 31 by decide)
      have sc' := nI_cl (show s < 2 ^ 31 by omega)
      -- a sheet becomes of sort v with m cells
      have hgo : ∀ m, m ≤ 40 → (∀ Q, X_R L xs (d + 12) 46 0 [.ref 0, .int (nI s), .int v, .int n] [] w Q = Q (some (.int (nI 1))) (shW w s v (nI m))) → (∀ w1 Q, Sh w1 → X_R L xs (d + 12) 226 0 [.ref 41, .int (nI s), .int v, .int n, x_junk] [] w1 Q = X_R L xs (d + 12) 226 70 [.ref 41, .int (nI s), .int v, .int n, .int (nI 0)] [] (x_si (x_si w1 52 s v) 53 s (nI m)) Q) → CA L xs (d + 12) 46 226 [.ref 0, .int (nI s), .int v, .int n] [.ref 41, .int (nI s), .int v, .int n, x_junk] w := by
        intro m hm e1 e2
        have c1 := Ch_shW (w := w) h4 (v := v) (n := nI m)
        obtain ⟨i1, i2, i3, i4⟩ := shW_i (w := w) (s := s) (v := v) (n := nI m)
        have hs1 := c1.sh hs
        generalize shW w s v (nI m) = w1 at *
        have c2 : Ch pH w1 (x_si (x_si w1 52 s v) 53 s (nI m)) := (Ch_si rfl).trans (Ch_si rfl)
        have hs2 := c2.sh hs1
        have e3 := fun Q => S226l (L := L) (xs := xs) (d := d + 12) (w := x_si (x_si w1 52 s v) 53 s (nI m)) hs2 h4 v n (Q := Q) 40 0 rfl
        have g52 : x_i (x_si (x_si w1 52 s v) 53 s (nI m)) 52 = upd (x_i w 52) s v := by rw [x_i_sin _ _ _ _ (by decide), x_i_si, i4 52 (by omega) (by omega)]
        have g53 : x_i (x_si (x_si w1 52 s v) 53 s (nI m)) 53 = upd (x_i w 53) s (nI m) := by rw [x_i_si, x_i_sin _ _ _ _ (by decide), i4 53 (by omega) (by omega)]
        have g54 : x_i (x_si (x_si w1 52 s v) 53 s (nI m)) 54 = x_i w 54 := by rw [x_i_sin _ _ _ _ (by decide), x_i_sin _ _ _ _ (by decide), i4 54 (by omega) (by omega)]
        have go : ∀ b, b < 22 → x_i (x_si (x_si w1 52 s v) 53 s (nI m)) b = x_i w1 b := fun b hb => by rw [x_i_sin _ _ _ _ (by omega), x_i_sin _ _ _ _ (by omega)]
        have e2' := fun Q => e2 w1 Q hs1
        generalize x_si (x_si w1 52 s v) 53 s (nI m) = w2 at *
        rw [x_seg_0, x_sI_id] at e3
        have c3 : Ch pH w2 (x_sI w2 54 (x_seg (40 * s) 40 (fun _ => nI 0) (x_i w2 54))) := Ch_sI (fun _ => rfl)
        have k54 : x_i (x_sI w2 54 (x_seg (40 * s) 40 (fun _ => nI 0) (x_i w2 54))) 54 = x_seg (40 * s) 40 (fun _ => nI 0) (x_i w 54) := by rw [x_i_sI, g54]
        have ko : ∀ b, b ≠ 54 → x_i (x_sI w2 54 (x_seg (40 * s) 40 (fun _ => nI 0) (x_i w2 54))) b = x_i w2 b := fun b hb => x_i_sIn _ _ _ hb
        generalize x_sI w2 54 (x_seg (40 * s) 40 (fun _ => nI 0) (x_i w2 54)) = w3 at *
        have cc := c1.trans (c2.trans c3)
        have hSH : SHT w3 (updF so s v) (updN sz s m) := by
          refine hJ.2.1.fill hv4 hm ?_ ?_ ?_ ?_ ?_ ?_ ?_
          · rw [ko _ (by omega), go _ (by omega)]; exact i1
          · rw [ko _ (by omega), go _ (by omega)]; exact i2
          · rw [ko 52 (by decide)]; exact g52
          · rw [ko 53 (by decide)]; exact g53
          · intro b h1 h2 h3
            rw [ko _ (by omega), go _ h3, i4 b h1 h2]
          · intro k hk
            rw [ko _ (by omega), go _ (by omega), i3, k54, x_fn_in hk, x_seg_in hk]
          · intro q hq
            rw [k54, x_seg_out hq]
        have hF : FarOk w3 := hJ.ag.1.2.2.of (cc.2.2 23 6 rfl) (cc.i (fun _ => rfl)) (cc.i (fun _ => rfl))
        exact ⟨.int (nI 1), w1, w3, (hJ.sht cc KA_H hF ⟨fun _ => ⟨rfl, rfl, rfl, rfl, rfl, rfl, rfl, rfl⟩, rfl, rfl, rfl, rfl, rfl, rfl⟩ hSH).jj, e1, fun Q => (e2' Q).trans (e3 Q)⟩
      by_cases h1 : v = -1
      · subst h1
        have e101 := fun (Q' : Option Value → x_W → Prop) => S101 (L := L) (xs := xs) (d := d + 10) hs h4 (v := -1) (n := nI 0) (Q := Q')
        refine hgo 0 (by decide) (fun Q => ?_) (fun w1 Q hs1 => ?_)
        · simp only [X46_0, X46_1, X46_4, X46_7, X46_8, X46_9, X46_10, X46_13, X46_19, X46_20, X46_21, X46_24, X46_25, X46_28, X46_29, X46_30, X46_31, X46_32, X46_35, X46_36, Nat.zero_le, and_true, true_and, x_nb0, x_nb1, x_nbp, x_isL_int, x_isL_ref, x_isL_junk, x_isR_ref, x_cat_nil, x_cat_int, x_cat_ref, x_cat_long, Option.toList_some, Option.toList_none, List.cons_append, List.nil_append, Nat.reduceAdd, Nat.reduceLeDiff, Nat.reduceLT, t_tag_si, t_tag_sr, t_tag_sI, x_r_si, x_i_sr, t_r_sI, x_ia_si, x_ia_sI, x_ia_sr, x_ra_si, x_ra_sI, x_ra_sr, e37, n10, if_false, e10, if_true, g_t0 hs, g_r0_6 hs, g_a6 hs, sx, sc', r1, r2, e101]
        · simp only [X226_0, X226_1, X226_2, X226_3, X226_6, X226_9, X226_10, X226_11, X226_12, X226_15, X226_18, X226_19, X226_20, X226_32, X226_33, X226_34, X226_44, X226_45, X226_48, X226_49, X226_50, X226_51, X226_52, X226_55, X226_56, X226_57, X226_58, X226_61, X226_62, X226_66, X226_67, X226_68, Nat.zero_le, and_true, true_and, x_nb0, x_nb1, x_nbp, x_isL_int, x_isL_ref, x_isL_junk, x_isR_ref, x_cat_nil, x_cat_int, x_cat_ref, x_cat_long, Option.toList_some, Option.toList_none, List.cons_append, List.nil_append, Nat.reduceAdd, Nat.reduceLeDiff, Nat.reduceLT, t_tag_si, t_tag_sr, t_tag_sI, x_r_si, x_i_sr, t_r_sI, x_ia_si, x_ia_sI, x_ia_sr, x_ra_si, x_ra_sI, x_ra_sr, e138, n10, if_false, f138', if_true, g_t41 hs1, g_r41_19 hs1, g_a52 hs1, sx, sc', g_r41_20 hs1, g_a53 hs1]
      · by_cases h2 : nI 40 < n
        · refine CA_no (v := .int (-2)) hJ (fun Q => ?_) (fun Q => ?_)
          · simp only [X46_0, X46_1, X46_4, X46_7, X46_8, X46_9, X46_10, X46_13, X46_19, X46_20, X46_21, X46_37, X46_38, X46_40, X46_43, X46_45, Nat.zero_le, and_true, true_and, x_nb0, x_nb1, x_nbp, x_isL_int, x_isL_ref, x_isL_junk, x_isR_ref, x_cat_nil, x_cat_int, x_cat_ref, x_cat_long, Option.toList_some, Option.toList_none, List.cons_append, List.nil_append, Nat.reduceAdd, Nat.reduceLeDiff, Nat.reduceLT, t_tag_si, t_tag_sr, t_tag_sI, x_r_si, x_i_sr, t_r_sI, x_ia_si, x_ia_sI, x_ia_sr, x_ra_si, x_ra_sI, x_ra_sr, e37, n10, if_false, e10, h1, Int32.not_le.mpr h2]
          · simp only [X226_0, X226_1, X226_2, X226_3, X226_6, X226_9, X226_10, X226_11, X226_12, X226_15, X226_18, X226_19, X226_20, X226_23, X226_24, X226_26, X226_29, X226_31, Nat.zero_le, and_true, true_and, x_nb0, x_nb1, x_nbp, x_isL_int, x_isL_ref, x_isL_junk, x_isR_ref, x_cat_nil, x_cat_int, x_cat_ref, x_cat_long, Option.toList_some, Option.toList_none, List.cons_append, List.nil_append, Nat.reduceAdd, Nat.reduceLeDiff, Nat.reduceLT, t_tag_si, t_tag_sr, t_tag_sI, x_r_si, x_i_sr, t_r_sI, x_ia_si, x_ia_sI, x_ia_sr, x_ra_si, x_ra_sI, x_ra_sr, e138, n10, if_false, f138', h1, Int32.not_le.mpr h2]
        · have h2' : n ≤ nI 40 := Int32.not_lt.mp h2
          by_cases h3 : n < nI 0
          · refine CA_no (v := .int (-14)) hJ (fun Q => ?_) (fun Q => ?_)
            · simp only [X46_0, X46_1, X46_4, X46_7, X46_8, X46_9, X46_10, X46_13, X46_19, X46_20, X46_21, X46_37, X46_38, X46_40, X46_46, X46_47, X46_50, X46_52, Nat.zero_le, and_true, true_and, x_nb0, x_nb1, x_nbp, x_isL_int, x_isL_ref, x_isL_junk, x_isR_ref, x_cat_nil, x_cat_int, x_cat_ref, x_cat_long, Option.toList_some, Option.toList_none, List.cons_append, List.nil_append, Nat.reduceAdd, Nat.reduceLeDiff, Nat.reduceLT, t_tag_si, t_tag_sr, t_tag_sI, x_r_si, x_i_sr, t_r_sI, x_ia_si, x_ia_sI, x_ia_sr, x_ra_si, x_ra_sI, x_ra_sr, e37, n10, if_false, e10, h1, h2', if_true, Int32.not_le.mpr h3]
            · simp only [X226_0, X226_1, X226_2, X226_3, X226_6, X226_9, X226_10, X226_11, X226_12, X226_15, X226_18, X226_19, X226_20, X226_23, X226_24, X226_26, X226_32, X226_33, X226_34, X226_37, X226_38, X226_41, X226_43, Nat.zero_le, and_true, true_and, x_nb0, x_nb1, x_nbp, x_isL_int, x_isL_ref, x_isL_junk, x_isR_ref, x_cat_nil, x_cat_int, x_cat_ref, x_cat_long, Option.toList_some, Option.toList_none, List.cons_append, List.nil_append, Nat.reduceAdd, Nat.reduceLeDiff, Nat.reduceLT, t_tag_si, t_tag_sr, t_tag_sI, x_r_si, x_i_sr, t_r_sI, x_ia_si, x_ia_sI, x_ia_sr, x_ra_si, x_ra_sI, x_ra_sr, e138, n10, if_false, f138', h1, h2', if_true, Int32.not_le.mpr h3]
          · have h3' : nI 0 ≤ n := Int32.not_lt.mp h3
            obtain ⟨m, hm, rfl⟩ := in_of (n := 40) rfl ⟨h3', h2'⟩
            have e101 := fun (Q' : Option Value → x_W → Prop) => S101 (L := L) (xs := xs) (d := d + 10) hs h4 (v := v) (n := nI m) (Q := Q')
            refine hgo m hm (fun Q => ?_) (fun w1 Q hs1 => ?_)
            · simp only [X46_0, X46_1, X46_4, X46_7, X46_8, X46_9, X46_10, X46_13, X46_19, X46_20, X46_21, X46_37, X46_38, X46_40, X46_46, X46_47, X46_53, X46_54, X46_57, X46_58, X46_59, X46_60, X46_61, X46_64, X46_65, Nat.zero_le, and_true, true_and, x_nb0, x_nb1, x_nbp, x_isL_int, x_isL_ref, x_isL_junk, x_isR_ref, x_cat_nil, x_cat_int, x_cat_ref, x_cat_long, Option.toList_some, Option.toList_none, List.cons_append, List.nil_append, Nat.reduceAdd, Nat.reduceLeDiff, Nat.reduceLT, t_tag_si, t_tag_sr, t_tag_sI, x_r_si, x_i_sr, t_r_sI, x_ia_si, x_ia_sI, x_ia_sr, x_ra_si, x_ra_sI, x_ra_sr, e37, n10, if_false, e10, h1, h2', h3', if_true, g_t0 hs, g_r0_6 hs, g_a6 hs, sx, sc', r1, r2, e101]
            · simp only [X226_0, X226_1, X226_2, X226_3, X226_6, X226_9, X226_10, X226_11, X226_12, X226_15, X226_18, X226_19, X226_20, X226_23, X226_24, X226_26, X226_32, X226_33, X226_34, X226_37, X226_38, X226_44, X226_45, X226_48, X226_49, X226_50, X226_51, X226_52, X226_55, X226_56, X226_57, X226_58, X226_65, X226_66, X226_67, X226_68, Nat.zero_le, and_true, true_and, x_nb0, x_nb1, x_nbp, x_isL_int, x_isL_ref, x_isL_junk, x_isR_ref, x_cat_nil, x_cat_int, x_cat_ref, x_cat_long, Option.toList_some, Option.toList_none, List.cons_append, List.nil_append, Nat.reduceAdd, Nat.reduceLeDiff, Nat.reduceLT, t_tag_si, t_tag_sr, t_tag_sI, x_r_si, x_i_sr, t_r_sI, x_ia_si, x_ia_sI, x_ia_sr, x_ra_si, x_ra_sI, x_ra_sr, e138, n10, if_false, f138', h1, h2', h3', if_true, g_t41 hs1, g_r41_19 hs1, g_a52 hs1, sx, sc', g_r41_20 hs1, g_a53 hs1]
    · refine CA_no (v := .int (-2)) hJ (fun Q => ?_) (fun Q => ?_)
      · simp only [X46_0, X46_1, X46_4, X46_7, X46_8, X46_9, X46_10, X46_13, X46_16, X46_18, Nat.zero_le, and_true, true_and, x_nb0, x_nb1, x_nbp, x_isL_int, x_isL_ref, x_isL_junk, x_isR_ref, x_cat_nil, x_cat_int, x_cat_ref, x_cat_long, Option.toList_some, Option.toList_none, List.cons_append, List.nil_append, Nat.reduceAdd, Nat.reduceLeDiff, Nat.reduceLT, t_tag_si, t_tag_sr, t_tag_sI, x_r_si, x_i_sr, t_r_sI, x_ia_si, x_ia_sI, x_ia_sr, x_ra_si, x_ra_sI, x_ra_sr, e37, n10, if_false, f10 hv, if_true]
      · simp only [X226_0, X226_1, X226_2, X226_3, X226_6, X226_9, X226_10, X226_11, X226_12, X226_15, X226_29, X226_31, Nat.zero_le, and_true, true_and, x_nb0, x_nb1, x_nbp, x_isL_int, x_isL_ref, x_isL_junk, x_isR_ref, x_cat_nil, x_cat_int, x_cat_ref, x_cat_long, Option.toList_some, Option.toList_none, List.cons_append, List.nil_append, Nat.reduceAdd, Nat.reduceLeDiff, Nat.reduceLT, t_tag_si, t_tag_sr, t_tag_sI, x_r_si, x_i_sr, t_r_sI, x_ia_si, x_ia_sI, x_ia_sr, x_ra_si, x_ra_sI, x_ra_sr, e138, n10, if_false, f138 hv, if_true]
  · refine CA_no (v := .int (-2)) hJ (fun Q => ?_) (fun Q => ?_)
    · simp only [X46_0, X46_1, X46_4, X46_16, X46_18, Nat.zero_le, and_true, true_and, x_nb0, x_nb1, x_nbp, x_isL_int, x_isL_ref, x_isL_junk, x_isR_ref, x_cat_nil, x_cat_int, x_cat_ref, x_cat_long, Option.toList_some, Option.toList_none, List.cons_append, List.nil_append, Nat.reduceAdd, Nat.reduceLeDiff, Nat.reduceLT, t_tag_si, t_tag_sr, t_tag_sI, x_r_si, x_i_sr, t_r_sI, x_ia_si, x_ia_sI, x_ia_sr, x_ra_si, x_ra_sI, x_ra_sr, S37, bI_f hu, if_true]
    · simp only [X226_0, X226_1, X226_2, X226_3, X226_6, X226_29, X226_31, Nat.zero_le, and_true, true_and, x_nb0, x_nb1, x_nbp, x_isL_int, x_isL_ref, x_isL_junk, x_isR_ref, x_cat_nil, x_cat_int, x_cat_ref, x_cat_long, Option.toList_some, Option.toList_none, List.cons_append, List.nil_append, Nat.reduceAdd, Nat.reduceLeDiff, Nat.reduceLT, t_tag_si, t_tag_sr, t_tag_sI, x_r_si, x_i_sr, t_r_sI, x_ia_si, x_ia_sI, x_ia_sr, x_ra_si, x_ra_sI, x_ra_sr, f138 hu, if_true]
theorem S103 (hs : Sh w) {s : Nat} (h4 : s < 4) {v : Int32} {n : Nat} (hn : x_i w (14 + 2 * s) 1 = nI n) {Q : Option Value → x_W → Prop} : X_R L xs d 103 0 [.ref (14 + 2 * s), .int v] [] w Q = Q (some (.int (bI (nI 0 ≤ v ∧ v < nI n)))) w := by
  obtain ⟨r1, r2, r3, r4⟩ := g_sh hs s h4
  by_cases h1 : v < nI 0
  · rw [bI_f (fun q => absurd h1 (Int32.not_lt.mpr q.1))]
    simp only [X103_0, X103_1, X103_4, X103_5, X103_6, X103_9, X103_12, X103_13, X103_16, X103_17, Nat.zero_le, and_true, true_and, x_nb0, x_nb1, x_nbp, x_isL_int, x_isL_ref, x_isL_junk, x_isR_ref, x_cat_nil, x_cat_int, x_cat_ref, x_cat_long, Option.toList_some, Option.toList_none, List.cons_append, List.nil_append, Nat.reduceAdd, Nat.reduceLeDiff, Nat.reduceLT, t_tag_si, t_tag_sr, t_tag_sI, x_r_si, x_i_sr, t_r_sI, x_ia_si, x_ia_sI, x_ia_sr, x_ra_si, x_ra_sI, x_ra_sr, h1, if_true]
  · by_cases h2 : nI n ≤ v
    · rw [bI_f (fun q => absurd q.2 (Int32.not_lt.mpr h2))]
      simp only [X103_0, X103_1, X103_4, X103_5, X103_6, X103_9, X103_12, X103_13, X103_16, X103_17, Nat.zero_le, and_true, true_and, x_nb0, x_nb1, x_nbp, x_isL_int, x_isL_ref, x_isL_junk, x_isR_ref, x_cat_nil, x_cat_int, x_cat_ref, x_cat_long, Option.toList_some, Option.toList_none, List.cons_append, List.nil_append, Nat.reduceAdd, Nat.reduceLeDiff, Nat.reduceLT, t_tag_si, t_tag_sr, t_tag_sI, x_r_si, x_i_sr, t_r_sI, x_ia_si, x_ia_sI, x_ia_sr, x_ra_si, x_ra_sI, x_ra_sr, h1, if_false, r2, hn, h2, if_true]
    · rw [bI_t ⟨Int32.not_lt.mp h1, Int32.not_le.mp h2⟩]
      simp only [X103_0, X103_1, X103_4, X103_5, X103_6, X103_9, X103_12, X103_13, X103_16, X103_17, Nat.zero_le, and_true, true_and, x_nb0, x_nb1, x_nbp, x_isL_int, x_isL_ref, x_isL_junk, x_isR_ref, x_cat_nil, x_cat_int, x_cat_ref, x_cat_long, Option.toList_some, Option.toList_none, List.cons_append, List.nil_append, Nat.reduceAdd, Nat.reduceLeDiff, Nat.reduceLT, t_tag_si, t_tag_sr, t_tag_sI, x_r_si, x_i_sr, t_r_sI, x_ia_si, x_ia_sI, x_ia_sr, x_ra_si, x_ra_sI, x_ra_sr, h1, if_false, r2, hn, h2]
theorem lt_m1 {v : Int32} {n : Nat} (h : n ≤ 40) : (nI 0 ≤ v ∧ v ≤ nI n - nI 1) ↔ (nI 0 ≤ v ∧ v < nI n) := by
  have e : ∀ n, n < 41 → (nI n).toInt = (n : Int) ∧ (nI n - nI 1).toInt = (n : Int) - 1 := by decide +kernel
  rw [Int32.le_iff_toInt_le, Int32.le_iff_toInt_le, Int32.lt_iff_toInt_lt, (e n (by omega)).1, (e n (by omega)).2]
  omega
theorem lt_of40 {v : Int32} {n : Nat} (h40 : n ≤ 40) (h : nI 0 ≤ v ∧ v < nI n) : ∃ j, j < n ∧ v = nI j := by
  obtain ⟨j, hj, rfl⟩ := in_of (n := 40) (M := nI 40) rfl ⟨h.1, Int32.le_trans (Int32.le_of_lt h.2) (nI_le h40 (by decide))⟩
  refine ⟨j, ?_, rfl⟩
  exact (nI_ltI (show j < 2 ^ 31 by omega) (show n < 2 ^ 31 by omega)).mp h.2
theorem CA_cell (hJ : J w S kd td mo kt nt r tls tks so sz) (u i v : Int32) : CA L xs (d + 12) 47 227 [.ref 0, .int u, .int i, .int v] [.ref 41, .int u, .int i, .int v] w := by
  have hs := hJ.sh
  by_cases hu : shn u
  · obtain ⟨s, h4, rfl⟩ := sh_of hu
    have e37 : ∀ (w : x_W) (Q' : Option Value → x_W → Prop), X_R L xs (d + 11) 37 0 [.int (nI s)] [] w Q' = Q' (some (.int (nI 1))) w := fun w Q' => by rw [S37 (d := d + 10), bI_t hu]
    have e138 := fun (w : x_W) (Q' : Option Value → x_W → Prop) => b138 (L := L) (xs := xs) (d := d + 11) (w := w) (Q := Q') hu
    obtain ⟨r1, r2, r3, r4⟩ := g_sh hs s h4
    have sx := x_ix_nI h4 (show 4 < 2 ^ 31 by decide)
    have sc' := nI_cl (show s < 2 ^ 31 by omega)
    obtain ⟨⟨q1, q2, q3, q4⟩, q5, q6, q7⟩ := hJ.2.1 s h4
    by_cases h1 : so s = -1
    · refine CA_no (v := .int (-11)) hJ (fun Q => ?_) (fun Q => ?_)
      · simp only [X47_0, X47_1, X47_4, X47_10, X47_11, X47_14, X47_15, X47_16, X47_19, X47_20, X47_23, X47_25, Nat.zero_le, and_true, true_and, x_nb0, x_nb1, x_nbp, x_isL_int, x_isL_ref, x_isL_junk, x_isR_ref, x_cat_nil, x_cat_int, x_cat_ref, x_cat_long, Option.toList_some, Option.toList_none, List.cons_append, List.nil_append, Nat.reduceAdd, Nat.reduceLeDiff, Nat.reduceLT, t_tag_si, t_tag_sr, t_tag_sI, x_r_si, x_i_sr, t_r_sI, x_ia_si, x_ia_sI, x_ia_sr, x_ra_si, x_ra_sI, x_ra_sr, e37, n10, if_false, g_t0 hs, g_r0_6 hs, g_a6 hs, sx, sc', r1, r2, q1, h1, if_true]
      · simp only [X227_0, X227_1, X227_2, X227_3, X227_6, X227_12, X227_13, X227_16, X227_17, X227_18, X227_19, X227_22, X227_24, Nat.zero_le, and_true, true_and, x_nb0, x_nb1, x_nbp, x_isL_int, x_isL_ref, x_isL_junk, x_isR_ref, x_cat_nil, x_cat_int, x_cat_ref, x_cat_long, Option.toList_some, Option.toList_none, List.cons_append, List.nil_append, Nat.reduceAdd, Nat.reduceLeDiff, Nat.reduceLT, t_tag_si, t_tag_sr, t_tag_sI, x_r_si, x_i_sr, t_r_sI, x_ia_si, x_ia_sI, x_ia_sr, x_ra_si, x_ra_sI, x_ra_sr, e138, n10, if_false, g_t41 hs, g_r41_19 hs, g_a52 hs, sx, sc', q3, h1, if_true]
    · have e103 := fun (Q' : Option Value → x_W → Prop) => S103 (L := L) (xs := xs) (d := d + 11) hs h4 (v := i) q2 (Q := Q')
      have eb : bI (nI 0 ≤ i ∧ i ≤ nI (sz s) - nI 1) = bI (nI 0 ≤ i ∧ i < nI (sz s)) := bI_c (lt_m1 q5)
      by_cases hi : nI 0 ≤ i ∧ i < nI (sz s)
      · obtain ⟨j, hj, rfl⟩ := lt_of40 q5 hi
        have e102 := fun (Q' : Option Value → x_W → Prop) => S102 (L := L) (xs := xs) (d := d + 11) hs h4 (i := j) (show j < 40 by omega) (v := v) (Q := Q')
        rw [q1] at e102
        have c1 : Ch pH w (x_si w (15 + 2 * s) j (nrI (so s) v)) := Ch_si (pH_s s h4 j).2
        have hs1 := c1.sh hs
        have i1 : x_i (x_si w (15 + 2 * s) j (nrI (so s) v)) (15 + 2 * s) = upd (x_i w (15 + 2 * s)) j (nrI (so s) v) := x_i_si _ _ _ _
        have i2 : ∀ b, b ≠ 15 + 2 * s → x_i (x_si w (15 + 2 * s) j (nrI (so s) v)) b = x_i w b := fun b hb => x_i_sin _ _ _ _ hb
        generalize x_si w (15 + 2 * s) j (nrI (so s) v) = w1 at *
        have c2 : Ch pH w1 (x_si w1 54 (40 * s + j) (nrI (so s) v)) := Ch_si rfl
        have k54 : x_i (x_si w1 54 (40 * s + j) (nrI (so s) v)) 54 = upd (x_i w 54) (40 * s + j) (nrI (so s) v) := by rw [x_i_si, i2 54 (by omega)]
        have ko : ∀ b, b ≠ 54 → x_i (x_si w1 54 (40 * s + j) (nrI (so s) v)) b = x_i w1 b := fun b hb => x_i_sin _ _ _ _ hb
        have p52 : x_i w1 52 s = so s := by rw [i2 52 (by omega)]; exact q3
        have p53 : x_i w1 53 s = nI (sz s) := by rw [i2 53 (by omega)]; exact q4
        have jx := x_ix_nI (show 40 * s + j < 160 by omega) (show 160 < 2 ^ 31 by decide)
        have jc := nI_cl (show 40 * s + j < 2 ^ 31 by omega)
        have cc := c1.trans c2
        have hSH : SHT (x_si w1 54 (40 * s + j) (nrI (so s) v)) so sz := by
          intro z hz
          obtain ⟨⟨z1, z2, z3, z4⟩, z5, z6, z7⟩ := hJ.2.1 z hz
          rw [ko _ (by omega), ko 52 (by decide), ko 53 (by decide), ko (15 + 2 * z) (by omega), i2 _ (by omega), i2 52 (by omega), i2 53 (by omega), k54]
          refine ⟨⟨z1, z2, z3, z4⟩, z5, z6, fun k hk => ?_⟩
          by_cases hzs : z = s
          · subst hzs
            rw [i1]
            by_cases hkj : k = j
            · subst hkj; rw [upd_s, upd_s]
            · rw [upd_o hkj, upd_o (by omega)]; exact z7 k hk
          · rw [i2 _ (by omega), upd_o (by omega)]; exact z7 k hk
        have hF : FarOk (x_si w1 54 (40 * s + j) (nrI (so s) v)) := hJ.ag.1.2.2.of (cc.2.2 23 6 rfl) (cc.i (fun _ => rfl)) (cc.i (fun _ => rfl))
        refine ⟨.int (nI 1), w1, _, (hJ.sht cc KA_H hF ⟨fun _ => ⟨rfl, rfl, rfl, rfl, rfl, rfl, rfl, rfl⟩, rfl, rfl, rfl, rfl, rfl, rfl⟩ hSH).jj, fun Q => ?_, fun Q => ?_⟩
        · simp only [X47_0, X47_1, X47_4, X47_7, X47_9, X47_10, X47_11, X47_14, X47_15, X47_16, X47_19, X47_20, X47_23, X47_25, X47_26, X47_27, X47_30, X47_31, X47_32, X47_33, X47_36, X47_39, X47_41, X47_42, X47_43, X47_46, X47_47, X47_48, X47_49, X47_50, X47_53, X47_54, Nat.zero_le, and_true, true_and, x_nb0, x_nb1, x_nbp, x_isL_int, x_isL_ref, x_isL_junk, x_isR_ref, x_cat_nil, x_cat_int, x_cat_ref, x_cat_long, Option.toList_some, Option.toList_none, List.cons_append, List.nil_append, Nat.reduceAdd, Nat.reduceLeDiff, Nat.reduceLT, t_tag_si, t_tag_sr, t_tag_sI, x_r_si, x_i_sr, t_r_sI, x_ia_si, x_ia_sI, x_ia_sr, x_ra_si, x_ra_sI, x_ra_sr, e37, n10, if_false, g_t0 hs, g_r0_6 hs, g_a6 hs, sx, sc', r1, r2, q1, h1, e103, bI_t hi, e102]
        · have hin : bI (nI 0 ≤ nI j ∧ nI j ≤ nI (sz s) - nI 1) = nI 1 := by rw [eb, bI_t hi]
          unfold nrI
          by_cases t0 : so s = nI 0
          · simp only [X227_0, X227_1, X227_2, X227_3, X227_6, X227_9, X227_11, X227_12, X227_13, X227_16, X227_17, X227_18, X227_19, X227_22, X227_24, X227_25, X227_26, X227_27, X227_28, X227_31, X227_32, X227_33, X227_34, X227_35, X227_38, X227_41, X227_43, X227_44, X227_45, X227_48, X227_50, X227_51, X227_52, X227_53, X227_54, X227_55, X227_58, X227_59, X227_60, X227_63, X227_64, X227_65, X227_68, X227_69, X227_72, X227_73, X227_74, X227_75, X227_78, X227_79, X227_80, X227_83, X227_84, X227_85, X227_86, Nat.zero_le, and_true, true_and, x_nb0, x_nb1, x_nbp, x_isL_int, x_isL_ref, x_isL_junk, x_isR_ref, x_cat_nil, x_cat_int, x_cat_ref, x_cat_long, Option.toList_some, Option.toList_none, List.cons_append, List.nil_append, Nat.reduceAdd, Nat.reduceLeDiff, Nat.reduceLT, t_tag_si, t_tag_sr, t_tag_sI, x_r_si, x_i_sr, t_r_sI, x_ia_si, x_ia_sI, x_ia_sr, x_ra_si, x_ra_sI, x_ra_sr, e138, n10, if_false, g_t41 hs1, g_r41_19 hs1, g_a52 hs1, sx, sc', p52, eq_false h1, g_r41_20 hs1, g_a53 hs1, p53, S138, hin, g_r41_21 hs1, g_a54 hs1, nI_mul, nI_add, jx, jc, eq_true t0, if_true]
          · by_cases t1 : so s = nI 1
            · simp only [X227_0, X227_1, X227_2, X227_3, X227_6, X227_9, X227_11, X227_12, X227_13, X227_16, X227_17, X227_18, X227_19, X227_22, X227_24, X227_25, X227_26, X227_27, X227_28, X227_31, X227_32, X227_33, X227_34, X227_35, X227_38, X227_41, X227_43, X227_44, X227_45, X227_48, X227_50, X227_51, X227_52, X227_53, X227_54, X227_55, X227_58, X227_59, X227_60, X227_63, X227_64, X227_65, X227_68, X227_69, X227_72, X227_73, X227_74, X227_75, X227_78, X227_79, X227_80, X227_83, X227_84, X227_85, X227_86, Nat.zero_le, and_true, true_and, x_nb0, x_nb1, x_nbp, x_isL_int, x_isL_ref, x_isL_junk, x_isR_ref, x_cat_nil, x_cat_int, x_cat_ref, x_cat_long, Option.toList_some, Option.toList_none, List.cons_append, List.nil_append, Nat.reduceAdd, Nat.reduceLeDiff, Nat.reduceLT, t_tag_si, t_tag_sr, t_tag_sI, x_r_si, x_i_sr, t_r_sI, x_ia_si, x_ia_sI, x_ia_sr, x_ra_si, x_ra_sI, x_ra_sr, e138, n10, if_false, g_t41 hs1, g_r41_19 hs1, g_a52 hs1, sx, sc', p52, eq_false h1, g_r41_20 hs1, g_a53 hs1, p53, S138, hin, g_r41_21 hs1, g_a54 hs1, nI_mul, nI_add, jx, jc, eq_false t0, eq_true t1, if_true]
            · simp only [X227_0, X227_1, X227_2, X227_3, X227_6, X227_9, X227_11, X227_12, X227_13, X227_16, X227_17, X227_18, X227_19, X227_22, X227_24, X227_25, X227_26, X227_27, X227_28, X227_31, X227_32, X227_33, X227_34, X227_35, X227_38, X227_41, X227_43, X227_44, X227_45, X227_48, X227_50, X227_51, X227_52, X227_53, X227_54, X227_55, X227_58, X227_59, X227_60, X227_63, X227_64, X227_65, X227_68, X227_69, X227_72, X227_73, X227_74, X227_75, X227_78, X227_79, X227_80, X227_83, X227_84, X227_85, X227_86, Nat.zero_le, and_true, true_and, x_nb0, x_nb1, x_nbp, x_isL_int, x_isL_ref, x_isL_junk, x_isR_ref, x_cat_nil, x_cat_int, x_cat_ref, x_cat_long, Option.toList_some, Option.toList_none, List.cons_append, List.nil_append, Nat.reduceAdd, Nat.reduceLeDiff, Nat.reduceLT, t_tag_si, t_tag_sr, t_tag_sI, x_r_si, x_i_sr, t_r_sI, x_ia_si, x_ia_sI, x_ia_sr, x_ra_si, x_ra_sI, x_ra_sr, e138, n10, if_false, g_t41 hs1, g_r41_19 hs1, g_a52 hs1, sx, sc', p52, eq_false h1, g_r41_20 hs1, g_a53 hs1, p53, S138, hin, g_r41_21 hs1, g_a54 hs1, nI_mul, nI_add, jx, jc, eq_false t0, eq_false t1]
      · refine CA_no (v := .int (-12)) hJ (fun Q => ?_) (fun Q => ?_)
        · simp only [X47_0, X47_1, X47_4, X47_7, X47_9, X47_10, X47_11, X47_14, X47_15, X47_16, X47_19, X47_20, X47_23, X47_25, X47_26, X47_27, X47_30, X47_31, X47_32, X47_33, X47_36, X47_39, X47_41, X47_42, X47_43, X47_46, X47_47, X47_48, X47_49, X47_50, X47_53, X47_54, Nat.zero_le, and_true, true_and, x_nb0, x_nb1, x_nbp, x_isL_int, x_isL_ref, x_isL_junk, x_isR_ref, x_cat_nil, x_cat_int, x_cat_ref, x_cat_long, Option.toList_some, Option.toList_none, List.cons_append, List.nil_append, Nat.reduceAdd, Nat.reduceLeDiff, Nat.reduceLT, t_tag_si, t_tag_sr, t_tag_sI, x_r_si, x_i_sr, t_r_sI, x_ia_si, x_ia_sI, x_ia_sr, x_ra_si, x_ra_sI, x_ra_sr, e37, n10, if_false, g_t0 hs, g_r0_6 hs, g_a6 hs, sx, sc', r1, r2, q1, h1, e103, bI_f hi, if_true]
        · have hin : bI (nI 0 ≤ i ∧ i ≤ nI (sz s) - nI 1) = nI 0 := by rw [eb, bI_f hi]
          simp only [X227_0, X227_1, X227_2, X227_3, X227_6, X227_12, X227_13, X227_16, X227_17, X227_18, X227_19, X227_25, X227_26, X227_27, X227_28, X227_31, X227_32, X227_33, X227_34, X227_35, X227_38, X227_41, X227_43, Nat.zero_le, and_true, true_and, x_nb0, x_nb1, x_nbp, x_isL_int, x_isL_ref, x_isL_junk, x_isR_ref, x_cat_nil, x_cat_int, x_cat_ref, x_cat_long, Option.toList_some, Option.toList_none, List.cons_append, List.nil_append, Nat.reduceAdd, Nat.reduceLeDiff, Nat.reduceLT, t_tag_si, t_tag_sr, t_tag_sI, x_r_si, x_i_sr, t_r_sI, x_ia_si, x_ia_sI, x_ia_sr, x_ra_si, x_ra_sI, x_ra_sr, e138, n10, if_false, g_t41 hs, g_r41_19 hs, g_a52 hs, sx, sc', q3, eq_false h1, g_r41_20 hs, g_a53 hs, q4, S138, hin, if_true]
  · refine CA_no (v := .int (-2)) hJ (fun Q => ?_) (fun Q => ?_)
    · simp only [X47_0, X47_1, X47_4, X47_7, X47_9, Nat.zero_le, and_true, true_and, x_nb0, x_nb1, x_nbp, x_isL_int, x_isL_ref, x_isL_junk, x_isR_ref, x_cat_nil, x_cat_int, x_cat_ref, x_cat_long, Option.toList_some, Option.toList_none, List.cons_append, List.nil_append, Nat.reduceAdd, Nat.reduceLeDiff, Nat.reduceLT, t_tag_si, t_tag_sr, t_tag_sI, x_r_si, x_i_sr, t_r_sI, x_ia_si, x_ia_sI, x_ia_sr, x_ra_si, x_ra_sI, x_ra_sr, S37, bI_f hu, if_true]
    · simp only [X227_0, X227_1, X227_2, X227_3, X227_6, X227_9, X227_11, Nat.zero_le, and_true, true_and, x_nb0, x_nb1, x_nbp, x_isL_int, x_isL_ref, x_isL_junk, x_isR_ref, x_cat_nil, x_cat_int, x_cat_ref, x_cat_long, Option.toList_some, Option.toList_none, List.cons_append, List.nil_append, Nat.reduceAdd, Nat.reduceLeDiff, Nat.reduceLT, t_tag_si, t_tag_sr, t_tag_sI, x_r_si, x_i_sr, t_r_sI, x_ia_si, x_ia_sI, x_ia_sr, x_ra_si, x_ra_sI, x_ra_sr, f138 hu, if_true]
end S9981
