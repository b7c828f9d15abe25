/-! ===== noting who wakes; sets of sleepers ===== -/
def anyM (f : Nat → Int32) (t : Int32) : Nat → Int32
  | 0 => nI 0
  | n + 1 => if bv t (nI n) = nI 1 then anyM f t n ||| f n else anyM f t n
theorem anyM_t {f : Nat → Int32} {t : Int32} {n : Nat} (h : bv t (nI n) = nI 1) : anyM f t (n + 1) = anyM f t n ||| f n := if_pos h
theorem anyM_f {f : Nat → Int32} {t : Int32} {n : Nat} (h : bv t (nI n) = nI 0) : anyM f t (n + 1) = anyM f t n := if_neg (by rw [h]; decide)
theorem anyM_cg {f g : Nat → Int32} {t : Int32} {n : Nat} (h : ∀ k, k < n → f k = g k) : anyM f t n = anyM g t n := by
  induction n with
  | zero => rfl
  | succ n ih =>
    unfold anyM
    rw [ih (fun k hk => h k (by omega)), h n (Nat.lt_succ_self _)]
theorem wkM_cg {f g : Nat → Bool} {n : Nat} (h : ∀ k, k < n → f k = g k) : wkM f n = wkM g n := by
  induction n with
  | zero => rfl
  | succ n ih =>
    unfold wkM
    rw [ih (fun k hk => h k (by omega)), h n (Nat.lt_succ_self _)]
theorem wkC_cg {f g : Nat → Bool} {n : Nat} (h : ∀ k, k < n → f k = g k) : wkC f n = wkC g n := by
  induction n with
  | zero => rfl
  | succ n ih =>
    unfold wkC
    rw [ih (fun k hk => h k (by omega)), h n (Nat.lt_succ_self _)]
-- masks of six bits
def m6 (x : Int32) : Prop := ∃ m, m < 64 ∧ x = nI m
def pcN (m : Nat) : Nat := m % 2 + m / 2 % 2 + m / 4 % 2 + m / 8 % 2 + m / 16 % 2 + m / 32 % 2
theorem pcN_le (m : Nat) : pcN m ≤ 6 := by unfold pcN; omega
theorem pc_bc : ∀ m, m < 64 → bcF (nI m) = nI (pcN m) ∧ bitsF (nI m) 20 = nI (pcN m) := by decide +kernel
theorem or_m6 : ∀ a, a < 64 → ∀ b, b < 64 → nI a ||| nI b = nI (a ||| b) ∧ (a ||| b) < 64 := by decide +kernel
theorem an_m6 : ∀ a, a < 64 → ∀ b, b < 64 → nI a &&& (nI b ^^^ (-1)) = nI (a - (a &&& b)) ∧ pcN (b ||| (a - (a &&& b))) = pcN b + pcN (a - (a &&& b)) := by decide +kernel
theorem pc_pos : ∀ a, a < 64 → a ≠ 0 → 1 ≤ pcN a := by decide +kernel
theorem bit_m6 : ∀ s, s < 6 → nI 1 <<< (nI s &&& 31) = nI (2 ^ s) ∧ 2 ^ s < 64 ∧ pcN (2 ^ s) = 1 := by decide +kernel
theorem m6_0 : m6 (nI 0) := ⟨0, by decide, rfl⟩
theorem m6_bit {s : Nat} (h : s < 6) : m6 (nI 1 <<< (nI s &&& 31)) := ⟨2 ^ s, (bit_m6 s h).2.1, (bit_m6 s h).1⟩
theorem m6_or {x y : Int32} (hx : m6 x) (hy : m6 y) : m6 (x ||| y) := by
  obtain ⟨a, ha, rfl⟩ := hx
  obtain ⟨b, hb, rfl⟩ := hy
  exact ⟨_, (or_m6 a ha b hb).2, (or_m6 a ha b hb).1⟩
theorem m6_an {x y : Int32} (hx : m6 x) (hy : m6 y) : m6 (x &&& (y ^^^ (-1))) := by
  obtain ⟨a, ha, rfl⟩ := hx
  obtain ⟨b, hb, rfl⟩ := hy
  exact ⟨_, by omega, (an_m6 a ha b hb).1⟩
theorem m6_wk (W : Nat → Bool) : ∀ n, n ≤ 6 → m6 (wkM W n) := by
  intro n
  induction n with
  | zero => intro _; exact m6_0
  | succ n ih =>
    intro hn
    by_cases h : W n = true
    · rw [wkM_t h]; exact m6_or (ih (by omega)) (m6_bit (by omega))
    · rw [wkM_f h]; exact ih (by omega)
theorem m6_any {f : Nat → Int32} {t : Int32} : ∀ n, (∀ k, k < n → m6 (f k)) → m6 (anyM f t n) := by
  intro n
  induction n with
  | zero => intro _; exact m6_0
  | succ n ih =>
    intro h
    unfold anyM
    split
    · exact m6_or (ih (fun k hk => h k (by omega))) (h n (by omega))
    · exact ih (fun k hk => h k (by omega))
theorem bc_bits {x : Int32} (h : m6 x) : ∃ c, c ≤ 6 ∧ bcF x = nI c ∧ bitsF x 20 = nI c := by
  obtain ⟨m, hm, rfl⟩ := h
  exact ⟨pcN m, pcN_le m, pc_bc m hm⟩
def bcN (x : Int32) : Nat := (bcF x).toNatClampNeg
theorem bcN_of {x : Int32} (h : m6 x) : bcF x = nI (bcN x) ∧ bitsF x 20 = nI (bcN x) ∧ bcN x ≤ 6 := by
  obtain ⟨c, hc, h1, h2⟩ := bc_bits h
  unfold bcN
  rw [h1, nI_cl (by omega)]
  exact ⟨rfl, h2, hc⟩
/-- rounds of waking: fuel, all that turned, who turns now, rounds -/
def runW (f : Int32 → Int32) : Nat → Int32 → Int32 → Nat → Int32 × Nat
  | 0, s, _, r => (s, r)
  | n + 1, s, t, r => if t = nI 0 then (s, r) else runW f n (s ||| (f t &&& (s ^^^ (-1)))) (f t &&& (s ^^^ (-1))) (r + if f t &&& (s ^^^ (-1)) = nI 0 then 0 else 1)
theorem runW_0 (f : Int32 → Int32) (n : Nat) (s : Int32) (r : Nat) : runW f n s (nI 0) r = (s, r) := by
  cases n with
  | zero => rfl
  | succ n => exact if_pos rfl
theorem runW_s {f : Int32 → Int32} {n : Nat} {s t : Int32} {r : Nat} (h : ¬ t = nI 0) : runW f (n + 1) s t r = runW f n (s ||| (f t &&& (s ^^^ (-1)))) (f t &&& (s ^^^ (-1))) (r + if f t &&& (s ^^^ (-1)) = nI 0 then 0 else 1) := if_neg h
section S80
variable {L : Nat} {xs : Nat → Int32} {d : Nat} {w : x_W} {S : Nat} {kd td mo kt tl : Nat → Nat} {tk : Nat → Nat → Nat}
theorem S68 {Q : Option Value → x_W → Prop} (h : CX w S kd td mo kt) {t : Int32} {f : Nat → Int32} (hf : ∀ b, b < S → x_i w 33 b = f b) : X_R L xs d 68 0 [.ref 22, .int t, x_junk, x_junk] [] w Q = Q (some (.int (anyM f t S))) w := by
  have h6 := h.S6
  have hs := h.sh
  have ebv : ∀ m q : Int32, m >>> (q &&& 31) &&& nI 1 = bv m q := fun _ _ => rfl
  have loop : ∀ n j, j + n = S → X_R L xs d 68 4 [.ref 22, .int t, .int (anyM f t j), .int (nI j)] [] w Q = Q (some (.int (anyM f t S))) w := by
    intro n
    induction n with
    | zero =>
      intro j hj
      obtain rfl : j = S := by omega
      rw [X68_4]
      simp only [X68_0, X68_1, X68_2, X68_3, X68_5, X68_6, X68_9, X68_12, X68_13, X68_14, X68_15, X68_16, X68_17, X68_18, X68_21, X68_22, X68_23, X68_26, X68_27, X68_28, X68_29, X68_30, X68_33, X68_36, X68_37, Nat.zero_le, and_true, true_and, x_nb0, x_nb1, x_nbp, x_isL_int, x_isL_ref, x_isL_junk, x_isR_ref, x_cat_nil, x_cat_int, x_cat_ref, x_cat_long, Option.toList_some, Option.toList_none, List.cons_append, List.nil_append, Nat.reduceAdd, Nat.reduceLeDiff, Nat.reduceLT, t_tag_si, t_tag_sr, t_tag_sI, x_r_si, x_i_sr, t_r_sI, x_ia_si, x_ia_sI, x_ia_sr, x_ra_si, x_ra_sI, x_ra_sr, g_t22 hs, h.hS, nI_leT (Nat.le_refl j) (show j < 2 ^ 31 by omega), if_true]
    | succ n ih =>
      intro j hj
      have hjx := x_ix_nI (show j < 6 by omega) (show 6 < 2 ^ 31 by decide)
      have hjc := nI_cl (show j < 2 ^ 31 by omega)
      rw [← ih (j + 1) (by omega), X68_4]
      rcases bv_cases t (nI j) with hb | hb
      · rw [anyM_f hb]
        simp only [X68_0, X68_1, X68_2, X68_3, X68_5, X68_6, X68_9, X68_12, X68_13, X68_14, X68_15, X68_16, X68_17, X68_18, X68_21, X68_22, X68_23, X68_26, X68_27, X68_28, X68_29, X68_30, X68_33, X68_36, X68_37, Nat.zero_le, and_true, true_and, x_nb0, x_nb1, x_nbp, x_isL_int, x_isL_ref, x_isL_junk, x_isR_ref, x_cat_nil, x_cat_int, x_cat_ref, x_cat_long, Option.toList_some, Option.toList_none, List.cons_append, List.nil_append, Nat.reduceAdd, Nat.reduceLeDiff, Nat.reduceLT, t_tag_si, t_tag_sr, t_tag_sI, x_r_si, x_i_sr, t_r_sI, x_ia_si, x_ia_sI, x_ia_sr, x_ra_si, x_ra_sI, x_ra_sr, g_t22 hs, h.hS, nI_leF (show j < S by omega) (show S < 2 ^ 31 by omega), if_false, ebv, hb, n01, nI_add]
      · rw [anyM_t hb]
        simp only [X68_0, X68_1, X68_2, X68_3, X68_5, X68_6, X68_9, X68_12, X68_13, X68_14, X68_15, X68_16, X68_17, X68_18, X68_21, X68_22, X68_23, X68_26, X68_27, X68_28, X68_29, X68_30, X68_33, X68_36, X68_37, Nat.zero_le, and_true, true_and, x_nb0, x_nb1, x_nbp, x_isL_int, x_isL_ref, x_isL_junk, x_isR_ref, x_cat_nil, x_cat_int, x_cat_ref, x_cat_long, Option.toList_some, Option.toList_none, List.cons_append, List.nil_append, Nat.reduceAdd, Nat.reduceLeDiff, Nat.reduceLT, t_tag_si, t_tag_sr, t_tag_sI, x_r_si, x_i_sr, t_r_sI, x_ia_si, x_ia_sI, x_ia_sr, x_ra_si, x_ra_sI, x_ra_sr, g_t22 hs, g_t22 hs, g_r22_0 hs, g_r22_2 hs, g_r22_3 hs, g_r22_5 hs, g_r22_6 hs, g_r22_7 hs, g_r22_8 hs, g_a29 hs, g_r29_0 hs, g_r29_1 hs, g_r29_2 hs, g_r29_3 hs, g_r29_4 hs, g_r29_5 hs, g_a30 hs, g_a31 hs, g_a32 hs, g_a33 hs, g_a34 hs, g_t35 hs, g_t36 hs, g_t37 hs, g_t38 hs, g_t39 hs, g_t40 hs, h.hS, nI_leF (show j < S by omega) (show S < 2 ^ 31 by omega), if_false, ebv, hb, if_true, hjx, hjc, hf j (by omega), nI_add]
  have e := loop S 0 (by omega)
  rw [← e]
  simp only [X68_0, X68_1, X68_2, X68_3, Nat.zero_le, and_true, true_and, x_nb0, x_nb1, x_nbp, x_isL_int, x_isL_ref, x_isL_junk, x_isR_ref, x_cat_nil, x_cat_int, x_cat_ref, x_cat_long, Option.toList_some, Option.toList_none, List.cons_append, List.nil_append, Nat.reduceAdd, Nat.reduceLeDiff, Nat.reduceLT, t_tag_si, t_tag_sr, t_tag_sI, x_r_si, x_i_sr, t_r_sI, x_ia_si, x_ia_sI, x_ia_sr, x_ra_si, x_ra_sI, x_ra_sr]
  rfl
theorem S198 {Q : Option Value → x_W → Prop} (h : CM w S kd td mo kt) {t : Int32} {f : Nat → Int32} (hf : ∀ b, b < S → x_i w 65 b = f b) : X_R L xs d 198 0 [.ref 41, .int t, x_junk, x_junk] [] w Q = Q (some (.int (anyM f t S))) w := by
  have h6 := h.S6
  have hs := h.sh
  have ebv : ∀ m q : Int32, m >>> (q &&& 31) &&& nI 1 = bv m q := fun _ _ => rfl
  have loop : ∀ n j, j + n = S → X_R L xs d 198 4 [.ref 41, .int t, .int (anyM f t j), .int (nI j)] [] w Q = Q (some (.int (anyM f t S))) w := by
    intro n
    induction n with
    | zero =>
      intro j hj
      obtain rfl : j = S := by omega
      rw [X198_4]
      simp only [X198_0, X198_1, X198_2, X198_3, X198_5, X198_6, X198_9, X198_12, X198_13, X198_14, X198_15, X198_16, X198_17, X198_18, X198_19, X198_22, X198_23, X198_26, X198_27, X198_28, X198_31, X198_32, X198_33, X198_34, X198_37, X198_40, X198_41, Nat.zero_le, and_true, true_and, x_nb0, x_nb1, x_nbp, x_isL_int, x_isL_ref, x_isL_junk, x_isR_ref, x_cat_nil, x_cat_int, x_cat_ref, x_cat_long, Option.toList_some, Option.toList_none, List.cons_append, List.nil_append, Nat.reduceAdd, Nat.reduceLeDiff, Nat.reduceLT, t_tag_si, t_tag_sr, t_tag_sI, x_r_si, x_i_sr, t_r_sI, x_ia_si, x_ia_sI, x_ia_sr, x_ra_si, x_ra_sI, x_ra_sr, g_t41 hs, h.hS, nI_leT (Nat.le_refl j) (show j < 2 ^ 31 by omega), if_true]
    | succ n ih =>
      intro j hj
      have hjx := x_ix_nI (show j < 6 by omega) (show 6 < 2 ^ 31 by decide)
      have hjc := nI_cl (show j < 2 ^ 31 by omega)
      rw [← ih (j + 1) (by omega), X198_4]
      rcases bv_cases t (nI j) with hb | hb
      · rw [anyM_f hb]
        simp only [X198_0, X198_1, X198_2, X198_3, X198_5, X198_6, X198_9, X198_12, X198_13, X198_14, X198_15, X198_16, X198_17, X198_18, X198_19, X198_22, X198_23, X198_26, X198_27, X198_28, X198_31, X198_32, X198_33, X198_34, X198_37, X198_40, X198_41, Nat.zero_le, and_true, true_and, x_nb0, x_nb1, x_nbp, x_isL_int, x_isL_ref, x_isL_junk, x_isR_ref, x_cat_nil, x_cat_int, x_cat_ref, x_cat_long, Option.toList_some, Option.toList_none, List.cons_append, List.nil_append, Nat.reduceAdd, Nat.reduceLeDiff, Nat.reduceLT, t_tag_si, t_tag_sr, t_tag_sI, x_r_si, x_i_sr, t_r_sI, x_ia_si, x_ia_sI, x_ia_sr, x_ra_si, x_ra_sI, x_ra_sr, g_t41 hs, h.hS, nI_leF (show j < S by omega) (show S < 2 ^ 31 by omega), if_false, ebv, hb, n01, or_0, nI_add]
      · rw [anyM_t hb]
        simp only [X198_0, X198_1, X198_2, X198_3, X198_5, X198_6, X198_9, X198_12, X198_13, X198_14, X198_15, X198_16, X198_17, X198_18, X198_19, X198_22, X198_23, X198_26, X198_27, X198_28, X198_31, X198_32, X198_33, X198_34, X198_37, X198_40, X198_41, Nat.zero_le, and_true, true_and, x_nb0, x_nb1, x_nbp, x_isL_int, x_isL_ref, x_isL_junk, x_isR_ref, x_cat_nil, x_cat_int, x_cat_ref, x_cat_long, Option.toList_some, Option.toList_none, List.cons_append, List.nil_append, Nat.reduceAdd, Nat.reduceLeDiff, Nat.reduceLT, t_tag_si, t_tag_sr, t_tag_sI, x_r_si, x_i_sr, t_r_sI, x_ia_si, x_ia_sI, x_ia_sr, x_ra_si, x_ra_sI, x_ra_sr, g_t41 hs, g_r41_39 hs, g_a65 hs, h.hS, nI_leF (show j < S by omega) (show S < 2 ^ 31 by omega), if_false, ebv, hb, if_true, hjx, hjc, hf j (by omega), nI_add]
  have e := loop S 0 (by omega)
  rw [← e]
  simp only [X198_0, X198_1, X198_2, X198_3, Nat.zero_le, and_true, true_and, x_nb0, x_nb1, x_nbp, x_isL_int, x_isL_ref, x_isL_junk, x_isR_ref, x_cat_nil, x_cat_int, x_cat_ref, x_cat_long, Option.toList_some, Option.toList_none, List.cons_append, List.nil_append, Nat.reduceAdd, Nat.reduceLeDiff, Nat.reduceLT, t_tag_si, t_tag_sr, t_tag_sI, x_r_si, x_i_sr, t_r_sI, x_ia_si, x_ia_sI, x_ia_sr, x_ra_si, x_ra_sI, x_ra_sr]
  rfl
theorem upd_o {f : Nat → Int32} {k j : Nat} {v : Int32} (h : j ≠ k) : upd f k v j = f j := if_neg h
theorem upd_s {f : Nat → Int32} {k : Nat} {v : Int32} : upd f k v k = v := if_pos rfl
theorem S67 (h : EX w S kd td mo kt tl tk) : ∃ w', Ch (sc [28, 33, 34]) w w' ∧ FarOk w' ∧ (∀ b, b < S → x_i w' 33 b = wkM (fun s => wkB kd td mo kt tl tk (farX w kt) s b) S) ∧ ∀ Q, X_R L xs (d + 6) 67 0 [.ref 22, x_junk] [] w Q = Q none w' := by
  have h6 := h.1.S6
  have loop : ∀ n j, j + n = S → ∀ w1, Ch (sc [28, 33, 34]) w w1 → FarOk w1 → (∀ b, b < j → x_i w1 33 b = wkM (fun s => wkB kd td mo kt tl tk (farX w kt) s b) S) → ∃ w', Ch (sc [28, 33, 34]) w w' ∧ FarOk w' ∧ (∀ b, b < S → x_i w' 33 b = wkM (fun s => wkB kd td mo kt tl tk (farX w kt) s b) S) ∧ ∀ Q, X_R L xs (d + 6) 67 2 [.ref 22, .int (nI j)] [] w1 Q = Q none w' := by
    intro n
    induction n with
    | zero =>
      intro j hj w1 c1 hF1 hT
      obtain rfl : j = S := by omega
      have hX1 := h.ch (c1.a rfl) hF1
      refine ⟨w1, c1, hF1, hT, fun Q => ?_⟩
      rw [X67_2]
      simp only [X67_0, X67_1, X67_3, X67_4, X67_7, X67_10, X67_11, X67_14, X67_15, X67_16, X67_17, X67_20, X67_21, X67_24, X67_27, Nat.zero_le, and_true, true_and, x_nb0, x_nb1, x_nbp, x_isL_int, x_isL_ref, x_isL_junk, x_isR_ref, x_cat_nil, x_cat_int, x_cat_ref, x_cat_long, Option.toList_some, Option.toList_none, List.cons_append, List.nil_append, Nat.reduceAdd, Nat.reduceLeDiff, Nat.reduceLT, t_tag_si, t_tag_sr, t_tag_sI, x_r_si, x_i_sr, t_r_sI, x_ia_si, x_ia_sI, x_ia_sr, x_ra_si, x_ra_sI, x_ra_sr, g_t22 hX1.sh, hX1.1.hS, nI_leT (Nat.le_refl j) (show j < 2 ^ 31 by omega), if_true]
    | succ n ih =>
      intro j hj w1 c1 hF1 hT
      have hX1 := h.ch (c1.a rfl) hF1
      have hjx := x_ix_nI (show j < 6 by omega) (show 6 < 2 ^ 31 by decide)
      have hjc := nI_cl (show j < 2 ^ 31 by omega)
      obtain ⟨w2, c2, hF2, e65⟩ := S65 (L := L) (xs := xs) (d := d) hX1 (show j < S by omega)
      rw [farX_ch (c1.a rfl)] at e65
      have hX2 := hX1.ch (c2.a rfl) hF2
      have e33 : x_i w2 33 = x_i w1 33 := c2.i (fun _ => rfl)
      have c3 : Ch (sc [33]) w2 (x_si w2 33 j (wkM (fun s => wkB kd td mo kt tl tk (farX w kt) s j) S)) := Ch_si rfl
      obtain ⟨w4, c4, hF4, hT4, e4⟩ := ih (j + 1) (by omega) (x_si w2 33 j (wkM (fun s => wkB kd td mo kt tl tk (farX w kt) s j) S)) (c1.trans ((c2.up rfl).trans (c3.up rfl))) (hF2.ch c3 rfl rfl (by unfold x_si; rw [x_i_sIn _ _ _ (by decide)]))  (by
        intro b hb
        rw [x_i_si]
        by_cases hbj : b = j
        · subst hbj; rw [upd_s]
        · rw [upd_o hbj, e33]; exact hT b (by omega))
      refine ⟨w4, c4, hF4, hT4, fun Q => ?_⟩
      rw [← e4 Q, X67_2]
      simp only [X67_0, X67_1, X67_3, X67_4, X67_7, X67_10, X67_11, X67_14, X67_15, X67_16, X67_17, X67_20, X67_21, X67_24, X67_27, Nat.zero_le, and_true, true_and, x_nb0, x_nb1, x_nbp, x_isL_int, x_isL_ref, x_isL_junk, x_isR_ref, x_cat_nil, x_cat_int, x_cat_ref, x_cat_long, Option.toList_some, Option.toList_none, List.cons_append, List.nil_append, Nat.reduceAdd, Nat.reduceLeDiff, Nat.reduceLT, t_tag_si, t_tag_sr, t_tag_sI, x_r_si, x_i_sr, t_r_sI, x_ia_si, x_ia_sI, x_ia_sr, x_ra_si, x_ra_sI, x_ra_sr, g_t22 hX1.sh, g_r22_7 hX1.sh, hX1.1.hS, nI_leF (show j < S by omega) (show S < 2 ^ 31 by omega), if_false, e65, g_a33 hX2.sh, hjx, hjc, nI_add]
  obtain ⟨w', c', hF', hT', e'⟩ := loop S 0 (by omega) w Ch.refl h.2.2 (fun b hb => absurd hb (Nat.not_lt_zero _))
  refine ⟨w', c', hF', hT', fun Q => ?_⟩
  rw [← e' Q]
  simp only [X67_0, X67_1, Nat.zero_le, and_true, true_and, x_nb0, x_nb1, x_nbp, x_isL_int, x_isL_ref, x_isL_junk, x_isR_ref, x_cat_nil, x_cat_int, x_cat_ref, x_cat_long, Option.toList_some, Option.toList_none, List.cons_append, List.nil_append, Nat.reduceAdd, Nat.reduceLeDiff, Nat.reduceLT, t_tag_si, t_tag_sr, t_tag_sI, x_r_si, x_i_sr, t_r_sI, x_ia_si, x_ia_sI, x_ia_sr, x_ra_si, x_ra_sI, x_ra_sr]
theorem S195 (h : EM w S kd td mo kt tl tk) : ∃ w', Ch (sm [58, 59, 65]) w w' ∧ (∀ b, b < S → x_i w' 65 b = wkM (fun s => wkB kd td mo kt tl tk (farM w kt) s b) S) ∧ ∀ Q, X_R L xs (d + 6) 195 0 [.ref 41, x_junk] [] w Q = Q none w' := by
  have h6 := h.1.S6
  have loop : ∀ n j, j + n = S → ∀ w1, Ch (sm [58, 59, 65]) w w1 → (∀ b, b < j → x_i w1 65 b = wkM (fun s => wkB kd td mo kt tl tk (farM w kt) s b) S) → ∃ w', Ch (sm [58, 59, 65]) w w' ∧ (∀ b, b < S → x_i w' 65 b = wkM (fun s => wkB kd td mo kt tl tk (farM w kt) s b) S) ∧ ∀ Q, X_R L xs (d + 6) 195 2 [.ref 41, .int (nI j)] [] w1 Q = Q none w' := by
    intro n
    induction n with
    | zero =>
      intro j hj w1 c1 hT
      obtain rfl : j = S := by omega
      have hX1 := h.ch (c1.ma rfl)
      refine ⟨w1, c1, hT, fun Q => ?_⟩
      rw [X195_2]
      simp only [X195_0, X195_1, X195_3, X195_4, X195_7, X195_10, X195_11, X195_14, X195_15, X195_16, X195_17, X195_20, X195_21, X195_24, X195_27, Nat.zero_le, and_true, true_and, x_nb0, x_nb1, x_nbp, x_isL_int, x_isL_ref, x_isL_junk, x_isR_ref, x_cat_nil, x_cat_int, x_cat_ref, x_cat_long, Option.toList_some, Option.toList_none, List.cons_append, List.nil_append, Nat.reduceAdd, Nat.reduceLeDiff, Nat.reduceLT, t_tag_si, t_tag_sr, t_tag_sI, x_r_si, x_i_sr, t_r_sI, x_ia_si, x_ia_sI, x_ia_sr, x_ra_si, x_ra_sI, x_ra_sr, g_t41 hX1.sh, hX1.1.hS, nI_leT (Nat.le_refl j) (show j < 2 ^ 31 by omega), if_true]
    | succ n ih =>
      intro j hj w1 c1 hT
      have hX1 := h.ch (c1.ma rfl)
      have hjx := x_ix_nI (show j < 6 by omega) (show 6 < 2 ^ 31 by decide)
      have hjc := nI_cl (show j < 2 ^ 31 by omega)
      obtain ⟨w2, c2, e65⟩ := S196 (L := L) (xs := xs) (d := d) hX1 (show j < S by omega)
      rw [farM_ch (c1.ma rfl)] at e65
      have hX2 := hX1.ch (c2.ma rfl)
      have e33 : x_i w2 65 = x_i w1 65 := c2.i (fun _ => rfl)
      have c3 : Ch (sm [58, 59, 65]) w2 (x_si w2 65 j (wkM (fun s => wkB kd td mo kt tl tk (farM w kt) s j) S)) := Ch_si rfl
      obtain ⟨w4, c4, hT4, e4⟩ := ih (j + 1) (by omega) (x_si w2 65 j (wkM (fun s => wkB kd td mo kt tl tk (farM w kt) s j) S)) (c1.trans ((c2.mup rfl).trans c3)) (by
        intro b hb
        rw [x_i_si]
        by_cases hbj : b = j
        · subst hbj; rw [upd_s]
        · rw [upd_o hbj, e33]; exact hT b (by omega))
      refine ⟨w4, c4, hT4, fun Q => ?_⟩
      rw [← e4 Q, X195_2]
      simp only [X195_0, X195_1, X195_3, X195_4, X195_7, X195_10, X195_11, X195_14, X195_15, X195_16, X195_17, X195_20, X195_21, X195_24, X195_27, Nat.zero_le, and_true, true_and, x_nb0, x_nb1, x_nbp, x_isL_int, x_isL_ref, x_isL_junk, x_isR_ref, x_cat_nil, x_cat_int, x_cat_ref, x_cat_long, Option.toList_some, Option.toList_none, List.cons_append, List.nil_append, Nat.reduceAdd, Nat.reduceLeDiff, Nat.reduceLT, t_tag_si, t_tag_sr, t_tag_sI, x_r_si, x_i_sr, t_r_sI, x_ia_si, x_ia_sI, x_ia_sr, x_ra_si, x_ra_sI, x_ra_sr, g_t41 hX1.sh, g_r41_39 hX1.sh, hX1.1.hS, nI_leF (show j < S by omega) (show S < 2 ^ 31 by omega), if_false, e65, g_a65 hX2.sh, hjx, hjc, nI_add]
  obtain ⟨w', c', hT', e'⟩ := loop S 0 (by omega) w Ch.refl (fun b hb => absurd hb (Nat.not_lt_zero _))
  refine ⟨w', c', hT', fun Q => ?_⟩
  rw [← e' Q]
  simp only [X195_0, X195_1, Nat.zero_le, and_true, true_and, x_nb0, x_nb1, x_nbp, x_isL_int, x_isL_ref, x_isL_junk, x_isR_ref, x_cat_nil, x_cat_int, x_cat_ref, x_cat_long, Option.toList_some, Option.toList_none, List.cons_append, List.nil_append, Nat.reduceAdd, Nat.reduceLeDiff, Nat.reduceLT, t_tag_si, t_tag_sr, t_tag_sI, x_r_si, x_i_sr, t_r_sI, x_ia_si, x_ia_sI, x_ia_sr, x_ra_si, x_ra_sI, x_ra_sr]
def unN (W : Nat → Nat → Bool) (S : Nat) : Nat → Nat
  | 0 => 0
  | n + 1 => unN W S n + bcN (wkM (fun s => W s n) S)
theorem unN_le {W : Nat → Nat → Bool} {S : Nat} (h6 : S ≤ 6) (n : Nat) : unN W S n ≤ 6 * n := by
  induction n with
  | zero => exact Nat.le_refl _
  | succ n ih =>
    unfold unN
    have := (bcN_of (m6_wk (fun s => W s n) S h6)).2.2
    omega
theorem S69 (h : EX w S kd td mo kt tl tk) : ∃ w', Ch (sc [28, 34]) w w' ∧ FarOk w' ∧ ∀ Q, X_R L xs (d + 6) 69 0 [.ref 22, x_junk, x_junk] [] w Q = Q (some (.int (nI (unN (wkB kd td mo kt tl tk (farX w kt)) S S)))) w' := by
  have h6 := h.1.S6
  have loop : ∀ n j, j + n = S → ∀ w1, Ch (sc [28, 34]) w w1 → FarOk w1 → ∃ w', Ch (sc [28, 34]) w w' ∧ FarOk w' ∧ ∀ Q, X_R L xs (d + 6) 69 4 [.ref 22, .int (nI (unN (wkB kd td mo kt tl tk (farX w kt)) S j)), .int (nI j)] [] w1 Q = Q (some (.int (nI (unN (wkB kd td mo kt tl tk (farX w kt)) S S)))) w' := by
    intro n
    induction n with
    | zero =>
      intro j hj w1 c1 hF1
      obtain rfl : j = S := by omega
      have hX1 := h.ch (c1.a rfl) hF1
      refine ⟨w1, c1, hF1, fun Q => ?_⟩
      rw [X69_4]
      simp only [X69_0, X69_1, X69_2, X69_3, X69_5, X69_6, X69_9, X69_12, X69_13, X69_14, X69_15, X69_18, X69_21, X69_22, X69_23, X69_26, X69_29, X69_30, Nat.zero_le, and_true, true_and, x_nb0, x_nb1, x_nbp, x_isL_int, x_isL_ref, x_isL_junk, x_isR_ref, x_cat_nil, x_cat_int, x_cat_ref, x_cat_long, Option.toList_some, Option.toList_none, List.cons_append, List.nil_append, Nat.reduceAdd, Nat.reduceLeDiff, Nat.reduceLT, t_tag_si, t_tag_sr, t_tag_sI, x_r_si, x_i_sr, t_r_sI, x_ia_si, x_ia_sI, x_ia_sr, x_ra_si, x_ra_sI, x_ra_sr, g_t22 hX1.sh, hX1.1.hS, nI_leT (Nat.le_refl j) (show j < 2 ^ 31 by omega), if_true]
    | succ n ih =>
      intro j hj w1 c1 hF1
      have hX1 := h.ch (c1.a rfl) hF1
      obtain ⟨w2, c2, hF2, e65⟩ := S65 (L := L) (xs := xs) (d := d) hX1 (show j < S by omega)
      rw [farX_ch (c1.a rfl)] at e65
      obtain ⟨w3, c3, hF3, e3⟩ := ih (j + 1) (by omega) w2 (c1.trans c2) hF2
      have hbc := (bcN_of (m6_wk (fun s => wkB kd td mo kt tl tk (farX w kt) s j) S h6)).1
      refine ⟨w3, c3, hF3, fun Q => ?_⟩
      have eu : unN (wkB kd td mo kt tl tk (farX w kt)) S (j + 1) = unN (wkB kd td mo kt tl tk (farX w kt)) S j + bcN (wkM (fun s => wkB kd td mo kt tl tk (farX w kt) s j) S) := rfl
      rw [← e3 Q, X69_4, eu]
      simp only [X69_0, X69_1, X69_2, X69_3, X69_5, X69_6, X69_9, X69_12, X69_13, X69_14, X69_15, X69_18, X69_21, X69_22, X69_23, X69_26, X69_29, X69_30, Nat.zero_le, and_true, true_and, x_nb0, x_nb1, x_nbp, x_isL_int, x_isL_ref, x_isL_junk, x_isR_ref, x_cat_nil, x_cat_int, x_cat_ref, x_cat_long, Option.toList_some, Option.toList_none, List.cons_append, List.nil_append, Nat.reduceAdd, Nat.reduceLeDiff, Nat.reduceLT, t_tag_si, t_tag_sr, t_tag_sI, x_r_si, x_i_sr, t_r_sI, x_ia_si, x_ia_sI, x_ia_sr, x_ra_si, x_ra_sI, x_ra_sr, g_t22 hX1.sh, hX1.1.hS, nI_leF (show j < S by omega) (show S < 2 ^ 31 by omega), if_false, e65, S245, hbc, nI_add]
  obtain ⟨w', c', hF', e'⟩ := loop S 0 (by omega) w Ch.refl h.2.2
  refine ⟨w', c', hF', fun Q => ?_⟩
  rw [← e' Q]
  simp only [X69_0, X69_1, X69_2, X69_3, Nat.zero_le, and_true, true_and, x_nb0, x_nb1, x_nbp, x_isL_int, x_isL_ref, x_isL_junk, x_isR_ref, x_cat_nil, x_cat_int, x_cat_ref, x_cat_long, Option.toList_some, Option.toList_none, List.cons_append, List.nil_append, Nat.reduceAdd, Nat.reduceLeDiff, Nat.reduceLT, t_tag_si, t_tag_sr, t_tag_sI, x_r_si, x_i_sr, t_r_sI, x_ia_si, x_ia_sI, x_ia_sr, x_ra_si, x_ra_sI, x_ra_sr]
  rfl
theorem S199 (h : EM w S kd td mo kt tl tk) : ∃ w', Ch (sm [58, 59]) w w' ∧ ∀ Q, X_R L xs (d + 6) 199 0 [.ref 41, x_junk, x_junk] [] w Q = Q (some (.int (nI (unN (wkB kd td mo kt tl tk (farM w kt)) S S)))) w' := by
  have h6 := h.1.S6
  have loop : ∀ n j, j + n = S → ∀ w1, Ch (sm [58, 59]) w w1 → ∃ w', Ch (sm [58, 59]) w w' ∧ ∀ Q, X_R L xs (d + 6) 199 4 [.ref 41, .int (nI (unN (wkB kd td mo kt tl tk (farM w kt)) S j)), .int (nI j)] [] w1 Q = Q (some (.int (nI (unN (wkB kd td mo kt tl tk (farM w kt)) S S)))) w' := by
    intro n
    induction n with
    | zero =>
      intro j hj w1 c1
      obtain rfl : j = S := by omega
      have hX1 := h.ch (c1.ma rfl)
      refine ⟨w1, c1, fun Q => ?_⟩
      rw [X199_4]
      simp only [X199_0, X199_1, X199_2, X199_3, X199_5, X199_6, X199_9, X199_12, X199_13, X199_14, X199_15, X199_18, X199_21, X199_22, X199_23, X199_26, X199_29, X199_30, Nat.zero_le, and_true, true_and, x_nb0, x_nb1, x_nbp, x_isL_int, x_isL_ref, x_isL_junk, x_isR_ref, x_cat_nil, x_cat_int, x_cat_ref, x_cat_long, Option.toList_some, Option.toList_none, List.cons_append, List.nil_append, Nat.reduceAdd, Nat.reduceLeDiff, Nat.reduceLT, t_tag_si, t_tag_sr, t_tag_sI, x_r_si, x_i_sr, t_r_sI, x_ia_si, x_ia_sI, x_ia_sr, x_ra_si, x_ra_sI, x_ra_sr, g_t41 hX1.sh, hX1.1.hS, nI_leT (Nat.le_refl j) (show j < 2 ^ 31 by omega), if_true]
    | succ n ih =>
      intro j hj w1 c1
      have hX1 := h.ch (c1.ma rfl)
      obtain ⟨w2, c2, e65⟩ := S196 (L := L) (xs := xs) (d := d) hX1 (show j < S by omega)
      rw [farM_ch (c1.ma rfl)] at e65
      obtain ⟨w3, c3, e3⟩ := ih (j + 1) (by omega) w2 (c1.trans c2)
      have hbc := (bcN_of (m6_wk (fun s => wkB kd td mo kt tl tk (farM w kt) s j) S h6)).2.1
      refine ⟨w3, c3, fun Q => ?_⟩
      have eu : unN (wkB kd td mo kt tl tk (farM w kt)) S (j + 1) = unN (wkB kd td mo kt tl tk (farM w kt)) S j + bcN (wkM (fun s => wkB kd td mo kt tl tk (farM w kt) s j) S) := rfl
      rw [← e3 Q, X199_4, eu]
      simp only [X199_0, X199_1, X199_2, X199_3, X199_5, X199_6, X199_9, X199_12, X199_13, X199_14, X199_15, X199_18, X199_21, X199_22, X199_23, X199_26, X199_29, X199_30, Nat.zero_le, and_true, true_and, x_nb0, x_nb1, x_nbp, x_isL_int, x_isL_ref, x_isL_junk, x_isR_ref, x_cat_nil, x_cat_int, x_cat_ref, x_cat_long, Option.toList_some, Option.toList_none, List.cons_append, List.nil_append, Nat.reduceAdd, Nat.reduceLeDiff, Nat.reduceLT, t_tag_si, t_tag_sr, t_tag_sI, x_r_si, x_i_sr, t_r_sI, x_ia_si, x_ia_sI, x_ia_sr, x_ra_si, x_ra_sI, x_ra_sr, g_t41 hX1.sh, hX1.1.hS, nI_leF (show j < S by omega) (show S < 2 ^ 31 by omega), if_false, e65, S158, hbc, nI_add]
  obtain ⟨w', c', e'⟩ := loop S 0 (by omega) w Ch.refl
  refine ⟨w', c', fun Q => ?_⟩
  rw [← e' Q]
  simp only [X199_0, X199_1, X199_2, X199_3, Nat.zero_le, and_true, true_and, x_nb0, x_nb1, x_nbp, x_isL_int, x_isL_ref, x_isL_junk, x_isR_ref, x_cat_nil, x_cat_int, x_cat_ref, x_cat_long, Option.toList_some, Option.toList_none, List.cons_append, List.nil_append, Nat.reduceAdd, Nat.reduceLeDiff, Nat.reduceLT, t_tag_si, t_tag_sr, t_tag_sI, x_r_si, x_i_sr, t_r_sI, x_ia_si, x_ia_sI, x_ia_sr, x_ra_si, x_ra_sI, x_ra_sr]
  rfl
end S80
