/-! ===== distances the other way; the calls felt, wakes, night, woken ===== -/
def Sy (C : Nat → Int32) : Prop := ∀ k o, k < 20 → o < 20 → meB (C k) o = meB (C o) k
theorem Lr_0 {C : Nat → Int32} {a k : Nat} (ha : a < 20) (hk : k < 20) : LrB C a 0 k = true ↔ k = a := by
  have e : LrB C a 0 k = decide (k = a) := meB_one a ha k hk
  rw [e, decide_eq_true_eq]
theorem Lr_b {C : Nat → Int32} {a r k : Nat} (hk : k < 20) : LrB C a (r + 1) k = true ↔ LrB C a r k = true ∨ ∃ q, q < 20 ∧ LrB C a r q = true ∧ meB (C q) k = true := by
  rw [LrB_s C a r (by omega), Bool.or_eq_true, adB_t]
  exact Iff.rfl
theorem Lr_f {C : Nat → Int32} : ∀ r a k, a < 20 → k < 20 → (LrB C a (r + 1) k = true ↔ LrB C a r k = true ∨ ∃ q, q < 20 ∧ meB (C a) q = true ∧ LrB C q r k = true) := by
  intro r
  induction r with
  | zero =>
    intro a k ha hk
    rw [Lr_b hk]
    constructor
    · rintro (h | ⟨q, hq, h1, h2⟩)
      · exact Or.inl h
      · rw [Lr_0 ha hq] at h1
        subst h1
        exact Or.inr ⟨k, hk, h2, (Lr_0 hk hk).mpr rfl⟩
    · rintro (h | ⟨q, hq, h1, h2⟩)
      · exact Or.inl h
      · rw [Lr_0 hq hk] at h2
        subst h2
        exact Or.inr ⟨a, ha, (Lr_0 ha ha).mpr rfl, h1⟩
  | succ r ih =>
    intro a k ha hk
    rw [Lr_b hk]
    constructor
    · rintro (h | ⟨q, hq, h1, h2⟩)
      · exact Or.inl h
      · rcases (ih a q ha hq).mp h1 with h3 | ⟨p, hp, h3, h4⟩
        · exact Or.inl ((Lr_b hk).mpr (Or.inr ⟨q, hq, h3, h2⟩))
        · exact Or.inr ⟨p, hp, h3, (Lr_b hk).mpr (Or.inr ⟨q, hq, h4, h2⟩)⟩
    · rintro (h | ⟨p, hp, h1, h2⟩)
      · exact Or.inl h
      · rcases (Lr_b hk).mp h2 with h3 | ⟨q, hq, h3, h4⟩
        · exact Or.inl ((ih a k ha hk).mpr (Or.inr ⟨p, hp, h1, h3⟩))
        · exact Or.inr ⟨q, hq, (ih a q ha hq).mpr (Or.inr ⟨p, hp, h1, h3⟩), h4⟩
theorem Lr_sym {C : Nat → Int32} (hS : Sy C) : ∀ r a k, a < 20 → k < 20 → (LrB C a r k = true ↔ LrB C k r a = true) := by
  intro r
  induction r with
  | zero => intro a k ha hk; rw [Lr_0 ha hk, Lr_0 hk ha]; exact eq_comm
  | succ r ih =>
    intro a k ha hk
    rw [Lr_b hk, Lr_f r k a hk ha, ih a k ha hk]
    constructor
    · rintro (h | ⟨q, hq, h1, h2⟩)
      · exact Or.inl h
      · exact Or.inr ⟨q, hq, by rw [hS k q hk hq]; exact h2, (ih a q ha hq).mp h1⟩
    · rintro (h | ⟨q, hq, h1, h2⟩)
      · exact Or.inl h
      · exact Or.inr ⟨q, hq, (ih a q ha hq).mpr h2, by rw [hS q k hq hk]; exact h1⟩
theorem farF_sym {C : Nat → Int32} (hS : Sy C) {a k : Nat} (ha : a < 20) (hk : k < 20) : ∀ n r, farF C (nI a) (nI k) n r = farF C (nI k) (nI a) n r := by
  intro n
  induction n with
  | zero => intro r; rfl
  | succ n ih =>
    intro r
    have h := Lr_sym hS r a k ha hk
    unfold LrB meB at h
    rw [decide_eq_true_eq, decide_eq_true_eq] at h
    unfold farF
    rw [ih (r + 1)]
    by_cases h1 : bv (rchN C (nI a) r) (nI k) = nI 1
    · rw [if_pos h1, if_pos (h.mp h1)]
    · rw [if_neg h1, if_neg (fun q => h1 (h.mpr q))]
theorem unN_cg {W W' : Nat → Nat → Bool} {S : Nat} : ∀ n, (∀ s b, s < S → b < n → W s b = W' s b) → unN W S n = unN W' S n := by
  intro n
  induction n with
  | zero => intro _; rfl
  | succ n ih =>
    intro h
    have e1 : unN W S (n + 1) = unN W S n + bcN (wkM (fun s => W s n) S) := rfl
    have e2 : unN W' S (n + 1) = unN W' S n + bcN (wkM (fun s => W' s n) S) := rfl
    have e3 : wkM (fun s => W s n) S = wkM (fun s => W' s n) S := wkM_cg (fun s hs => h s n hs (Nat.lt_succ_self n))
    rw [e1, e2, e3, ih (fun s b hs hb => h s b hs (by omega))]
/-- both sides stand alike for a question -/
def AG (w : x_W) (S : Nat) (kd td mo kt tl : Nat → Nat) (tk : Nat → Nat → Nat) : Prop := EX w S kd td mo kt tl tk ∧ EM w S kd td mo kt tl tk ∧ AgC w ∧ CdM (x_i w 24) ∧ Sy (x_i w 24)
/-- a question answered alike -/
def AQ (L : Nat) (xs : Nat → Int32) (d mx mm : Nat) (ax am : List Value) (w : x_W) : Prop := ∃ v w1 w', ChA w w' ∧ FarOk w' ∧ (∀ Q, X_R L xs d mx 0 ax [] w Q = Q (some v) w1) ∧ ∀ Q, X_R L xs d mm 0 am [] w1 Q = Q (some v) w'
section S81a
variable {L : Nat} {xs : Nat → Int32} {d : Nat} {w w' : x_W} {S : Nat} {kd td mo kt tl : Nat → Nat} {tk : Nat → Nat → Nat}
theorem AgC.ch (h : AgC w) (hc : ChA w w') : AgC w' := by
  unfold AgC at *
  rw [EX.C hc, EM.C hc, hc.2.2 23 1 rfl, hc.2.2 41 1 rfl]
  exact h
theorem AG.ch (h : AG w S kd td mo kt tl tk) (hc : ChA w w') (hf : FarOk w') : AG w' S kd td mo kt tl tk := ⟨h.1.ch hc hf, h.2.1.ch hc, h.2.2.1.ch hc, by rw [EX.C hc]; exact h.2.2.2.1, by rw [EX.C hc]; exact h.2.2.2.2⟩
theorem AG.far (h : AG w S kd td mo kt tl tk) {s b : Nat} (hs : s < 6) (hb : b < 6) : farX w kt s b = farM w kt s b := by
  unfold farX farM
  have hk := h.1.1.bd
  rw [← far_eq h.2.2.1]
  exact farF_sym h.2.2.2.2 (hk s hs).2.2.2 (hk b hb).2.2.2 20 0
theorem AG.fe (h : AG w S kd td mo kt tl tk) {s b : Nat} (hs : s < 6) (hb : b < 6) : feN kd td mo kt tl tk (farX w kt s b) s b = feN kd td mo kt tl tk (farM w kt s b) s b := by rw [h.far hs hb]
theorem AG.wk (h : AG w S kd td mo kt tl tk) {s b : Nat} (hs : s < 6) (hb : b < 6) : wkB kd td mo kt tl tk (farX w kt) s b = wkB kd td mo kt tl tk (farM w kt) s b := by
  unfold wkB
  rw [h.far hs hb]
theorem AG.M (h : AG w S kd td mo kt tl tk) {b : Nat} (hb : b < 6) : wkM (fun s => wkB kd td mo kt tl tk (farX w kt) s b) S = wkM (fun s => wkB kd td mo kt tl tk (farM w kt) s b) S := wkM_cg (fun s hs => h.wk (by have := h.1.1.S6; omega) hb)
theorem AG.Cn (h : AG w S kd td mo kt tl tk) {s : Nat} (hs : s < 6) : wkC (fun b => wkB kd td mo kt tl tk (farX w kt) s b) S = wkC (fun b => wkB kd td mo kt tl tk (farM w kt) s b) S := wkC_cg (fun b hb => h.wk hs (by have := h.1.1.S6; omega))
theorem AG.un (h : AG w S kd td mo kt tl tk) : unN (wkB kd td mo kt tl tk (farX w kt)) S S = unN (wkB kd td mo kt tl tk (farM w kt)) S S := unN_cg S (fun s b hs hb => h.wk (by have := h.1.1.S6; omega) (by have := h.1.1.S6; omega))
abbrev slp (S : Nat) (v : Int32) : Prop := nI 0 ≤ v ∧ v < nI S
theorem slp_of {v : Int32} (h6 : S ≤ 6) (h : slp S v) : ∃ s, s < S ∧ v = nI s := by
  have h0 : (nI 0).toInt = 0 := rfl
  have e : ∀ S, S ≤ 6 → (nI S).toInt = (S : Int) := by decide +kernel
  have h1 := h.1
  have h2 := h.2
  rw [Int32.le_iff_toInt_le, h0] at h1
  rw [Int32.lt_iff_toInt_lt, e S h6] at h2
  obtain ⟨j, hj⟩ := Int.eq_ofNat_of_zero_le h1
  refine ⟨j, by omega, ?_⟩
  rw [← Int32.toInt_inj, hj, e j (by omega)]
theorem slp_nI {s : Nat} (h6 : S ≤ 6) (h : s < S) : slp S (nI s) := ⟨nI_le (Nat.zero_le _) (by omega), nI_lt h (by omega)⟩
theorem slp_m1 {v : Int32} (h6 : S ≤ 6) : (nI 0 ≤ v ∧ v ≤ nI S - nI 1) ↔ slp S v := by
  have e : ∀ S, S ≤ 6 → (nI S).toInt = (S : Int) ∧ (nI S - nI 1).toInt = (S : Int) - 1 := by decide +kernel
  unfold slp
  rw [Int32.le_iff_toInt_le, Int32.le_iff_toInt_le, Int32.lt_iff_toInt_lt, (e S h6).1, (e S h6).2]
  omega
theorem S55 {v : Int32} {Q : Option Value → x_W → Prop} (h : CX w S kd td mo kt) : X_R L xs d 55 0 [.ref 22, .int v] [] w Q = Q (some (.int (bI (slp S v)))) w := by
  have hs := h.sh
  by_cases h1 : v < nI 0
  · rw [bI_f (fun q => absurd h1 (Int32.not_lt.mpr q.1))]
    simp only [X55_0, X55_1, X55_4, X55_5, X55_6, X55_9, X55_12, X55_13, X55_16, X55_17, Nat.zero_le, and_true, true_and, x_nb0, x_nb1, x_nbp, x_isL_int, x_isL_ref, x_isL_junk, x_isR_ref, x_cat_nil, x_cat_int, x_cat_ref, x_cat_long, Option.toList_some, Option.toList_none, List.cons_append, List.nil_append, Nat.reduceAdd, Nat.reduceLeDiff, Nat.reduceLT, t_tag_si, t_tag_sr, t_tag_sI, x_r_si, x_i_sr, t_r_sI, x_ia_si, x_ia_sI, x_ia_sr, x_ra_si, x_ra_sI, x_ra_sr, h1, if_true]
  · by_cases h2 : nI S ≤ v
    · rw [bI_f (fun q => absurd q.2 (Int32.not_lt.mpr h2))]
      simp only [X55_0, X55_1, X55_4, X55_5, X55_6, X55_9, X55_12, X55_13, X55_16, X55_17, Nat.zero_le, and_true, true_and, x_nb0, x_nb1, x_nbp, x_isL_int, x_isL_ref, x_isL_junk, x_isR_ref, x_cat_nil, x_cat_int, x_cat_ref, x_cat_long, Option.toList_some, Option.toList_none, List.cons_append, List.nil_append, Nat.reduceAdd, Nat.reduceLeDiff, Nat.reduceLT, t_tag_si, t_tag_sr, t_tag_sI, x_r_si, x_i_sr, t_r_sI, x_ia_si, x_ia_sI, x_ia_sr, x_ra_si, x_ra_sI, x_ra_sr, h1, if_false, g_t22 hs, h.hS, h2, if_true]
    · rw [bI_t ⟨Int32.not_lt.mp h1, Int32.not_le.mp h2⟩]
      simp only [X55_0, X55_1, X55_4, X55_5, X55_6, X55_9, X55_12, X55_13, X55_16, X55_17, Nat.zero_le, and_true, true_and, x_nb0, x_nb1, x_nbp, x_isL_int, x_isL_ref, x_isL_junk, x_isR_ref, x_cat_nil, x_cat_int, x_cat_ref, x_cat_long, Option.toList_some, Option.toList_none, List.cons_append, List.nil_append, Nat.reduceAdd, Nat.reduceLeDiff, Nat.reduceLT, t_tag_si, t_tag_sr, t_tag_sI, x_r_si, x_i_sr, t_r_sI, x_ia_si, x_ia_sI, x_ia_sr, x_ra_si, x_ra_sI, x_ra_sr, h1, if_false, g_t22 hs, h.hS, h2]
theorem S169 {v : Int32} {Q : Option Value → x_W → Prop} (h : CM w S kd td mo kt) : X_R L xs (d + 1) 169 0 [.ref 41, .int v] [] w Q = Q (some (.int (bI (slp S v)))) w := by
  have hs := h.sh
  have e : bI (nI 0 ≤ v ∧ v ≤ nI S - nI 1) = bI (slp S v) := bI_c (slp_m1 h.S6)
  simp only [X169_0, X169_1, X169_2, X169_3, X169_6, X169_7, X169_8, X169_11, Nat.zero_le, and_true, true_and, x_nb0, x_nb1, x_nbp, x_isL_int, x_isL_ref, x_isL_junk, x_isR_ref, x_cat_nil, x_cat_int, x_cat_ref, x_cat_long, Option.toList_some, Option.toList_none, List.cons_append, List.nil_append, Nat.reduceAdd, Nat.reduceLeDiff, Nat.reduceLT, t_tag_si, t_tag_sr, t_tag_sI, x_r_si, x_i_sr, t_r_sI, x_ia_si, x_ia_sI, x_ia_sr, x_ra_si, x_ra_sI, x_ra_sr, g_t41 hs, h.hS, S138, e, bI_nb]
/-- refusals change nothing -/
theorem AQ_no {mx mm : Nat} {ax am : List Value} {v : Value} (hF : FarOk w) (h1 : ∀ Q, X_R L xs d mx 0 ax [] w Q = Q (some v) w) (h2 : ∀ Q, X_R L xs d mm 0 am [] w Q = Q (some v) w) : AQ L xs d mx mm ax am w := ⟨v, w, w, Ch.refl, hF, h1, h2⟩
theorem bI_s {p : Prop} [Decidable p] (h : p) : bI p = nI 1 := if_pos h
theorem AQ_felt (h : AG w S kd td mo kt tl tk) (u v : Int32) : AQ L xs (d + 12) 23 190 [.ref 0, .int u, .int v] [.ref 41, .int u, .int v] w := by
  have hs := h.1.sh
  have h55 := fun (v : Int32) (Q' : Option Value → x_W → Prop) => S55 (L := L) (xs := xs) (d := d + 11) (v := v) (Q := Q') h.1.1
  have h169 := fun (v : Int32) (Q' : Option Value → x_W → Prop) => S169 (L := L) (xs := xs) (d := d + 10) (v := v) (Q := Q') h.2.1.1
  have h6 := h.1.1.S6
  by_cases h1 : slp S u
  · by_cases h2 : slp S v
    · by_cases h3 : u = v
      · refine AQ_no (v := .int (-5)) h.1.2.2 (fun Q => ?_) (fun Q => ?_)
        · simp only [X23_0, X23_1, X23_4, X23_5, X23_8, X23_11, X23_12, X23_15, X23_16, X23_19, X23_22, X23_23, X23_24, X23_27, X23_29, X23_30, X23_31, X23_34, X23_35, X23_36, X23_39, Nat.zero_le, and_true, true_and, x_nb0, x_nb1, x_nbp, x_isL_int, x_isL_ref, x_isL_junk, x_isR_ref, x_cat_nil, x_cat_int, x_cat_ref, x_cat_long, Option.toList_some, Option.toList_none, List.cons_append, List.nil_append, Nat.reduceAdd, Nat.reduceLeDiff, Nat.reduceLT, t_tag_si, t_tag_sr, t_tag_sI, x_r_si, x_i_sr, t_r_sI, x_ia_si, x_ia_sI, x_ia_sr, x_ra_si, x_ra_sI, x_ra_sr, g_t0 hs, g_r0_4 hs, g_t22 hs, h55, bI_0, eq_true h1, eq_true h2, h3, not_true, if_false, if_true]
        · simp only [X190_0, X190_1, X190_2, X190_5, X190_8, X190_9, X190_10, X190_13, X190_16, X190_17, X190_18, X190_21, X190_22, X190_23, X190_24, X190_27, X190_30, X190_32, Nat.zero_le, and_true, true_and, x_nb0, x_nb1, x_nbp, x_isL_int, x_isL_ref, x_isL_junk, x_isR_ref, x_cat_nil, x_cat_int, x_cat_ref, x_cat_long, Option.toList_some, Option.toList_none, List.cons_append, List.nil_append, Nat.reduceAdd, Nat.reduceLeDiff, Nat.reduceLT, t_tag_si, t_tag_sr, t_tag_sI, x_r_si, x_i_sr, t_r_sI, x_ia_si, x_ia_sI, x_ia_sr, x_ra_si, x_ra_sI, x_ra_sr, g_t41 hs, h169, bI_0, eq_true h1, eq_true h2, h3, not_true, if_false, if_true]
      · obtain ⟨s, hS, rfl⟩ := slp_of h6 h1
        obtain ⟨b, hb, rfl⟩ := slp_of h6 h2
        obtain ⟨w1, c1, hF1, e1⟩ := S64 (L := L) (xs := xs) (d := d + 8) h.1 hS hb
        obtain ⟨w2, c2, e2⟩ := S191 (L := L) (xs := xs) (d := d + 8) (h.2.1.ch (c1.a rfl)) hS hb
        rw [farM_ch (c1.a rfl), ← h.fe (show s < 6 by omega) (show b < 6 by omega)] at e2
        have h169' := fun (v : Int32) (Q' : Option Value → x_W → Prop) => S169 (L := L) (xs := xs) (d := d + 10) (v := v) (Q := Q') (h.2.1.1.ch (c1.a rfl))
        refine ⟨.int (nI (feN kd td mo kt tl tk (farX w kt s b) s b)), w1, w2, (c1.a rfl).trans (c2.ma rfl), hF1.m c2 rfl rfl rfl, fun Q => ?_, fun Q => ?_⟩
        · simp only [X23_0, X23_1, X23_4, X23_5, X23_8, X23_11, X23_12, X23_15, X23_16, X23_19, X23_22, X23_23, X23_24, X23_27, X23_29, X23_30, X23_31, X23_34, X23_35, X23_36, X23_39, Nat.zero_le, and_true, true_and, x_nb0, x_nb1, x_nbp, x_isL_int, x_isL_ref, x_isL_junk, x_isR_ref, x_cat_nil, x_cat_int, x_cat_ref, x_cat_long, Option.toList_some, Option.toList_none, List.cons_append, List.nil_append, Nat.reduceAdd, Nat.reduceLeDiff, Nat.reduceLT, t_tag_si, t_tag_sr, t_tag_sI, x_r_si, x_i_sr, t_r_sI, x_ia_si, x_ia_sI, x_ia_sr, x_ra_si, x_ra_sI, x_ra_sr, g_t0 hs, g_r0_4 hs, g_t22 hs, h55, bI_0, eq_true h1, eq_true h2, h3, not_true, if_false, e1]
        · simp only [X190_0, X190_1, X190_2, X190_5, X190_8, X190_9, X190_10, X190_13, X190_16, X190_17, X190_18, X190_21, X190_22, X190_23, X190_24, X190_27, X190_30, X190_32, Nat.zero_le, and_true, true_and, x_nb0, x_nb1, x_nbp, x_isL_int, x_isL_ref, x_isL_junk, x_isR_ref, x_cat_nil, x_cat_int, x_cat_ref, x_cat_long, Option.toList_some, Option.toList_none, List.cons_append, List.nil_append, Nat.reduceAdd, Nat.reduceLeDiff, Nat.reduceLT, t_tag_si, t_tag_sr, t_tag_sI, x_r_si, x_i_sr, t_r_sI, x_ia_si, x_ia_sI, x_ia_sr, x_ra_si, x_ra_sI, x_ra_sr, g_t41 (c1.sh hs), h169', bI_0, eq_true h1, eq_true h2, h3, not_true, if_false, e2]
    · refine AQ_no (v := .int (-5)) h.1.2.2 (fun Q => ?_) (fun Q => ?_)
      · simp only [X23_0, X23_1, X23_4, X23_5, X23_8, X23_11, X23_12, X23_15, X23_16, X23_19, X23_22, X23_23, X23_24, X23_27, X23_29, X23_30, X23_31, X23_34, X23_35, X23_36, X23_39, Nat.zero_le, and_true, true_and, x_nb0, x_nb1, x_nbp, x_isL_int, x_isL_ref, x_isL_junk, x_isR_ref, x_cat_nil, x_cat_int, x_cat_ref, x_cat_long, Option.toList_some, Option.toList_none, List.cons_append, List.nil_append, Nat.reduceAdd, Nat.reduceLeDiff, Nat.reduceLT, t_tag_si, t_tag_sr, t_tag_sI, x_r_si, x_i_sr, t_r_sI, x_ia_si, x_ia_sI, x_ia_sr, x_ra_si, x_ra_sI, x_ra_sr, g_t0 hs, g_r0_4 hs, g_t22 hs, h55, bI_0, eq_true h1, eq_false h2, not_true, not_false_eq_true, if_false, if_true]
      · simp only [X190_0, X190_1, X190_2, X190_5, X190_8, X190_9, X190_10, X190_13, X190_16, X190_17, X190_18, X190_21, X190_22, X190_23, X190_24, X190_27, X190_30, X190_32, Nat.zero_le, and_true, true_and, x_nb0, x_nb1, x_nbp, x_isL_int, x_isL_ref, x_isL_junk, x_isR_ref, x_cat_nil, x_cat_int, x_cat_ref, x_cat_long, Option.toList_some, Option.toList_none, List.cons_append, List.nil_append, Nat.reduceAdd, Nat.reduceLeDiff, Nat.reduceLT, t_tag_si, t_tag_sr, t_tag_sI, x_r_si, x_i_sr, t_r_sI, x_ia_si, x_ia_sI, x_ia_sr, x_ra_si, x_ra_sI, x_ra_sr, g_t41 hs, h169, bI_0, eq_true h1, eq_false h2, not_true, not_false_eq_true, if_false, if_true]
  · refine AQ_no (v := .int (-5)) h.1.2.2 (fun Q => ?_) (fun Q => ?_)
    · simp only [X23_0, X23_1, X23_4, X23_5, X23_8, X23_11, X23_12, X23_15, X23_16, X23_19, X23_22, X23_23, X23_24, X23_27, X23_29, X23_30, X23_31, X23_34, X23_35, X23_36, X23_39, Nat.zero_le, and_true, true_and, x_nb0, x_nb1, x_nbp, x_isL_int, x_isL_ref, x_isL_junk, x_isR_ref, x_cat_nil, x_cat_int, x_cat_ref, x_cat_long, Option.toList_some, Option.toList_none, List.cons_append, List.nil_append, Nat.reduceAdd, Nat.reduceLeDiff, Nat.reduceLT, t_tag_si, t_tag_sr, t_tag_sI, x_r_si, x_i_sr, t_r_sI, x_ia_si, x_ia_sI, x_ia_sr, x_ra_si, x_ra_sI, x_ra_sr, g_t0 hs, g_r0_4 hs, g_t22 hs, h55, bI_0, eq_false h1, not_false_eq_true, if_true]
    · simp only [X190_0, X190_1, X190_2, X190_5, X190_8, X190_9, X190_10, X190_13, X190_16, X190_17, X190_18, X190_21, X190_22, X190_23, X190_24, X190_27, X190_30, X190_32, Nat.zero_le, and_true, true_and, x_nb0, x_nb1, x_nbp, x_isL_int, x_isL_ref, x_isL_junk, x_isR_ref, x_cat_nil, x_cat_int, x_cat_ref, x_cat_long, Option.toList_some, Option.toList_none, List.cons_append, List.nil_append, Nat.reduceAdd, Nat.reduceLeDiff, Nat.reduceLT, t_tag_si, t_tag_sr, t_tag_sI, x_r_si, x_i_sr, t_r_sI, x_ia_si, x_ia_sI, x_ia_sr, x_ra_si, x_ra_sI, x_ra_sr, g_t41 hs, h169, bI_0, eq_false h1, not_false_eq_true, if_true]
theorem AQ_woken (h : AG w S kd td mo kt tl tk) (u : Int32) : AQ L xs (d + 12) 26 200 [.ref 0, .int u] [.ref 41, .int u] w := by
  have hs := h.1.sh
  have h55 := fun (v : Int32) (Q' : Option Value → x_W → Prop) => S55 (L := L) (xs := xs) (d := d + 11) (v := v) (Q := Q') h.1.1
  have h169 := fun (v : Int32) (Q' : Option Value → x_W → Prop) => S169 (L := L) (xs := xs) (d := d + 10) (v := v) (Q := Q') h.2.1.1
  have h6 := h.1.1.S6
  by_cases h1 : slp S u
  · obtain ⟨s, hS, rfl⟩ := slp_of h6 h1
    obtain ⟨w1, c1, hF1, e1⟩ := S70 (L := L) (xs := xs) (d := d + 6) h.1 hS
    obtain ⟨w2, c2, e2⟩ := S201 (L := L) (xs := xs) (d := d + 6) (h.2.1.ch (c1.a rfl)) hS
    rw [farM_ch (c1.a rfl), ← h.Cn (show s < 6 by omega)] at e2
    have h169' := fun (v : Int32) (Q' : Option Value → x_W → Prop) => S169 (L := L) (xs := xs) (d := d + 10) (v := v) (Q := Q') (h.2.1.1.ch (c1.a rfl))
    refine ⟨.int (nI (wkC (fun b => wkB kd td mo kt tl tk (farX w kt) s b) S)), w1, w2, (c1.a rfl).trans (c2.ma rfl), hF1.m c2 rfl rfl rfl, fun Q => ?_, fun Q => ?_⟩
    · simp only [X26_0, X26_1, X26_4, X26_5, X26_8, X26_11, X26_13, X26_14, X26_15, X26_18, X26_19, X26_22, Nat.zero_le, and_true, true_and, x_nb0, x_nb1, x_nbp, x_isL_int, x_isL_ref, x_isL_junk, x_isR_ref, x_cat_nil, x_cat_int, x_cat_ref, x_cat_long, Option.toList_some, Option.toList_none, List.cons_append, List.nil_append, Nat.reduceAdd, Nat.reduceLeDiff, Nat.reduceLT, t_tag_si, t_tag_sr, t_tag_sI, x_r_si, x_i_sr, t_r_sI, x_ia_si, x_ia_sI, x_ia_sr, x_ra_si, x_ra_sI, x_ra_sr, g_t0 hs, g_r0_4 hs, g_t22 hs, h55, bI_0, eq_true h1, not_true, if_false, e1]
    · simp only [X200_0, X200_1, X200_2, X200_5, X200_8, X200_9, X200_10, X200_13, X200_16, X200_18, Nat.zero_le, and_true, true_and, x_nb0, x_nb1, x_nbp, x_isL_int, x_isL_ref, x_isL_junk, x_isR_ref, x_cat_nil, x_cat_int, x_cat_ref, x_cat_long, Option.toList_some, Option.toList_none, List.cons_append, List.nil_append, Nat.reduceAdd, Nat.reduceLeDiff, Nat.reduceLT, t_tag_si, t_tag_sr, t_tag_sI, x_r_si, x_i_sr, t_r_sI, x_ia_si, x_ia_sI, x_ia_sr, x_ra_si, x_ra_sI, x_ra_sr, g_t41 (c1.sh hs), h169', bI_0, eq_true h1, not_true, if_false, e2]
  · refine AQ_no (v := .int (-5)) h.1.2.2 (fun Q => ?_) (fun Q => ?_)
    · simp only [X26_0, X26_1, X26_4, X26_5, X26_8, X26_11, X26_13, X26_14, X26_15, X26_18, X26_19, X26_22, Nat.zero_le, and_true, true_and, x_nb0, x_nb1, x_nbp, x_isL_int, x_isL_ref, x_isL_junk, x_isR_ref, x_cat_nil, x_cat_int, x_cat_ref, x_cat_long, Option.toList_some, Option.toList_none, List.cons_append, List.nil_append, Nat.reduceAdd, Nat.reduceLeDiff, Nat.reduceLT, t_tag_si, t_tag_sr, t_tag_sI, x_r_si, x_i_sr, t_r_sI, x_ia_si, x_ia_sI, x_ia_sr, x_ra_si, x_ra_sI, x_ra_sr, g_t0 hs, g_r0_4 hs, g_t22 hs, h55, bI_0, eq_false h1, not_false_eq_true, if_true]
    · simp only [X200_0, X200_1, X200_2, X200_5, X200_8, X200_9, X200_10, X200_13, X200_16, X200_18, Nat.zero_le, and_true, true_and, x_nb0, x_nb1, x_nbp, x_isL_int, x_isL_ref, x_isL_junk, x_isR_ref, x_cat_nil, x_cat_int, x_cat_ref, x_cat_long, Option.toList_some, Option.toList_none, List.cons_append, List.nil_append, Nat.reduceAdd, Nat.reduceLeDiff, Nat.reduceLT, t_tag_si, t_tag_sr, t_tag_sI, x_r_si, x_i_sr, t_r_sI, x_ia_si, x_ia_sI, x_ia_sr, x_ra_si, x_ra_sI, x_ra_sr, g_t41 hs, h169, bI_0, eq_false h1, not_false_eq_true, if_true]
theorem AQ_night (h : AG w S kd td mo kt tl tk) : AQ L xs (d + 12) 25 199 [.ref 0] [.ref 41, x_junk, x_junk] w := by
  have hs := h.1.sh
  obtain ⟨w1, c1, hF1, e1⟩ := S69 (L := L) (xs := xs) (d := d + 5) h.1
  obtain ⟨w2, c2, e2⟩ := S199 (L := L) (xs := xs) (d := d + 6) (h.2.1.ch (c1.a rfl))
  rw [farM_ch (c1.a rfl), ← h.un] at e2
  refine ⟨.int (nI (unN (wkB kd td mo kt tl tk (farX w kt)) S S)), w1, w2, (c1.a rfl).trans (c2.ma rfl), hF1.m c2 rfl rfl rfl, fun Q => ?_, e2⟩
  simp only [X25_0, X25_1, X25_4, X25_7, Nat.zero_le, and_true, true_and, x_nb0, x_nb1, x_nbp, x_isL_int, x_isL_ref, x_isL_junk, x_isR_ref, x_cat_nil, x_cat_int, x_cat_ref, x_cat_long, Option.toList_some, Option.toList_none, List.cons_append, List.nil_append, Nat.reduceAdd, Nat.reduceLeDiff, Nat.reduceLT, t_tag_si, t_tag_sr, t_tag_sI, x_r_si, x_i_sr, t_r_sI, x_ia_si, x_ia_sI, x_ia_sr, x_ra_si, x_ra_sI, x_ra_sr, g_t0 hs, g_r0_4 hs, g_t22 hs, e1]
end S81a
