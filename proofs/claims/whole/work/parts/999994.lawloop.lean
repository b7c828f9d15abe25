/-! ===== the law: its loop, its start ===== -/
theorem mask_cases (v : Int32) : (v.toInt < 0 ∨ 39 < v.toInt) ∨ ∃ c, c < 40 ∧ v = nI c := by
  by_cases h : v.toInt < 0 ∨ 39 < v.toInt
  · exact Or.inl h
  · refine Or.inr ⟨v.toInt.toNat, by omega, ?_⟩
    rw [← Int32.toInt_inj, nI_toInt (by omega)]
    omega
theorem cmp7 {L i : Nat} (hL : L ≤ 3584) (hi : i ≤ 4000) : (nI L - nI 7 < nI i) = (L < i + 7) := by
  by_cases h7 : 7 ≤ L
  · rw [nI_sub h7, nI_ltD (by omega) (by omega)]
    exact propext ⟨fun h => by omega, fun h => by omega⟩
  · have neg : ∀ k : Int32, k.toInt < 0 → (k < nI i) = True := fun k hk => by
      apply eq_true
      rw [Int32.lt_iff_toInt_lt, nI_toInt (by omega)]
      omega
    have e : (nI L - nI 7).toInt < 0 := (by decide +kernel : ∀ L, L < 7 → (nI L - nI 7).toInt < 0) L (by omega)
    rw [neg _ e, eq_true (show L < i + 7 by omega)]
section S999994
variable {L : Nat} {xs : Nat → Int32} {d : Nat} {w : x_W} {Q : Option Value → x_W → Prop}
theorem law_sw (hJJ : JJ w) {i : Nat} (hix : ∀ k, k < 7 → x_ix (nI (i + k)) L) (hn : ∀ w', JJ w' → X_R L xs (d + 61) 0 1481 [.ref 999, .ref 0, .ref 41, .int (nI i)] [] w' Q) (v : Int32) : X_R L xs (d + 61) 0 33 [.ref 999, .ref 0, .ref 41, .int (nI i)] [.int v] w Q := by
  rcases mask_cases v with h | ⟨c, hc, rfl⟩
  · rw [X0_33_d h]
    exact hn w hJJ
  · rcases (by omega : c = 0 ∨ c = 1 ∨ c = 2 ∨ c = 3 ∨ c = 4 ∨ c = 5 ∨ c = 6 ∨ c = 7 ∨ c = 8 ∨ c = 9 ∨ c = 10 ∨ c = 11 ∨ c = 12 ∨ c = 13 ∨ c = 14 ∨ c = 15 ∨ c = 16 ∨ c = 17 ∨ c = 18 ∨ c = 19 ∨ c = 20 ∨ c = 21 ∨ c = 22 ∨ c = 23 ∨ c = 24 ∨ c = 25 ∨ c = 26 ∨ c = 27 ∨ c = 28 ∨ c = 29 ∨ c = 30 ∨ c = 31 ∨ c = 32 ∨ c = 33 ∨ c = 34 ∨ c = 35 ∨ c = 36 ∨ c = 37 ∨ c = 38 ∨ c = 39) with rfl | rfl | rfl | rfl | rfl | rfl | rfl | rfl | rfl | rfl | rfl | rfl | rfl | rfl | rfl | rfl | rfl | rfl | rfl | rfl | rfl | rfl | rfl | rfl | rfl | rfl | rfl | rfl | rfl | rfl | rfl | rfl | rfl | rfl | rfl | rfl | rfl | rfl | rfl | rfl
    · rw [X0_33_0]; exact law_0 hJJ hix hn
    · rw [X0_33_1]; exact law_1 hJJ hix hn
    · rw [X0_33_2]; exact law_2 hJJ hix hn
    · rw [X0_33_3]; exact law_3 hJJ hix hn
    · rw [X0_33_4]; exact law_4 hJJ hix hn
    · rw [X0_33_5]; exact law_5 hJJ hix hn
    · rw [X0_33_6]; exact law_6 hJJ hix hn
    · rw [X0_33_7]; exact law_7 hJJ hix hn
    · rw [X0_33_8]; exact law_8 hJJ hix hn
    · rw [X0_33_9]; exact law_9 hJJ hix hn
    · rw [X0_33_10]; exact law_10 hJJ hix hn
    · rw [X0_33_11]; exact law_11 hJJ hix hn
    · rw [X0_33_12]; exact law_12 hJJ hix hn
    · rw [X0_33_13]; exact law_13 hJJ hix hn
    · rw [X0_33_14]; exact law_14 hJJ hix hn
    · rw [X0_33_15]; exact law_15 hJJ hix hn
    · rw [X0_33_16]; exact law_16 hJJ hix hn
    · rw [X0_33_17]; exact law_17 hJJ hix hn
    · rw [X0_33_18]; exact law_18 hJJ hix hn
    · rw [X0_33_19]; exact law_19 hJJ hix hn
    · rw [X0_33_20]; exact law_20 hJJ hix hn
    · rw [X0_33_21]; exact law_21 hJJ hix hn
    · rw [X0_33_22]; exact law_22 hJJ hix hn
    · rw [X0_33_23]; exact law_23 hJJ hix hn
    · rw [X0_33_24]; exact law_24 hJJ hix hn
    · rw [X0_33_25]; exact law_25 hJJ hix hn
    · rw [X0_33_26]; exact law_26 hJJ hix hn
    · rw [X0_33_27]; exact law_27 hJJ hix hn
    · rw [X0_33_28]; exact law_28 hJJ hix hn
    · rw [X0_33_29]; exact law_29 hJJ hix hn
    · rw [X0_33_30]; exact law_30 hJJ hix hn
    · rw [X0_33_31]; exact law_31 hJJ hix hn
    · rw [X0_33_32]; exact law_32 hJJ hix hn
    · rw [X0_33_33]; exact law_33 hJJ hix hn
    · rw [X0_33_34]; exact law_34 hJJ hix hn
    · rw [X0_33_35]; exact law_35 hJJ hix hn
    · rw [X0_33_36]; exact law_36 hJJ hix hn
    · rw [X0_33_37]; exact law_37 hJJ hix hn
    · rw [X0_33_38]; exact law_38 hJJ hix hn
    · rw [X0_33_39]; exact law_39 hJJ hix hn
theorem law_loop (hL : L ≤ 3584) : ∀ m i, L < i + 7 + m → i ≤ 4000 → ∀ w, JJ w → X_R L xs (d + 61) 0 18 [.ref 999, .ref 0, .ref 41, .int (nI i)] [] w (fun r w' => r = some (.int (nI 1)) ∧ w'.1.length ≤ 900) := by
  have exit : ∀ i, L < i + 7 → i ≤ 4000 → ∀ w, JJ w → X_R L xs (d + 61) 0 18 [.ref 999, .ref 0, .ref 41, .int (nI i)] [] w (fun r w' => r = some (.int (nI 1)) ∧ w'.1.length ≤ 900) := by
    intro i hi h4 w hJJ
    obtain ⟨S, kd, td, mo, kt, nt, r, tls, tks, so, sz, hJ⟩ := hJJ
    have hlen := hJ.2.2.2.2
    have h6 := hJ.1.2.1.2.1
    have hx : narrow .boolean (.int (nI 1)) = .int (nI 1) := rfl
    have h1488 := fun (Q' : Option Value → x_W → Prop) (al : List Value) => X0_1488 (L := L) (xs := xs) (d := d + 61) (al := al) (w := w) (Q := Q') hx
    simp only [X0_18, X0_19, X0_20, X0_21, X0_23, X0_24, Nat.zero_le, and_true, true_and, x_nb0, x_nb1, x_nbp, x_isL_int, x_isL_ref, x_isL_junk, x_isR_ref, x_cat_nil, x_cat_int, x_cat_ref, x_cat_long, Option.toList_some, Option.toList_none, List.cons_append, List.nil_append, Nat.reduceAdd, Nat.reduceLeDiff, Nat.reduceLT, t_tag_si, t_tag_sr, t_tag_sI, x_r_si, x_i_sr, t_r_sI, x_ia_si, x_ia_sI, x_ia_sr, x_ra_si, x_ra_sI, x_ra_sr, cmp7 hL h4, eq_true hi, if_true, X0_1487, h1488]
    omega
  intro m
  induction m with
  | zero => intro i hi h4 w hJJ; exact exit i (by omega) h4 w hJJ
  | succ m ih =>
    intro i hi h4 w hJJ
    by_cases h : L < i + 7
    · exact exit i h h4 w hJJ
    · have hix : ∀ k, k < 7 → x_ix (nI (i + k)) L := fun k hk => x_ix_nI (by omega) (by omega)
      have hi0 : x_ix (nI i) L := hix 0 (by decide)
      simp only [X0_18, X0_19, X0_20, X0_21, X0_23, X0_24, Nat.zero_le, and_true, true_and, x_nb0, x_nb1, x_nbp, x_isL_int, x_isL_ref, x_isL_junk, x_isR_ref, x_cat_nil, x_cat_int, x_cat_ref, x_cat_long, Option.toList_some, Option.toList_none, List.cons_append, List.nil_append, Nat.reduceAdd, Nat.reduceLeDiff, Nat.reduceLT, t_tag_si, t_tag_sr, t_tag_sI, x_r_si, x_i_sr, t_r_sI, x_ia_si, x_ia_sI, x_ia_sr, x_ra_si, x_ra_sI, x_ra_sr, cmp7 hL h4, eq_false h, if_false, X0_27, X0_28, X0_29, X0_29s, X0_30, X0_32, hi0]
      refine law_sw hJJ hix (fun w' hj => ?_) _
      have h2 := ih (i + 7) (by omega) (by omega) w' hj
      simp only [X0_1481, X0_1484, Nat.zero_le, and_true, true_and, x_nb0, x_nb1, x_nbp, x_isL_int, x_isL_ref, x_isL_junk, x_isR_ref, x_cat_nil, x_cat_int, x_cat_ref, x_cat_long, Option.toList_some, Option.toList_none, List.cons_append, List.nil_append, Nat.reduceAdd, Nat.reduceLeDiff, Nat.reduceLT, t_tag_si, t_tag_sr, t_tag_sI, x_r_si, x_i_sr, t_r_sI, x_ia_si, x_ia_sI, x_ia_sr, x_ra_si, x_ra_sI, x_ra_sr, nI_add]
      exact h2
theorem law_all (hL : L ≤ 3584) : X_R L xs 900 0 0 [.ref 999, x_junk, x_junk, x_junk] [] x_w0 (fun r w' => r = some (.int (nI 1)) ∧ w'.1.length ≤ 900) := by
  obtain ⟨wX, hO, hX, eX⟩ := S1 (L := L) (xs := xs) (d := 839)
  have hl : wX.1.length = 41 := by rw [hX.1]; rfl
  obtain ⟨w', hJ, eM⟩ := S135 (L := L) (xs := xs) (d := 894) hX hO
  have h := law_loop (L := L) (xs := xs) (d := 839) hL 4000 0 (by omega) (by decide) w' hJ
  have h0 := fun (Q' : Option Value → x_W → Prop) (al st : List Value) => X0_0 (L := L) (xs := xs) (d := 900) (al := al) (st := st) (w := x_w0) (Q := Q') (Nat.zero_le _)
  have h8 := fun (Q' : Option Value → x_W → Prop) (al st : List Value) => X0_8 (L := L) (xs := xs) (d := 900) (al := al) (st := st) (w := wX) (Q := Q') (by omega)
  rw [hl] at h8
  have h0' : ∀ (Q' : Option Value → x_W → Prop) (al st : List Value), X_R L xs 900 0 0 al st x_w0 Q' = X_R L xs 900 0 3 al (.ref 0 :: st) wX0 Q' := h0
  have eX' : ∀ Q, X_R L xs 899 1 0 [.ref 0, x_junk, x_junk] [] wX0 Q = Q none wX := eX
  have eM' : ∀ Q, X_R L xs 899 135 0 [.ref 41, x_junk, x_junk] [] (x_new wX (0, 8) (fun _ => 0)) Q = Q none w' := eM
  have c4 := fun (Q' : Option Value → x_W → Prop) (al st : List Value) (w : x_W) (a : Nat) (h8 : x_cat st ≤ 8) => X0_4 (L := L) (xs := xs) (d := 899) (al := al) (st := st) (w := w) (Q := Q') (a := a) h8
  have c12 := fun (Q' : Option Value → x_W → Prop) (al st : List Value) (w : x_W) (a : Nat) (h8 : x_cat st ≤ 8) => X0_12 (L := L) (xs := xs) (d := 899) (al := al) (st := st) (w := w) (Q := Q') (a := a) h8
  have h' : X_R L xs 900 0 18 [.ref 999, .ref 0, .ref 41, .int (nI 0)] [] w' (fun r w' => r = some (.int (nI 1)) ∧ w'.1.length ≤ 900) := h
  simp only [h0', X0_3i, X0_3, Nat.zero_le, and_true, true_and, x_nb0, x_nb1, x_nbp, x_isL_int, x_isL_ref, x_isL_junk, x_isR_ref, x_cat_nil, x_cat_int, x_cat_ref, x_cat_long, Option.toList_some, Option.toList_none, List.cons_append, List.nil_append, Nat.reduceAdd, Nat.reduceLeDiff, Nat.reduceLT, t_tag_si, t_tag_sr, t_tag_sI, x_r_si, x_i_sr, t_r_sI, x_ia_si, x_ia_sI, x_ia_sr, x_ra_si, x_ra_sI, x_ra_sr, c4, eX', X0_7, h8, X0_11i, X0_11, c12, eM', X0_15, X0_16, X0_17]
  exact h'
end S999994
