/-! ===== the first cords, of both ===== -/
def besK (k o : Nat) : Bool := decide (k < 20) && decide (o < 20) && besN k o
theorem besK_iff {k o : Nat} (hk : k < 2 ^ 31) (ho : o < 2 ^ 31) : bes (nI k) (nI o) ↔ besK k o = true := by
  unfold besK bes
  rw [Bool.and_eq_true, Bool.and_eq_true, decide_eq_true_eq, decide_eq_true_eq, nI_cl hk, nI_cl ho, lD (by decide) hk, lD hk (by decide), lD (by decide) ho, lD ho (by decide)]
  constructor
  · rintro ⟨h1, h2, h3⟩; exact ⟨⟨by omega, by omega⟩, h3⟩
  · rintro ⟨⟨h1, h2⟩, h3⟩; exact ⟨⟨by omega, by omega⟩, ⟨by omega, by omega⟩, h3⟩
def tabR (k : Nat) : Nat → Nat → (Nat → Int32) → Nat → Int32
  | 0, _, f => f
  | n + 1, o, f => tabR k n (o + 1) (if besK k o = true then putC f (nI k) (nI o) (nI 1) else f)
def tabA : Nat → Nat → (Nat → Int32) → Nat → Int32
  | 0, _, f => f
  | n + 1, k, f => tabA n (k + 1) (tabR k 5 (k + 1) f)
def mskR (k : Nat) : Nat → Nat → Int32 → Int32
  | 0, _, m => m
  | n + 1, o, m => mskR k n (o + 1) (m ||| (if besK k o = true then nI 1 <<< (nI o &&& 31) else nI 0))
def pNt : Nat → Nat → Bool := gp [24] [(23, 6)]
section S9999933
variable {L : Nat} {xs : Nat → Int32} {d : Nat} {w : x_W} {Q : Option Value → x_W → Prop}
theorem S87w {k o : Nat} (hk : k < 20) (ho : o < 20) (t23 : x_tag w 23 = some (0, 3)) (t24 : x_tag w 24 = some (1, 20)) (r0 : x_r w 23 0 = .ref 24) : X_R L xs d 87 0 [.ref 23, .int (nI k), .int (nI o), .int (nI 1)] [] w Q = Q none (x_si (x_sI w 24 (putC (x_i w 24) (nI k) (nI o) (nI 1))) 23 6 (nI 0)) := by
  have hai := x_ix_nI hk (show 20 < 2 ^ 31 by decide)
  have hbi := x_ix_nI ho (show 20 < 2 ^ 31 by decide)
  have a24 : ∀ (w' : x_W), x_tag w' 24 = some (1, 20) → ∀ i, x_ia w' 24 i = x_ix i 20 := fun w' h i => x_ia_eq h (by decide) i
  have e0 : (nI 0 = 0 ∨ nI 0 = 1) = True := by simp only [eq_iff_iff, iff_true]; exact Or.inl rfl
  simp only [X87_0, X87_1, X87_4, X87_5, X87_8, X87_9, X87_10, X87_10s, X87_11, X87_12, X87_13, X87_14, X87_15, X87_16, X87_17, X87_20, X87_21, X87_22, X87_22s, X87_23, X87_24, X87_25, X87_26, X87_27, X87_28, X87_31, X87_32, X87_35, X87_36, X87_37, X87_37s, X87_38, X87_39, X87_40, X87_41, X87_42, X87_43, X87_44, X87_45, X87_46, X87_49, X87_50, X87_51, X87_51s, X87_52, X87_53, X87_54, X87_55, X87_56, X87_57, X87_58, X87_59, X87_60, X87_61, X87_64, Nat.zero_le, and_true, true_and, x_nb0, x_nb1, x_nbp, x_isL_int, x_isL_ref, x_isL_junk, x_isR_ref, x_cat_nil, x_cat_int, x_cat_ref, x_cat_long, Option.toList_some, Option.toList_none, List.cons_append, List.nil_append, Nat.reduceAdd, Nat.reduceLeDiff, Nat.reduceLT, t_tag_si, t_tag_sr, t_tag_sI, x_r_si, x_i_sr, t_r_sI, x_ia_si, x_ia_sI, x_ia_sr, x_ra_si, x_ra_sI, x_ra_sr, t23, r0, a24 w t24, hai, hbi, e0, x_si, x_i_sI, x_sI_sI]
  unfold putC pc1
  simp only [n10, if_false]
theorem S85i (hw : x_tag w 23 = some (0, 3) ∧ x_tag w 24 = some (1, 20) ∧ x_r w 23 0 = .ref 24) {k : Nat} (hk : k < 20) : ∀ n o, o + n = k + 6 → k < o → ∀ w1, Ch pNt w w1 → x_i w1 23 6 = nI 0 → ∃ w2, Ch pNt w w2 ∧ x_i w2 23 6 = nI 0 ∧ x_i w2 24 = tabR k n o (x_i w1 24) ∧ ∀ Q, X_R L xs (d + 2) 85 68 [.ref 23, .int (nI k), .int (nI o)] [] w1 Q = X_R L xs (d + 2) 85 96 [.ref 23, .int (nI k), .int (nI (k + 6))] [] w2 Q := by
  intro n
  induction n with
  | zero =>
    intro o ho hko w1 c1 h6
    obtain rfl : o = k + 6 := by omega
    refine ⟨w1, c1, h6, rfl, fun Q => ?_⟩
    rw [X85_68]
    simp only [X85_69, X85_70, X85_71, X85_72, Nat.zero_le, and_true, true_and, x_nb0, x_nb1, x_nbp, x_isL_int, x_isL_ref, x_isL_junk, x_isR_ref, x_cat_nil, x_cat_int, x_cat_ref, x_cat_long, Option.toList_some, Option.toList_none, List.cons_append, List.nil_append, Nat.reduceAdd, Nat.reduceLeDiff, Nat.reduceLT, t_tag_si, t_tag_sr, t_tag_sI, x_r_si, x_i_sr, t_r_sI, x_ia_si, x_ia_sI, x_ia_sr, x_ra_si, x_ra_sI, x_ra_sr, nI_add, nI_ltT (show k + 5 < k + 6 by omega) (show k + 6 < 2 ^ 31 by omega), if_true]
  | succ n ih =>
    intro o ho hko w1 c1 h6
    have t23 : x_tag w1 23 = some (0, 3) := (c1.t 23).trans hw.1
    have t24 : x_tag w1 24 = some (1, 20) := (c1.t 24).trans hw.2.1
    have r0 : x_r w1 23 0 = .ref 24 := by rw [c1.r]; exact hw.2.2
    have e86 := fun (Q' : Option Value → x_W → Prop) => @S86 L xs d w1 Q' (nI k) (nI o) (bes_dec _ _)
    have hb := besK_iff (show k < 2 ^ 31 by omega) (show o < 2 ^ 31 by omega)
    have lo : (nI (k + 5) < nI o) = False := nI_ltF (show o ≤ k + 5 by omega) (show k + 5 < 2 ^ 31 by omega)
    by_cases h : besK k o = true
    · have hbt : @bI (bes (nI k) (nI o)) (bes_dec _ _) = nI 1 := @bI_t _ (bes_dec _ _) (hb.mpr h)
      rw [hbt] at e86
      have ho20 : o < 20 := by
        unfold besK at h
        rw [Bool.and_eq_true, Bool.and_eq_true, decide_eq_true_eq, decide_eq_true_eq] at h
        exact h.1.2
      have c2 : Ch pNt w1 (x_si (x_sI w1 24 (putC (x_i w1 24) (nI k) (nI o) (nI 1))) 23 6 (nI 0)) := (Ch_sI (fun _ => rfl)).trans (Ch_si rfl)
      obtain ⟨w2, c3, h3, h4, e3⟩ := ih (o + 1) (by omega) (by omega) _ (c1.trans c2) si_s
      have e24 : x_i (x_si (x_sI w1 24 (putC (x_i w1 24) (nI k) (nI o) (nI 1))) 23 6 (nI 0)) 24 = putC (x_i w1 24) (nI k) (nI o) (nI 1) := by rw [x_i_sin _ _ _ _ (by decide), x_i_sI]
      rw [e24] at h4
      refine ⟨w2, c3, h3, by rw [h4]; show _ = tabR k n (o + 1) (if besK k o = true then _ else _); rw [if_pos h], fun Q => ?_⟩
      have e87 := fun (Q' : Option Value → x_W → Prop) => S87w (L := L) (xs := xs) (d := d + 1) (w := w1) (Q := Q') hk ho20 t23 t24 r0
      rw [← e3 Q, X85_68]
      simp only [X85_69, X85_70, X85_71, X85_72, X85_75, X85_76, X85_77, X85_80, X85_83, X85_84, X85_85, X85_86, X85_87, X85_90, X85_93, Nat.zero_le, and_true, true_and, x_nb0, x_nb1, x_nbp, x_isL_int, x_isL_ref, x_isL_junk, x_isR_ref, x_cat_nil, x_cat_int, x_cat_ref, x_cat_long, Option.toList_some, Option.toList_none, List.cons_append, List.nil_append, Nat.reduceAdd, Nat.reduceLeDiff, Nat.reduceLT, t_tag_si, t_tag_sr, t_tag_sI, x_r_si, x_i_sr, t_r_sI, x_ia_si, x_ia_sI, x_ia_sr, x_ra_si, x_ra_sI, x_ra_sr, nI_add, lo, if_false, e86, n10, t23, e87]
    · have hbf : @bI (bes (nI k) (nI o)) (bes_dec _ _) = nI 0 := @bI_f _ (bes_dec _ _) (fun z => h (hb.mp z))
      rw [hbf] at e86
      obtain ⟨w2, c3, h3, h4, e3⟩ := ih (o + 1) (by omega) (by omega) w1 c1 h6
      refine ⟨w2, c3, h3, by rw [h4]; show _ = tabR k n (o + 1) (if besK k o = true then _ else _); rw [if_neg h], fun Q => ?_⟩
      rw [← e3 Q, X85_68]
      simp only [X85_69, X85_70, X85_71, X85_72, X85_75, X85_76, X85_77, X85_80, X85_90, X85_93, Nat.zero_le, and_true, true_and, x_nb0, x_nb1, x_nbp, x_isL_int, x_isL_ref, x_isL_junk, x_isR_ref, x_cat_nil, x_cat_int, x_cat_ref, x_cat_long, Option.toList_some, Option.toList_none, List.cons_append, List.nil_append, Nat.reduceAdd, Nat.reduceLeDiff, Nat.reduceLT, t_tag_si, t_tag_sr, t_tag_sI, x_r_si, x_i_sr, t_r_sI, x_ia_si, x_ia_sI, x_ia_sr, x_ra_si, x_ra_sI, x_ra_sr, nI_add, lo, if_false, if_true, e86]
theorem S85o (hw : x_tag w 23 = some (0, 3) ∧ x_tag w 24 = some (1, 20) ∧ x_r w 23 0 = .ref 24) : ∀ n k, k + n = 20 → ∀ w1 v, x_isL v = false → Ch pNt w w1 → x_i w1 23 6 = nI 0 → ∃ w2, Ch pNt w w2 ∧ x_i w2 23 6 = nI 0 ∧ x_i w2 24 = tabA n k (x_i w1 24) ∧ ∀ Q, X_R L xs (d + 2) 85 58 [.ref 23, .int (nI k), v] [] w1 Q = Q none w2 := by
  intro n
  induction n with
  | zero =>
    intro k hk w1 v hv c1 h6
    obtain rfl : k = 20 := by omega
    refine ⟨w1, c1, h6, rfl, fun Q => ?_⟩
    rw [X85_58]
    simp only [X85_59, X85_61, X85_102, Nat.zero_le, and_true, true_and, x_nb0, x_nb1, x_nbp, x_isL_int, x_isL_ref, x_isL_junk, x_isR_ref, x_cat_nil, x_cat_int, x_cat_ref, x_cat_long, Option.toList_some, Option.toList_none, List.cons_append, List.nil_append, Nat.reduceAdd, Nat.reduceLeDiff, Nat.reduceLT, t_tag_si, t_tag_sr, t_tag_sI, x_r_si, x_i_sr, t_r_sI, x_ia_si, x_ia_sI, x_ia_sr, x_ra_si, x_ra_sI, x_ra_sr, nI_leT (Nat.le_refl 20) (show 20 < 2 ^ 31 by decide), if_true]
  | succ n ih =>
    intro k hk w1 v hv c1 h6
    obtain ⟨w2, c2, h2, h24, e2⟩ := S85i (L := L) (xs := xs) (d := d) hw (show k < 20 by omega) 5 (k + 1) (by omega) (by omega) w1 c1 h6
    obtain ⟨w3, c3, h3, h34, e3⟩ := ih (k + 1) (by omega) w2 (.int (nI (k + 6))) rfl c2 h2
    refine ⟨w3, c3, h3, by rw [h34, h24]; rfl, fun Q => ?_⟩
    rw [← e3 Q, X85_58]
    simp only [X85_59, X85_61, X85_64, X85_65, X85_66, X85_67, Nat.zero_le, and_true, true_and, x_nb0, x_nb1, x_nbp, x_isL_int, x_isL_ref, x_isL_junk, x_isR_ref, x_cat_nil, x_cat_int, x_cat_ref, x_cat_long, Option.toList_some, Option.toList_none, List.cons_append, List.nil_append, Nat.reduceAdd, Nat.reduceLeDiff, Nat.reduceLT, t_tag_si, t_tag_sr, t_tag_sI, x_r_si, x_i_sr, t_r_sI, x_ia_si, x_ia_sI, x_ia_sr, x_ra_si, x_ra_sI, x_ra_sr, hv, nI_leF (show k < 20 by omega) (show 20 < 2 ^ 31 by decide), if_false, nI_add, e2, X85_96, X85_99]
/-- the reference's -/
theorem S135i (hw : x_tag w 41 = some (0, 8) ∧ x_tag w 42 = some (1, 20) ∧ x_r w 41 0 = .ref 42) {k : Nat} (hk : k < 20) : ∀ n o, o + n = 20 → ∀ f m, x_i w 42 = upd f k m → ∀ Q, X_R L xs (d + 3) 135 1096 [.ref 41, .int (nI k), .int (nI o)] [] w Q = X_R L xs (d + 3) 135 1132 [.ref 41, .int (nI k), .int (nI 20)] [] (x_sI w 42 (upd f k (mskR k n o m))) Q := by
  intro n
  induction n generalizing w with
  | zero =>
    intro o ho f m hf Q
    obtain rfl : o = 20 := by omega
    have e : x_sI w 42 (upd f k (mskR k 0 20 m)) = w := by
      show x_sI w 42 (upd f k m) = w
      rw [← hf]
      exact Prod.ext rfl (Prod.ext (funext fun b => by show (if b = 42 then x_i w 42 else w.2.1 b) = w.2.1 b; by_cases z : b = 42 <;> simp only [z, if_true, if_false]; rfl) rfl)
    rw [e, X135_1096]
    simp only [X135_1097, X135_1099, Nat.zero_le, and_true, true_and, x_nb0, x_nb1, x_nbp, x_isL_int, x_isL_ref, x_isL_junk, x_isR_ref, x_cat_nil, x_cat_int, x_cat_ref, x_cat_long, Option.toList_some, Option.toList_none, List.cons_append, List.nil_append, Nat.reduceAdd, Nat.reduceLeDiff, Nat.reduceLT, t_tag_si, t_tag_sr, t_tag_sI, x_r_si, x_i_sr, t_r_sI, x_ia_si, x_ia_sI, x_ia_sr, x_ra_si, x_ra_sI, x_ra_sr, nI_leT (Nat.le_refl 20) (show 20 < 2 ^ 31 by decide), if_true]
  | succ n ih =>
    intro o ho f m hf Q
    have tx := x_ix_nI hk (show 20 < 2 ^ 31 by decide)
    have tc := nI_cl (show k < 2 ^ 31 by omega)
    have a42 : ∀ i, x_ia w 42 i = x_ix i 20 := fun i => x_ia_eq hw.2.1 (by decide) i
    have e136 := fun (Q' : Option Value → x_W → Prop) => @S136 L xs d w Q' (nI k) (nI o) (bes_dec _ _)
    have hb := besK_iff (show k < 2 ^ 31 by omega) (show o < 2 ^ 31 by omega)
    have lo : (nI 20 ≤ nI o) = False := nI_leF (show o < 20 by omega) (show 20 < 2 ^ 31 by decide)
    have em : x_i w 42 k = m := by rw [hf, upd_s]
    have step : ∀ v : Int32, x_si w 42 k (m ||| v) = x_sI w 42 (upd f k (m ||| v)) := fun v => by
      show x_sI w 42 (upd (x_i w 42) k (m ||| v)) = _
      rw [hf]
      exact congrArg (x_sI w 42) (funext fun j => by
        by_cases z : j = k
        · rw [z, upd_s, upd_s]
        · rw [upd_o z, upd_o z, upd_o z])
    have fin : ∀ v : Int32, (if besK k o = true then nI 1 <<< (nI o &&& 31) else nI 0) = v → X_R L xs (d + 3) 135 1096 [.ref 41, .int (nI k), .int (nI (o + 1))] [] (x_sI w 42 (upd f k (m ||| v))) Q = X_R L xs (d + 3) 135 1132 [.ref 41, .int (nI k), .int (nI 20)] [] (x_sI w 42 (upd f k (mskR k (n + 1) o m))) Q := by
      intro v hv
      rw [ih (w := x_sI w 42 (upd f k (m ||| v))) hw (o + 1) (by omega) f (m ||| v) (x_i_sI _ _ _) Q, x_sI_sI]
      show _ = X_R L xs (d + 3) 135 1132 _ _ (x_sI w 42 (upd f k (mskR k n (o + 1) (m ||| (if besK k o = true then nI 1 <<< (nI o &&& 31) else nI 0))))) Q
      rw [hv]
    by_cases h : besK k o = true
    · have hbt : @bI (bes (nI k) (nI o)) (bes_dec _ _) = nI 1 := @bI_t _ (bes_dec _ _) (hb.mpr h)
      rw [hbt] at e136
      rw [← fin _ (if_pos h), ← step, X135_1096]
      simp only [X135_1097, X135_1099, X135_1102, X135_1103, X135_1106, X135_1107, X135_1108, X135_1109, X135_1110, X135_1111, X135_1114, X135_1117, X135_1118, X135_1119, X135_1120, X135_1124, X135_1125, X135_1126, X135_1129, Nat.zero_le, and_true, true_and, x_nb0, x_nb1, x_nbp, x_isL_int, x_isL_ref, x_isL_junk, x_isR_ref, x_cat_nil, x_cat_int, x_cat_ref, x_cat_long, Option.toList_some, Option.toList_none, List.cons_append, List.nil_append, Nat.reduceAdd, Nat.reduceLeDiff, Nat.reduceLT, t_tag_si, t_tag_sr, t_tag_sI, x_r_si, x_i_sr, t_r_sI, x_ia_si, x_ia_sI, x_ia_sr, x_ra_si, x_ra_sI, x_ra_sr, lo, if_false, hw.1, hw.2.2, a42, tx, tc, em, e136, n10, nI_add]
    · have hbf : @bI (bes (nI k) (nI o)) (bes_dec _ _) = nI 0 := @bI_f _ (bes_dec _ _) (fun z => h (hb.mp z))
      rw [hbf] at e136
      rw [← fin _ (if_neg h), ← step, X135_1096]
      simp only [X135_1097, X135_1099, X135_1102, X135_1103, X135_1106, X135_1107, X135_1108, X135_1109, X135_1110, X135_1111, X135_1114, X135_1123, X135_1124, X135_1125, X135_1126, X135_1129, Nat.zero_le, and_true, true_and, x_nb0, x_nb1, x_nbp, x_isL_int, x_isL_ref, x_isL_junk, x_isR_ref, x_cat_nil, x_cat_int, x_cat_ref, x_cat_long, Option.toList_some, Option.toList_none, List.cons_append, List.nil_append, Nat.reduceAdd, Nat.reduceLeDiff, Nat.reduceLT, t_tag_si, t_tag_sr, t_tag_sI, x_r_si, x_i_sr, t_r_sI, x_ia_si, x_ia_sI, x_ia_sr, x_ra_si, x_ra_sI, x_ra_sr, lo, if_false, if_true, hw.1, hw.2.2, a42, tx, tc, em, e136, nI_add]
def mskA : Nat → Nat → (Nat → Int32) → Nat → Int32
  | 0, _, f => f
  | n + 1, k, f => mskA n (k + 1) (upd f k (mskR k 20 0 (nI 0)))
theorem S135o (hw : x_tag w 41 = some (0, 8) ∧ x_tag w 42 = some (1, 20) ∧ x_r w 41 0 = .ref 42) : ∀ n k, k + n = 20 → ∀ v, x_isL v = false → ∀ f, x_i w 42 = f → ∃ v2, x_isL v2 = false ∧ ∀ Q, X_R L xs (d + 3) 135 1081 [.ref 41, .int (nI k), v] [] w Q = X_R L xs (d + 3) 135 1138 [.ref 41, .int (nI 20), v2] [] (x_sI w 42 (mskA n k f)) Q := by
  intro n
  induction n generalizing w with
  | zero =>
    intro k hk v hv f hf
    obtain rfl : k = 20 := by omega
    refine ⟨v, hv, fun Q => ?_⟩
    have e : x_sI w 42 (mskA 0 20 f) = w := by
      show x_sI w 42 f = w
      rw [← hf]
      exact Prod.ext rfl (Prod.ext (funext fun b => by show (if b = 42 then x_i w 42 else w.2.1 b) = w.2.1 b; by_cases z : b = 42 <;> simp only [z, if_true, if_false]; rfl) rfl)
    rw [e, X135_1081]
    simp only [X135_1082, X135_1084, Nat.zero_le, and_true, true_and, x_nb0, x_nb1, x_nbp, x_isL_int, x_isL_ref, x_isL_junk, x_isR_ref, x_cat_nil, x_cat_int, x_cat_ref, x_cat_long, Option.toList_some, Option.toList_none, List.cons_append, List.nil_append, Nat.reduceAdd, Nat.reduceLeDiff, Nat.reduceLT, t_tag_si, t_tag_sr, t_tag_sI, x_r_si, x_i_sr, t_r_sI, x_ia_si, x_ia_sI, x_ia_sr, x_ra_si, x_ra_sI, x_ra_sr, nI_leT (Nat.le_refl 20) (show 20 < 2 ^ 31 by decide), if_true]
  | succ n ih =>
    intro k hk v hv f hf
    have tx := x_ix_nI (show k < 20 by omega) (show 20 < 2 ^ 31 by decide)
    have tc := nI_cl (show k < 2 ^ 31 by omega)
    have a42 : ∀ i, x_ia w 42 i = x_ix i 20 := fun i => x_ia_eq hw.2.1 (by decide) i
    have e1 : x_si w 42 k (nI 0) = x_sI w 42 (upd f k (nI 0)) := by show x_sI w 42 (upd (x_i w 42) k (nI 0)) = _; rw [hf]
    have hi := S135i (L := L) (xs := xs) (d := d) (w := x_si w 42 k (nI 0)) hw (show k < 20 by omega) 20 0 (by omega) f (nI 0) (by rw [e1, x_i_sI])
    obtain ⟨v2, hv2, e3⟩ := ih (w := x_sI (x_si w 42 k (nI 0)) 42 (upd f k (mskR k 20 0 (nI 0)))) hw (k + 1) (by omega) (.int (nI 20)) rfl (upd f k (mskR k 20 0 (nI 0))) (x_i_sI _ _ _)
    refine ⟨v2, hv2, fun Q => ?_⟩
    have e4 : x_sI (x_sI (x_si w 42 k (nI 0)) 42 (upd f k (mskR k 20 0 (nI 0)))) 42 (mskA n (k + 1) (upd f k (mskR k 20 0 (nI 0)))) = x_sI w 42 (mskA (n + 1) k f) := by
      rw [e1, x_sI_sI, x_sI_sI]
      rfl
    rw [← e4, ← e3 Q, X135_1081]
    simp only [X135_1082, X135_1084, X135_1087, X135_1088, X135_1091, X135_1092, X135_1093, X135_1094, X135_1095, Nat.zero_le, and_true, true_and, x_nb0, x_nb1, x_nbp, x_isL_int, x_isL_ref, x_isL_junk, x_isR_ref, x_cat_nil, x_cat_int, x_cat_ref, x_cat_long, Option.toList_some, Option.toList_none, List.cons_append, List.nil_append, Nat.reduceAdd, Nat.reduceLeDiff, Nat.reduceLT, t_tag_si, t_tag_sr, t_tag_sI, x_r_si, x_i_sr, t_r_sI, x_ia_si, x_ia_sI, x_ia_sr, x_ra_si, x_ra_sI, x_ra_sr, hv, nI_leF (show k < 20 by omega) (show 20 < 2 ^ 31 by decide), if_false, hw.1, hw.2.2, a42, tx, tc, hi, X135_1132, X135_1135, nI_add]
end S9999933
def tab0 : Nat → Int32 := tabA 20 0 (fun _ => 0)
theorem tab_eq : ∀ k, k < 20 → tab0 k = mskA 20 0 (fun _ => 0) k := by decide +kernel
theorem tab_cd : CdM tab0 := by unfold CdM; decide +kernel
theorem tab_sy' : ∀ k, k < 20 → ∀ o, o < 20 → meB (tab0 k) o = meB (tab0 o) k := by decide +kernel
theorem tab_sy : Sy tab0 := fun k o hk ho => tab_sy' k hk o ho
theorem tab_nb' : ∀ k, k < 20 → ∀ o, o < 20 → besN k o = false → cbN tab0 k o = false := by decide +kernel
theorem tab_nb : Nb tab0 := fun k o hk ho => tab_nb' k hk o ho
