/-! ===== who turned, by who woke: turned ===== -/
def tdS (g : Nat → Int32) (v : Int32) : Nat → Nat × Int32
  | 0 => (0, -1)
  | n + 1 => if g n = v then ((tdS g v n).1 + 1, if (tdS g v n).2 = -1 then nI n else (tdS g v n).2) else tdS g v n
theorem tdS_t {g : Nat → Int32} {v : Int32} {n : Nat} (h : g n = v) : tdS g v (n + 1) = ((tdS g v n).1 + 1, if (tdS g v n).2 = -1 then nI n else (tdS g v n).2) := if_pos h
theorem tdS_f {g : Nat → Int32} {v : Int32} {n : Nat} (h : ¬ g n = v) : tdS g v (n + 1) = tdS g v n := if_neg h
theorem sh_all : ∀ S, S ≤ 6 → nI 1 <<< (nI S &&& 31) = nI (2 ^ S) := by decide +kernel
theorem all_lt {v : Int32} {S : Nat} (h6 : S ≤ 6) : (nI 0 ≤ v ∧ v ≤ nI (2 ^ S - 1)) ↔ (nI 0 ≤ v ∧ v < nI (2 ^ S)) := by
  have e : ∀ S, S ≤ 6 → (nI (2 ^ S)).toInt = (2 ^ S : Nat) ∧ (nI (2 ^ S - 1)).toInt = (2 ^ S : Nat) - 1 := by decide +kernel
  have e0 : (nI 0).toInt = 0 := rfl
  rw [Int32.le_iff_toInt_le, Int32.le_iff_toInt_le, Int32.lt_iff_toInt_lt, (e S h6).1, (e S h6).2, e0]
  omega
section S95
variable {L : Nat} {xs : Nat → Int32} {d : Nat} {w w' : x_W} {S : Nat} {kd td mo kt tl : Nat → Nat} {tk : Nat → Nat → Nat}
theorem S74 {v : Int32} {Q : Option Value → x_W → Prop} (h : CX w S kd td mo kt) : X_R L xs d 74 0 [.ref 22, .int v] [] w Q = Q (some (.int (bI (nI 0 ≤ v ∧ v < nI (2 ^ S))))) w := by
  have hs := h.sh
  have e := sh_all S h.S6
  by_cases h1 : v < nI 0
  · rw [bI_f (fun q => absurd h1 (Int32.not_lt.mpr q.1))]
    simp only [X74_0, X74_1, X74_4, X74_5, X74_6, X74_7, X74_10, X74_11, X74_14, X74_15, X74_18, X74_19, Nat.zero_le, and_true, true_and, x_nb0, x_nb1, x_nbp, x_isL_int, x_isL_ref, x_isL_junk, x_isR_ref, x_cat_nil, x_cat_int, x_cat_ref, x_cat_long, Option.toList_some, Option.toList_none, List.cons_append, List.nil_append, Nat.reduceAdd, Nat.reduceLeDiff, Nat.reduceLT, t_tag_si, t_tag_sr, t_tag_sI, x_r_si, x_i_sr, t_r_sI, x_ia_si, x_ia_sI, x_ia_sr, x_ra_si, x_ra_sI, x_ra_sr, h1, if_true]
  · by_cases h2 : nI (2 ^ S) ≤ v
    · rw [bI_f (fun q => absurd q.2 (Int32.not_lt.mpr h2))]
      simp only [X74_0, X74_1, X74_4, X74_5, X74_6, X74_7, X74_10, X74_11, X74_14, X74_15, X74_18, X74_19, Nat.zero_le, and_true, true_and, x_nb0, x_nb1, x_nbp, x_isL_int, x_isL_ref, x_isL_junk, x_isR_ref, x_cat_nil, x_cat_int, x_cat_ref, x_cat_long, Option.toList_some, Option.toList_none, List.cons_append, List.nil_append, Nat.reduceAdd, Nat.reduceLeDiff, Nat.reduceLT, t_tag_si, t_tag_sr, t_tag_sI, x_r_si, x_i_sr, t_r_sI, x_ia_si, x_ia_sI, x_ia_sr, x_ra_si, x_ra_sI, x_ra_sr, h1, if_false, g_t22 hs, h.hS, e, h2, if_true]
    · rw [bI_t ⟨Int32.not_lt.mp h1, Int32.not_le.mp h2⟩]
      simp only [X74_0, X74_1, X74_4, X74_5, X74_6, X74_7, X74_10, X74_11, X74_14, X74_15, X74_18, X74_19, Nat.zero_le, and_true, true_and, x_nb0, x_nb1, x_nbp, x_isL_int, x_isL_ref, x_isL_junk, x_isR_ref, x_cat_nil, x_cat_int, x_cat_ref, x_cat_long, Option.toList_some, Option.toList_none, List.cons_append, List.nil_append, Nat.reduceAdd, Nat.reduceLeDiff, Nat.reduceLT, t_tag_si, t_tag_sr, t_tag_sI, x_r_si, x_i_sr, t_r_sI, x_ia_si, x_ia_sI, x_ia_sr, x_ra_si, x_ra_sI, x_ra_sr, h1, if_false, g_t22 hs, h.hS, e, h2]
theorem S33l (h : CX w S kd td mo kt) {T : Nat → Int32} (hT : ∀ b, b < S → x_i w 33 b = T b) (v v2 : Int32) : ∀ n j, j + n = 2 ^ S → ∀ Q, X_R L xs (d + 12) 33 39 [.ref 0, .int v, .int v2, .int (nI (tdS (fun m => anyM T (nI m) S &&& (nI m ^^^ (-1))) v j).1), .int (tdS (fun m => anyM T (nI m) S &&& (nI m ^^^ (-1))) v j).2, .int (nI j)] [] w Q = X_R L xs (d + 12) 33 95 [.ref 0, .int v, .int v2, .int (nI (tdS (fun m => anyM T (nI m) S &&& (nI m ^^^ (-1))) v (2 ^ S)).1), .int (tdS (fun m => anyM T (nI m) S &&& (nI m ^^^ (-1))) v (2 ^ S)).2, .int (nI (2 ^ S))] [] w Q := by
  have hs := h.sh
  have h6 := h.S6
  have hp6 := pw_le h6
  have es := sh_all S h6
  have h68 := fun (t : Int32) (Q' : Option Value → x_W → Prop) => S68 (L := L) (xs := xs) (d := d + 11) (Q := Q') h (t := t) hT
  generalize hg : (fun m => anyM T (nI m) S &&& (nI m ^^^ (-1))) = g
  intro n
  induction n with
  | zero =>
    intro j hj Q
    obtain rfl : j = 2 ^ S := by omega
    rw [X33_39]
    simp only [X33_41, X33_42, X33_43, X33_46, X33_49, X33_50, Nat.zero_le, and_true, true_and, x_nb0, x_nb1, x_nbp, x_isL_int, x_isL_ref, x_isL_junk, x_isR_ref, x_cat_nil, x_cat_int, x_cat_ref, x_cat_long, Option.toList_some, Option.toList_none, List.cons_append, List.nil_append, Nat.reduceAdd, Nat.reduceLeDiff, Nat.reduceLT, t_tag_si, t_tag_sr, t_tag_sI, x_r_si, x_i_sr, t_r_sI, x_ia_si, x_ia_sI, x_ia_sr, x_ra_si, x_ra_sI, x_ra_sr, g_t0 hs, g_r0_4 hs, g_t22 hs, h.hS, es, nI_leT (Nat.le_refl (2 ^ S)) (show 2 ^ S < 2 ^ 31 by omega), if_true]
  | succ n ih =>
    intro j hj Q
    have egj : anyM T (nI j) S &&& (nI j ^^^ (-1)) = g j := by rw [← hg]
    rw [← ih (j + 1) (by omega) Q, X33_39]
    by_cases hv : g j = v
    · rw [tdS_t hv]
      by_cases hf : (tdS g v j).2 = -1
      · simp only [X33_0, X33_1, X33_4, X33_5, X33_8, X33_11, X33_13, X33_14, X33_15, X33_18, X33_21, X33_23, X33_24, X33_25, X33_28, X33_31, X33_32, X33_33, X33_34, X33_36, X33_37, X33_41, X33_42, X33_43, X33_46, X33_49, X33_50, X33_53, X33_54, X33_57, X33_59, X33_62, X33_64, X33_65, X33_66, X33_67, X33_68, X33_71, X33_74, X33_76, X33_77, X33_80, X33_82, X33_85, X33_87, X33_89, X33_92, X33_95, X33_96, X33_99, X33_100, X33_103, X33_105, Nat.zero_le, and_true, true_and, x_nb0, x_nb1, x_nbp, x_isL_int, x_isL_ref, x_isL_junk, x_isR_ref, x_cat_nil, x_cat_int, x_cat_ref, x_cat_long, Option.toList_some, Option.toList_none, List.cons_append, List.nil_append, Nat.reduceAdd, Nat.reduceLeDiff, Nat.reduceLT, t_tag_si, t_tag_sr, t_tag_sI, x_r_si, x_i_sr, t_r_sI, x_ia_si, x_ia_sI, x_ia_sr, x_ra_si, x_ra_sI, x_ra_sr, g_t0 hs, g_r0_4 hs, g_t22 hs, h.hS, es, nI_leF (show j < 2 ^ S by omega) (show 2 ^ S < 2 ^ 31 by omega), if_false, h68, egj, eq_true hv, if_true, hf, nI_add]
      · simp only [X33_0, X33_1, X33_4, X33_5, X33_8, X33_11, X33_13, X33_14, X33_15, X33_18, X33_21, X33_23, X33_24, X33_25, X33_28, X33_31, X33_32, X33_33, X33_34, X33_36, X33_37, X33_41, X33_42, X33_43, X33_46, X33_49, X33_50, X33_53, X33_54, X33_57, X33_59, X33_62, X33_64, X33_65, X33_66, X33_67, X33_68, X33_71, X33_74, X33_76, X33_77, X33_80, X33_82, X33_85, X33_87, X33_89, X33_92, X33_95, X33_96, X33_99, X33_100, X33_103, X33_105, Nat.zero_le, and_true, true_and, x_nb0, x_nb1, x_nbp, x_isL_int, x_isL_ref, x_isL_junk, x_isR_ref, x_cat_nil, x_cat_int, x_cat_ref, x_cat_long, Option.toList_some, Option.toList_none, List.cons_append, List.nil_append, Nat.reduceAdd, Nat.reduceLeDiff, Nat.reduceLT, t_tag_si, t_tag_sr, t_tag_sI, x_r_si, x_i_sr, t_r_sI, x_ia_si, x_ia_sI, x_ia_sr, x_ra_si, x_ra_sI, x_ra_sr, g_t0 hs, g_r0_4 hs, g_t22 hs, h.hS, es, nI_leF (show j < 2 ^ S by omega) (show 2 ^ S < 2 ^ 31 by omega), if_false, h68, egj, eq_true hv, if_true, hf, nI_add]
    · rw [tdS_f hv]
      simp only [X33_0, X33_1, X33_4, X33_5, X33_8, X33_11, X33_13, X33_14, X33_15, X33_18, X33_21, X33_23, X33_24, X33_25, X33_28, X33_31, X33_32, X33_33, X33_34, X33_36, X33_37, X33_41, X33_42, X33_43, X33_46, X33_49, X33_50, X33_53, X33_54, X33_57, X33_59, X33_62, X33_64, X33_65, X33_66, X33_67, X33_68, X33_71, X33_74, X33_76, X33_77, X33_80, X33_82, X33_85, X33_87, X33_89, X33_92, X33_95, X33_96, X33_99, X33_100, X33_103, X33_105, Nat.zero_le, and_true, true_and, x_nb0, x_nb1, x_nbp, x_isL_int, x_isL_ref, x_isL_junk, x_isR_ref, x_cat_nil, x_cat_int, x_cat_ref, x_cat_long, Option.toList_some, Option.toList_none, List.cons_append, List.nil_append, Nat.reduceAdd, Nat.reduceLeDiff, Nat.reduceLT, t_tag_si, t_tag_sr, t_tag_sI, x_r_si, x_i_sr, t_r_sI, x_ia_si, x_ia_sI, x_ia_sr, x_ra_si, x_ra_sI, x_ra_sr, g_t0 hs, g_r0_4 hs, g_t22 hs, h.hS, es, nI_leF (show j < 2 ^ S by omega) (show 2 ^ S < 2 ^ 31 by omega), if_false, h68, egj, eq_false hv, nI_add]
theorem S213l (h : CM w S kd td mo kt) {T : Nat → Int32} (hT : ∀ b, b < S → x_i w 65 b = T b) (v v2 : Int32) : ∀ n j, j + n = 2 ^ S → ∀ Q, X_R L xs (d + 12) 213 39 [.ref 41, .int v, .int v2, .int (nI (tdS (fun m => anyM T (nI m) S &&& (nI m ^^^ (-1))) v j).1), .int (tdS (fun m => anyM T (nI m) S &&& (nI m ^^^ (-1))) v j).2, .int (nI j)] [] w Q = X_R L xs (d + 12) 213 87 [.ref 41, .int v, .int v2, .int (nI (tdS (fun m => anyM T (nI m) S &&& (nI m ^^^ (-1))) v (2 ^ S)).1), .int (tdS (fun m => anyM T (nI m) S &&& (nI m ^^^ (-1))) v (2 ^ S)).2, .int (nI (2 ^ S))] [] w Q := by
  have hs := h.sh
  have h6 := h.S6
  have hp6 := pw_le h6
  have hp1 := Nat.two_pow_pos S
  have e174 := fun (Q' : Option Value → x_W → Prop) => S174 (L := L) (xs := xs) (d := d + 11) (Q := Q') hs h.hS h6
  have h68 := fun (t : Int32) (Q' : Option Value → x_W → Prop) => S198 (L := L) (xs := xs) (d := d + 11) (Q := Q') h (t := t) hT
  generalize hg : (fun m => anyM T (nI m) S &&& (nI m ^^^ (-1))) = g
  intro n
  induction n with
  | zero =>
    intro j hj Q
    obtain rfl : j = 2 ^ S := by omega
    rw [X213_39]
    simp only [X213_41, X213_42, X213_45, Nat.zero_le, and_true, true_and, x_nb0, x_nb1, x_nbp, x_isL_int, x_isL_ref, x_isL_junk, x_isR_ref, x_cat_nil, x_cat_int, x_cat_ref, x_cat_long, Option.toList_some, Option.toList_none, List.cons_append, List.nil_append, Nat.reduceAdd, Nat.reduceLeDiff, Nat.reduceLT, t_tag_si, t_tag_sr, t_tag_sI, x_r_si, x_i_sr, t_r_sI, x_ia_si, x_ia_sI, x_ia_sr, x_ra_si, x_ra_sI, x_ra_sr, g_t41 hs, e174, nI_ltT (show 2 ^ S - 1 < 2 ^ S by omega) (show 2 ^ S < 2 ^ 31 by omega), if_true]
  | succ n ih =>
    intro j hj Q
    have egj : anyM T (nI j) S &&& (nI j ^^^ (-1)) = g j := by rw [← hg]
    rw [← ih (j + 1) (by omega) Q, X213_39]
    by_cases hv : g j = v
    · rw [tdS_t hv]
      by_cases hf : (tdS g v j).2 = -1
      · simp only [X213_0, X213_1, X213_2, X213_3, X213_6, X213_9, X213_12, X213_14, X213_15, X213_16, X213_17, X213_18, X213_21, X213_24, X213_26, X213_27, X213_28, X213_31, X213_32, X213_33, X213_34, X213_36, X213_37, X213_41, X213_42, X213_45, X213_48, X213_49, X213_51, X213_54, X213_56, X213_57, X213_58, X213_59, X213_60, X213_63, X213_66, X213_68, X213_69, X213_72, X213_74, X213_77, X213_79, X213_81, X213_84, X213_87, X213_88, X213_91, X213_92, X213_95, X213_97, Nat.zero_le, and_true, true_and, x_nb0, x_nb1, x_nbp, x_isL_int, x_isL_ref, x_isL_junk, x_isR_ref, x_cat_nil, x_cat_int, x_cat_ref, x_cat_long, Option.toList_some, Option.toList_none, List.cons_append, List.nil_append, Nat.reduceAdd, Nat.reduceLeDiff, Nat.reduceLT, t_tag_si, t_tag_sr, t_tag_sI, x_r_si, x_i_sr, t_r_sI, x_ia_si, x_ia_sI, x_ia_sr, x_ra_si, x_ra_sI, x_ra_sr, g_t41 hs, e174, nI_ltF (show j ≤ 2 ^ S - 1 by omega) (show 2 ^ S - 1 < 2 ^ 31 by omega), if_false, h68, egj, eq_true hv, if_true, hf, nI_add]
      · simp only [X213_0, X213_1, X213_2, X213_3, X213_6, X213_9, X213_12, X213_14, X213_15, X213_16, X213_17, X213_18, X213_21, X213_24, X213_26, X213_27, X213_28, X213_31, X213_32, X213_33, X213_34, X213_36, X213_37, X213_41, X213_42, X213_45, X213_48, X213_49, X213_51, X213_54, X213_56, X213_57, X213_58, X213_59, X213_60, X213_63, X213_66, X213_68, X213_69, X213_72, X213_74, X213_77, X213_79, X213_81, X213_84, X213_87, X213_88, X213_91, X213_92, X213_95, X213_97, Nat.zero_le, and_true, true_and, x_nb0, x_nb1, x_nbp, x_isL_int, x_isL_ref, x_isL_junk, x_isR_ref, x_cat_nil, x_cat_int, x_cat_ref, x_cat_long, Option.toList_some, Option.toList_none, List.cons_append, List.nil_append, Nat.reduceAdd, Nat.reduceLeDiff, Nat.reduceLT, t_tag_si, t_tag_sr, t_tag_sI, x_r_si, x_i_sr, t_r_sI, x_ia_si, x_ia_sI, x_ia_sr, x_ra_si, x_ra_sI, x_ra_sr, g_t41 hs, e174, nI_ltF (show j ≤ 2 ^ S - 1 by omega) (show 2 ^ S - 1 < 2 ^ 31 by omega), if_false, h68, egj, eq_true hv, if_true, hf, nI_add]
    · rw [tdS_f hv]
      simp only [X213_0, X213_1, X213_2, X213_3, X213_6, X213_9, X213_12, X213_14, X213_15, X213_16, X213_17, X213_18, X213_21, X213_24, X213_26, X213_27, X213_28, X213_31, X213_32, X213_33, X213_34, X213_36, X213_37, X213_41, X213_42, X213_45, X213_48, X213_49, X213_51, X213_54, X213_56, X213_57, X213_58, X213_59, X213_60, X213_63, X213_66, X213_68, X213_69, X213_72, X213_74, X213_77, X213_79, X213_81, X213_84, X213_87, X213_88, X213_91, X213_92, X213_95, X213_97, Nat.zero_le, and_true, true_and, x_nb0, x_nb1, x_nbp, x_isL_int, x_isL_ref, x_isL_junk, x_isR_ref, x_cat_nil, x_cat_int, x_cat_ref, x_cat_long, Option.toList_some, Option.toList_none, List.cons_append, List.nil_append, Nat.reduceAdd, Nat.reduceLeDiff, Nat.reduceLT, t_tag_si, t_tag_sr, t_tag_sI, x_r_si, x_i_sr, t_r_sI, x_ia_si, x_ia_sI, x_ia_sr, x_ra_si, x_ra_sI, x_ra_sr, g_t41 hs, e174, nI_ltF (show j ≤ 2 ^ S - 1 by omega) (show 2 ^ S - 1 < 2 ^ 31 by omega), if_false, h68, egj, eq_false hv, nI_add]
theorem AQ_turned (h : AG w S kd td mo kt tl tk) (u v : Int32) : AQ L xs (d + 12) 33 213 [.ref 0, .int u, .int v, x_junk, x_junk, x_junk] [.ref 41, .int u, .int v, x_junk, x_junk, x_junk] w := by
  have hs := h.1.sh
  have h6 := h.1.1.S6
  have h01 : bI (nI 0 ≤ v ∧ v ≤ nI 1) = bI (v = nI 0 ∨ v = nI 1) := bI_c (by rw [in01])
  have e74 := fun (Q' : Option Value → x_W → Prop) => S74 (L := L) (xs := xs) (d := d + 11) (v := u) (Q := Q') h.1.1
  have eall : bI (nI 0 ≤ u ∧ u ≤ nI (2 ^ S - 1)) = bI (nI 0 ≤ u ∧ u < nI (2 ^ S)) := bI_c (all_lt h6)
  have e174w := fun (Q' : Option Value → x_W → Prop) => S174 (L := L) (xs := xs) (d := d + 11) (Q := Q') hs h.2.1.1.hS h6
  by_cases h1 : nI 0 ≤ u ∧ u < nI (2 ^ S)
  · by_cases h2 : v = nI 0 ∨ v = nI 1
    · have e4 := fun (w : x_W) (Q' : Option Value → x_W → Prop) => b4_t (L := L) (xs := xs) (d := d + 11) (w := w) (Q := Q') h2
      have e138 := fun (w : x_W) (Q' : Option Value → x_W → Prop) => b138_t (L := L) (xs := xs) (d := d + 11) (w := w) (Q := Q') h2
      obtain ⟨w1, c1, hF1, hT1, e67⟩ := S67 (L := L) (xs := xs) (d := d + 5) h.1
      have hX1 := h.1.ch (c1.a rfl) hF1
      have hM1 := h.2.1.ch (c1.a rfl)
      obtain ⟨w2, c2, hT2, e195⟩ := S195 (L := L) (xs := xs) (d := d + 5) hM1
      have hM2 := hM1.ch (c2.ma rfl)
      rw [farM_ch (c1.a rfl)] at hT2
      have hT2' : ∀ b, b < S → x_i w2 65 b = (fun b => wkM (fun s => wkB kd td mo kt tl tk (farX w kt) s b) S) b := fun b hb => by rw [hT2 b hb]; exact (h.M (show b < 6 by omega)).symm
      have l1 := S33l (L := L) (xs := xs) (d := d) hX1.1 (T := fun b => wkM (fun s => wkB kd td mo kt tl tk (farX w kt) s b) S) hT1 u v (2 ^ S) 0 (by omega)
      have l2 := S213l (L := L) (xs := xs) (d := d) hM2.1 hT2' u v (2 ^ S) 0 (by omega)
      generalize hR : tdS (fun m => anyM (fun b => wkM (fun s => wkB kd td mo kt tl tk (farX w kt) s b) S) (nI m) S &&& (nI m ^^^ (-1))) u (2 ^ S) = R at l1 l2
      have hs1 := c1.sh hs
      have hs2 := c2.sh hs1
      have e174 := fun (Q' : Option Value → x_W → Prop) => S174 (L := L) (xs := xs) (d := d + 11) (Q := Q') hs1 hM1.1.hS h6
      refine ⟨.int (if v = nI 0 then nI R.1 else R.2), w1, w2, (c1.a rfl).trans (c2.ma rfl), hF1.m c2 rfl rfl rfl, fun Q => ?_, fun Q => ?_⟩
      · have e0 : X_R L xs (d + 12) 33 0 [.ref 0, .int u, .int v, x_junk, x_junk, x_junk] [] w Q = X_R L xs (d + 12) 33 39 [.ref 0, .int u, .int v, .int (nI 0), .int (-1), .int (nI 0)] [] w1 Q := by
          simp only [X33_0, X33_1, X33_4, X33_5, X33_8, X33_14, X33_15, X33_18, X33_24, X33_25, X33_28, X33_31, X33_32, X33_33, X33_34, X33_36, X33_37, Nat.zero_le, and_true, true_and, x_nb0, x_nb1, x_nbp, x_isL_int, x_isL_ref, x_isL_junk, x_isR_ref, x_cat_nil, x_cat_int, x_cat_ref, x_cat_long, Option.toList_some, Option.toList_none, List.cons_append, List.nil_append, Nat.reduceAdd, Nat.reduceLeDiff, Nat.reduceLT, t_tag_si, t_tag_sr, t_tag_sI, x_r_si, x_i_sr, t_r_sI, x_ia_si, x_ia_sI, x_ia_sr, x_ra_si, x_ra_sI, x_ra_sr, g_t0 hs, g_r0_4 hs, g_t22 hs, e74, bI_t h1, n10, if_false, e4, e67]
        rw [e0]
        refine (l1 Q).trans ?_
        by_cases hv : v = nI 0
        · simp only [X33_95, X33_96, X33_99, X33_100, X33_105, Nat.zero_le, and_true, true_and, x_nb0, x_nb1, x_nbp, x_isL_int, x_isL_ref, x_isL_junk, x_isR_ref, x_cat_nil, x_cat_int, x_cat_ref, x_cat_long, Option.toList_some, Option.toList_none, List.cons_append, List.nil_append, Nat.reduceAdd, Nat.reduceLeDiff, Nat.reduceLT, t_tag_si, t_tag_sr, t_tag_sI, x_r_si, x_i_sr, t_r_sI, x_ia_si, x_ia_sI, x_ia_sr, x_ra_si, x_ra_sI, x_ra_sr, hv, if_true]
        · simp only [X33_95, X33_96, X33_103, X33_105, Nat.zero_le, and_true, true_and, x_nb0, x_nb1, x_nbp, x_isL_int, x_isL_ref, x_isL_junk, x_isR_ref, x_cat_nil, x_cat_int, x_cat_ref, x_cat_long, Option.toList_some, Option.toList_none, List.cons_append, List.nil_append, Nat.reduceAdd, Nat.reduceLeDiff, Nat.reduceLT, t_tag_si, t_tag_sr, t_tag_sI, x_r_si, x_i_sr, t_r_sI, x_ia_si, x_ia_sI, x_ia_sr, x_ra_si, x_ra_sI, x_ra_sr, hv, if_false]
      · have e0 : X_R L xs (d + 12) 213 0 [.ref 41, .int u, .int v, x_junk, x_junk, x_junk] [] w1 Q = X_R L xs (d + 12) 213 39 [.ref 41, .int u, .int v, .int (nI 0), .int (-1), .int (nI 0)] [] w2 Q := by
          simp only [X213_0, X213_1, X213_2, X213_3, X213_6, X213_9, X213_15, X213_16, X213_17, X213_18, X213_21, X213_27, X213_28, X213_31, X213_32, X213_33, X213_34, X213_36, X213_37, Nat.zero_le, and_true, true_and, x_nb0, x_nb1, x_nbp, x_isL_int, x_isL_ref, x_isL_junk, x_isR_ref, x_cat_nil, x_cat_int, x_cat_ref, x_cat_long, Option.toList_some, Option.toList_none, List.cons_append, List.nil_append, Nat.reduceAdd, Nat.reduceLeDiff, Nat.reduceLT, t_tag_si, t_tag_sr, t_tag_sI, x_r_si, x_i_sr, t_r_sI, x_ia_si, x_ia_sI, x_ia_sr, x_ra_si, x_ra_sI, x_ra_sr, g_t41 hs1, e174, e138]
          simp only [X213_0, X213_1, X213_2, X213_3, X213_6, X213_9, X213_15, X213_16, X213_17, X213_18, X213_21, X213_27, X213_28, X213_31, X213_32, X213_33, X213_34, X213_36, X213_37, Nat.zero_le, and_true, true_and, x_nb0, x_nb1, x_nbp, x_isL_int, x_isL_ref, x_isL_junk, x_isR_ref, x_cat_nil, x_cat_int, x_cat_ref, x_cat_long, Option.toList_some, Option.toList_none, List.cons_append, List.nil_append, Nat.reduceAdd, Nat.reduceLeDiff, Nat.reduceLT, t_tag_si, t_tag_sr, t_tag_sI, x_r_si, x_i_sr, t_r_sI, x_ia_si, x_ia_sI, x_ia_sr, x_ra_si, x_ra_sI, x_ra_sr, g_t41 hs1, e174, e138, S138, eall, bI_t h1, n10, if_false, e195]
        rw [e0]
        refine (l2 Q).trans ?_
        by_cases hv : v = nI 0
        · simp only [X213_87, X213_88, X213_91, X213_92, X213_97, Nat.zero_le, and_true, true_and, x_nb0, x_nb1, x_nbp, x_isL_int, x_isL_ref, x_isL_junk, x_isR_ref, x_cat_nil, x_cat_int, x_cat_ref, x_cat_long, Option.toList_some, Option.toList_none, List.cons_append, List.nil_append, Nat.reduceAdd, Nat.reduceLeDiff, Nat.reduceLT, t_tag_si, t_tag_sr, t_tag_sI, x_r_si, x_i_sr, t_r_sI, x_ia_si, x_ia_sI, x_ia_sr, x_ra_si, x_ra_sI, x_ra_sr, hv, if_true]
        · simp only [X213_87, X213_88, X213_95, X213_97, Nat.zero_le, and_true, true_and, x_nb0, x_nb1, x_nbp, x_isL_int, x_isL_ref, x_isL_junk, x_isR_ref, x_cat_nil, x_cat_int, x_cat_ref, x_cat_long, Option.toList_some, Option.toList_none, List.cons_append, List.nil_append, Nat.reduceAdd, Nat.reduceLeDiff, Nat.reduceLT, t_tag_si, t_tag_sr, t_tag_sI, x_r_si, x_i_sr, t_r_sI, x_ia_si, x_ia_sI, x_ia_sr, x_ra_si, x_ra_sI, x_ra_sr, hv, if_false]
    · refine AQ_no (v := .int (-7)) h.1.2.2 (fun Q => ?_) (fun Q => ?_)
      · simp only [X33_0, X33_1, X33_4, X33_5, X33_8, X33_14, X33_15, X33_18, X33_21, X33_23, Nat.zero_le, and_true, true_and, x_nb0, x_nb1, x_nbp, x_isL_int, x_isL_ref, x_isL_junk, x_isR_ref, x_cat_nil, x_cat_int, x_cat_ref, x_cat_long, Option.toList_some, Option.toList_none, List.cons_append, List.nil_append, Nat.reduceAdd, Nat.reduceLeDiff, Nat.reduceLT, t_tag_si, t_tag_sr, t_tag_sI, x_r_si, x_i_sr, t_r_sI, x_ia_si, x_ia_sI, x_ia_sr, x_ra_si, x_ra_sI, x_ra_sr, g_t0 hs, g_r0_4 hs, g_t22 hs, e74, bI_t h1, n10, if_false, S4, bI_f h2, if_true]
      · simp only [X213_0, X213_1, X213_2, X213_3, X213_6, X213_9, X213_15, X213_16, X213_17, X213_18, X213_21, X213_24, X213_26, Nat.zero_le, and_true, true_and, x_nb0, x_nb1, x_nbp, x_isL_int, x_isL_ref, x_isL_junk, x_isR_ref, x_cat_nil, x_cat_int, x_cat_ref, x_cat_long, Option.toList_some, Option.toList_none, List.cons_append, List.nil_append, Nat.reduceAdd, Nat.reduceLeDiff, Nat.reduceLT, t_tag_si, t_tag_sr, t_tag_sI, x_r_si, x_i_sr, t_r_sI, x_ia_si, x_ia_sI, x_ia_sr, x_ra_si, x_ra_sI, x_ra_sr, g_t41 hs, e174w, S138, eall, bI_t h1, n10, if_false, h01, bI_f h2, if_true]
  · refine AQ_no (v := .int (-5)) h.1.2.2 (fun Q => ?_) (fun Q => ?_)
    · simp only [X33_0, X33_1, X33_4, X33_5, X33_8, X33_11, X33_13, Nat.zero_le, and_true, true_and, x_nb0, x_nb1, x_nbp, x_isL_int, x_isL_ref, x_isL_junk, x_isR_ref, x_cat_nil, x_cat_int, x_cat_ref, x_cat_long, Option.toList_some, Option.toList_none, List.cons_append, List.nil_append, Nat.reduceAdd, Nat.reduceLeDiff, Nat.reduceLT, t_tag_si, t_tag_sr, t_tag_sI, x_r_si, x_i_sr, t_r_sI, x_ia_si, x_ia_sI, x_ia_sr, x_ra_si, x_ra_sI, x_ra_sr, g_t0 hs, g_r0_4 hs, g_t22 hs, e74, bI_f h1, if_true]
    · simp only [X213_0, X213_1, X213_2, X213_3, X213_6, X213_9, X213_12, X213_14, Nat.zero_le, and_true, true_and, x_nb0, x_nb1, x_nbp, x_isL_int, x_isL_ref, x_isL_junk, x_isR_ref, x_cat_nil, x_cat_int, x_cat_ref, x_cat_long, Option.toList_some, Option.toList_none, List.cons_append, List.nil_append, Nat.reduceAdd, Nat.reduceLeDiff, Nat.reduceLT, t_tag_si, t_tag_sr, t_tag_sI, x_r_si, x_i_sr, t_r_sI, x_ia_si, x_ia_sI, x_ia_sr, x_ra_si, x_ra_sI, x_ra_sr, g_t41 hs, e174w, S138, eall, bI_f h1, if_true]
end S95
