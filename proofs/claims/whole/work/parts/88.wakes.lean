/-! ===== the call wakes ===== -/
theorem an_le {a c : Nat} : c - (c &&& a) ≤ c := Nat.sub_le _ _
section S88
variable {L : Nat} {xs : Nat → Int32} {d : Nat} {w w' : x_W} {S : Nat} {kd td mo kt tl : Nat → Nat} {tk : Nat → Nat → Nat}
theorem S24l (h : CX w S kd td mo kt) {T : Nat → Int32} (hT : ∀ b, b < S → x_i w 33 b = T b) (u v : Int32) : ∀ n i, i + n = 6 → ∀ (s t : Int32) (r : Nat), ∃ (t' : Int32) (i' : Nat), ∀ Q, X_R L xs (d + 12) 24 59 [.ref 0, .int u, .int v, .int s, .int t, .int (nI r), .int (nI i)] [] w Q = X_R L xs (d + 12) 24 112 [.ref 0, .int u, .int v, .int (runW (fun t => anyM T t S) n s t r).1, .int t', .int (nI (runW (fun t => anyM T t S) n s t r).2), .int (nI i')] [] w Q := by
  have hs := h.sh
  have h68 := fun (t : Int32) (Q' : Option Value → x_W → Prop) => S68 (L := L) (xs := xs) (d := d + 11) (Q := Q') h (t := t) hT
  intro n
  induction n with
  | zero =>
    intro i hi s t r
    obtain rfl : i = 6 := by omega
    refine ⟨t, 6, fun Q => ?_⟩
    rw [X24_59]
    simp only [X24_61, X24_63, Nat.zero_le, and_true, true_and, x_nb0, x_nb1, x_nbp, x_isL_int, x_isL_ref, x_isL_junk, x_isR_ref, x_cat_nil, x_cat_int, x_cat_ref, x_cat_long, Option.toList_some, Option.toList_none, List.cons_append, List.nil_append, Nat.reduceAdd, Nat.reduceLeDiff, Nat.reduceLT, t_tag_si, t_tag_sr, t_tag_sI, x_r_si, x_i_sr, t_r_sI, x_ia_si, x_ia_sI, x_ia_sr, x_ra_si, x_ra_sI, x_ra_sr, nI_leT (Nat.le_refl 6) (show 6 < 2 ^ 31 by decide), if_true, runW]
  | succ n ih =>
    intro i hi s t r
    by_cases ht : t = nI 0
    · subst ht
      refine ⟨nI 0, i, fun Q => ?_⟩
      rw [runW_0, X24_59]
      simp only [X24_61, X24_63, X24_66, X24_68, Nat.zero_le, and_true, true_and, x_nb0, x_nb1, x_nbp, x_isL_int, x_isL_ref, x_isL_junk, x_isR_ref, x_cat_nil, x_cat_int, x_cat_ref, x_cat_long, Option.toList_some, Option.toList_none, List.cons_append, List.nil_append, Nat.reduceAdd, Nat.reduceLeDiff, Nat.reduceLT, t_tag_si, t_tag_sr, t_tag_sI, x_r_si, x_i_sr, t_r_sI, x_ia_si, x_ia_sI, x_ia_sr, x_ra_si, x_ra_sI, x_ra_sr, nI_leF (show i < 6 by omega) (show 6 < 2 ^ 31 by decide), if_false, if_true]
    · obtain ⟨t', i', e⟩ := ih (i + 1) (by omega) (s ||| (anyM T t S &&& (s ^^^ (-1)))) (anyM T t S &&& (s ^^^ (-1))) (r + if anyM T t S &&& (s ^^^ (-1)) = nI 0 then 0 else 1)
      refine ⟨t', i', fun Q => ?_⟩
      rw [runW_s ht, ← e Q, X24_59]
      by_cases hm : anyM T t S &&& (s ^^^ (-1)) = nI 0
      · simp only [X24_0, X24_1, X24_4, X24_5, X24_8, X24_11, X24_13, X24_14, X24_15, X24_16, X24_17, X24_20, X24_23, X24_25, X24_26, X24_27, X24_30, X24_31, X24_34, X24_35, X24_38, X24_39, X24_40, X24_43, X24_46, X24_47, X24_48, X24_49, X24_50, X24_51, X24_53, X24_54, X24_56, X24_57, X24_61, X24_63, X24_66, X24_68, X24_71, X24_72, X24_75, X24_77, X24_80, X24_81, X24_82, X24_83, X24_84, X24_86, X24_87, X24_89, X24_90, X24_91, X24_93, X24_95, X24_98, X24_99, X24_102, X24_103, X24_104, X24_106, X24_109, X24_112, X24_113, X24_114, X24_117, X24_118, X24_119, X24_120, X24_121, X24_122, X24_123, X24_124, X24_127, X24_129, Nat.zero_le, and_true, true_and, x_nb0, x_nb1, x_nbp, x_isL_int, x_isL_ref, x_isL_junk, x_isR_ref, x_cat_nil, x_cat_int, x_cat_ref, x_cat_long, Option.toList_some, Option.toList_none, List.cons_append, List.nil_append, Nat.reduceAdd, Nat.reduceLeDiff, Nat.reduceLT, t_tag_si, t_tag_sr, t_tag_sI, x_r_si, x_i_sr, t_r_sI, x_ia_si, x_ia_sI, x_ia_sr, x_ra_si, x_ra_sI, x_ra_sr, nI_leF (show i < 6 by omega) (show 6 < 2 ^ 31 by decide), if_false, ht, g_t0 hs, g_r0_4 hs, g_t22 hs, h68, hm, if_true, nI_add, Nat.add_zero]
      · simp only [X24_0, X24_1, X24_4, X24_5, X24_8, X24_11, X24_13, X24_14, X24_15, X24_16, X24_17, X24_20, X24_23, X24_25, X24_26, X24_27, X24_30, X24_31, X24_34, X24_35, X24_38, X24_39, X24_40, X24_43, X24_46, X24_47, X24_48, X24_49, X24_50, X24_51, X24_53, X24_54, X24_56, X24_57, X24_61, X24_63, X24_66, X24_68, X24_71, X24_72, X24_75, X24_77, X24_80, X24_81, X24_82, X24_83, X24_84, X24_86, X24_87, X24_89, X24_90, X24_91, X24_93, X24_95, X24_98, X24_99, X24_102, X24_103, X24_104, X24_106, X24_109, X24_112, X24_113, X24_114, X24_117, X24_118, X24_119, X24_120, X24_121, X24_122, X24_123, X24_124, X24_127, X24_129, Nat.zero_le, and_true, true_and, x_nb0, x_nb1, x_nbp, x_isL_int, x_isL_ref, x_isL_junk, x_isR_ref, x_cat_nil, x_cat_int, x_cat_ref, x_cat_long, Option.toList_some, Option.toList_none, List.cons_append, List.nil_append, Nat.reduceAdd, Nat.reduceLeDiff, Nat.reduceLT, t_tag_si, t_tag_sr, t_tag_sI, x_r_si, x_i_sr, t_r_sI, x_ia_si, x_ia_sI, x_ia_sr, x_ra_si, x_ra_sI, x_ra_sr, nI_leF (show i < 6 by omega) (show 6 < 2 ^ 31 by decide), if_false, ht, g_t0 hs, g_r0_4 hs, g_t22 hs, h68, hm, nI_add]
theorem S194l (h : CM w S kd td mo kt) {T : Nat → Int32} (hT : ∀ b, b < S → x_i w 65 b = T b) (h6T : ∀ b, b < S → m6 (T b)) (u v : Int32) : ∀ n a t r, a < 64 → t < 64 → (t ≠ 0 → 7 ≤ n + pcN a) → ∀ u6 : Value, x_isL u6 = false → ∃ u', ∀ Q, X_R L xs (d + 12) 194 37 [.ref 41, .int u, .int v, .int (nI a), .int (nI t), .int (nI r), u6] [] w Q = X_R L xs (d + 12) 194 81 [.ref 41, .int u, .int v, .int (runW (fun t => anyM T t S) n (nI a) (nI t) r).1, .int (nI 0), .int (nI (runW (fun t => anyM T t S) n (nI a) (nI t) r).2), u'] [] w Q := by
  have hs := h.sh
  have h68 := fun (t : Int32) (Q' : Option Value → x_W → Prop) => S198 (L := L) (xs := xs) (d := d + 11) (Q := Q') h (t := t) hT
  intro n
  induction n with
  | zero =>
    intro a t r ha ht h7 u6 h6
    have hp := pcN_le a
    obtain rfl : t = 0 := by
      by_cases hq : t = 0
      · exact hq
      · have := h7 hq; omega
    refine ⟨u6, fun Q => ?_⟩
    simp only [X194_37, X194_39, Nat.zero_le, and_true, true_and, x_nb0, x_nb1, x_nbp, x_isL_int, x_isL_ref, x_isL_junk, x_isR_ref, x_cat_nil, x_cat_int, x_cat_ref, x_cat_long, Option.toList_some, Option.toList_none, List.cons_append, List.nil_append, Nat.reduceAdd, Nat.reduceLeDiff, Nat.reduceLT, t_tag_si, t_tag_sr, t_tag_sI, x_r_si, x_i_sr, t_r_sI, x_ia_si, x_ia_sI, x_ia_sr, x_ra_si, x_ra_sI, x_ra_sr, if_true, runW]
  | succ n ih =>
    intro a t r ha ht h7 u6 h6
    by_cases h0 : t = 0
    · subst h0
      refine ⟨u6, fun Q => ?_⟩
      rw [runW_0]
      simp only [X194_37, X194_39, Nat.zero_le, and_true, true_and, x_nb0, x_nb1, x_nbp, x_isL_int, x_isL_ref, x_isL_junk, x_isR_ref, x_cat_nil, x_cat_int, x_cat_ref, x_cat_long, Option.toList_some, Option.toList_none, List.cons_append, List.nil_append, Nat.reduceAdd, Nat.reduceLeDiff, Nat.reduceLT, t_tag_si, t_tag_sr, t_tag_sI, x_r_si, x_i_sr, t_r_sI, x_ia_si, x_ia_sI, x_ia_sr, x_ra_si, x_ra_sI, x_ra_sr, if_true]
    · have hnt : ¬ nI t = nI 0 := fun q => h0 ((nI_eq (show t < 2 ^ 31 by omega) (by decide)).mp q)
      obtain ⟨c, hc, ec⟩ := m6_any (t := nI t) S h6T
      obtain ⟨e1, e2⟩ := an_m6 c hc a ha
      have hle := an_le (a := a) (c := c)
      have eo := or_m6 a ha (c - (c &&& a)) (by omega)
      have hpc := h7 h0
      have hpos := pc_pos (c - (c &&& a)) (by omega)
      generalize c - (c &&& a) = e at *
      obtain ⟨u', ih'⟩ := ih (a ||| e) e (r + if nI e = nI 0 then 0 else 1) eo.2 (by omega) (fun q => by have := hpos q; omega) (.int (nI e)) rfl
      refine ⟨u', fun Q => ?_⟩
      rw [runW_s hnt, ec, e1, eo.1, ← ih' Q, X194_37]
      by_cases he0 : e = 0
      · subst he0
        simp only [X194_0, X194_1, X194_2, X194_5, X194_8, X194_10, X194_11, X194_12, X194_13, X194_14, X194_17, X194_20, X194_22, X194_23, X194_24, X194_27, X194_28, X194_29, X194_30, X194_31, X194_32, X194_34, X194_35, X194_39, X194_42, X194_43, X194_45, X194_48, X194_49, X194_50, X194_51, X194_52, X194_54, X194_56, X194_58, X194_61, X194_62, X194_65, X194_66, X194_67, X194_69, X194_70, X194_72, X194_73, X194_74, X194_76, X194_78, X194_81, X194_82, X194_85, X194_86, X194_89, X194_90, X194_91, X194_94, X194_95, X194_96, X194_99, X194_100, X194_101, X194_102, X194_103, X194_104, X194_105, X194_106, X194_109, X194_111, Nat.zero_le, and_true, true_and, x_nb0, x_nb1, x_nbp, x_isL_int, x_isL_ref, x_isL_junk, x_isR_ref, x_cat_nil, x_cat_int, x_cat_ref, x_cat_long, Option.toList_some, Option.toList_none, List.cons_append, List.nil_append, Nat.reduceAdd, Nat.reduceLeDiff, Nat.reduceLT, t_tag_si, t_tag_sr, t_tag_sI, x_r_si, x_i_sr, t_r_sI, x_ia_si, x_ia_sI, x_ia_sr, x_ra_si, x_ra_sI, x_ra_sr, h6, if_false, hnt, g_t41 hs, h68, ec, e1, eo.1, if_true, nI_add, Nat.add_zero]
      · have hm : ¬ nI e = nI 0 := fun q => he0 ((nI_eq (show e < 2 ^ 31 by omega) (by decide)).mp q)
        simp only [X194_0, X194_1, X194_2, X194_5, X194_8, X194_10, X194_11, X194_12, X194_13, X194_14, X194_17, X194_20, X194_22, X194_23, X194_24, X194_27, X194_28, X194_29, X194_30, X194_31, X194_32, X194_34, X194_35, X194_39, X194_42, X194_43, X194_45, X194_48, X194_49, X194_50, X194_51, X194_52, X194_54, X194_56, X194_58, X194_61, X194_62, X194_65, X194_66, X194_67, X194_69, X194_70, X194_72, X194_73, X194_74, X194_76, X194_78, X194_81, X194_82, X194_85, X194_86, X194_89, X194_90, X194_91, X194_94, X194_95, X194_96, X194_99, X194_100, X194_101, X194_102, X194_103, X194_104, X194_105, X194_106, X194_109, X194_111, Nat.zero_le, and_true, true_and, x_nb0, x_nb1, x_nbp, x_isL_int, x_isL_ref, x_isL_junk, x_isR_ref, x_cat_nil, x_cat_int, x_cat_ref, x_cat_long, Option.toList_some, Option.toList_none, List.cons_append, List.nil_append, Nat.reduceAdd, Nat.reduceLeDiff, Nat.reduceLT, t_tag_si, t_tag_sr, t_tag_sI, x_r_si, x_i_sr, t_r_sI, x_ia_si, x_ia_sI, x_ia_sr, x_ra_si, x_ra_sI, x_ra_sr, h6, if_false, hnt, g_t41 hs, h68, ec, e1, eo.1, hm, nI_add]
theorem AQ_wakes (h : AG w S kd td mo kt tl tk) (u v : Int32) : AQ L xs (d + 12) 24 194 [.ref 0, .int u, .int v, x_junk, x_junk, x_junk, x_junk] [.ref 41, .int u, .int v, x_junk, x_junk, x_junk, x_junk] w := by
  have hs := h.1.sh
  have h55 := fun (v : Int32) (Q' : Option Value → x_W → Prop) => S55 (L := L) (xs := xs) (d := d + 11) (v := v) (Q := Q') h.1.1
  have h169 := fun (v : Int32) (Q' : Option Value → x_W → Prop) => S169 (L := L) (xs := xs) (d := d + 10) (v := v) (Q := Q') h.2.1.1
  have h6 := h.1.1.S6
  by_cases h1 : slp S u
  · by_cases h2 : nI 0 ≤ v ∧ v ≤ nI 2
    · obtain ⟨s, hS, rfl⟩ := slp_of h6 h1
      obtain ⟨j, hj, rfl⟩ := kn3_of h2
      have hsx := x_ix_nI (show s < 6 by omega) (show 6 < 2 ^ 31 by decide)
      have hsc := nI_cl (show s < 2 ^ 31 by omega)
      obtain ⟨b1, b2, b3⟩ := bit_m6 s (by omega)
      obtain ⟨T, hTd⟩ : ∃ T : Nat → Int32, T = fun b => wkM (fun s => wkB kd td mo kt tl tk (farX w kt) s b) S := ⟨_, rfl⟩
      have h6T : ∀ b, b < S → m6 (T b) := fun b _ => by rw [hTd]; exact m6_wk _ S h6
      -- the reference, behind whatever the class did
      have hmod : ∀ w1, ChA w w1 → FarOk w1 → ∃ w2, ChA w1 w2 ∧ FarOk w2 ∧ ∀ Q, X_R L xs (d + 12) 194 0 [.ref 41, .int (nI s), .int (nI j), x_junk, x_junk, x_junk, x_junk] [] w1 Q = Q (some (.int (if j = 0 then T s else if j = 1 then (runW (fun t => anyM T t S) 6 (nI (2 ^ s)) (nI (2 ^ s)) 0).1 &&& (nI (2 ^ s) ^^^ (-1)) else nI (runW (fun t => anyM T t S) 6 (nI (2 ^ s)) (nI (2 ^ s)) 0).2))) w2 := by
        intro w1 c1 hF1
        have hM1 := h.2.1.ch c1
        obtain ⟨w2, c2, hT2, e195⟩ := S195 (L := L) (xs := xs) (d := d + 5) hM1
        rw [farM_ch c1] at hT2
        have hT' : ∀ b, b < S → x_i w2 65 b = T b := fun b hb => by rw [hT2 b hb, hTd]; exact (h.M (show b < 6 by omega)).symm
        have hM2 := hM1.ch (c2.ma rfl)
        obtain ⟨u', el⟩ := S194l (L := L) (xs := xs) (d := d) hM2.1 hT' h6T (nI s) (nI j) 6 (2 ^ s) (2 ^ s) 0 b2 b2 (fun _ => by omega) x_junk rfl
        have h169' := fun (v : Int32) (Q' : Option Value → x_W → Prop) => S169 (L := L) (xs := xs) (d := d + 10) (v := v) (Q := Q') hM1.1
        have hjr : bI (nI 0 ≤ nI j ∧ nI j ≤ nI 2) = nI 1 := bI_s h2
        refine ⟨w2, c2.ma rfl, hF1.m c2 rfl rfl rfl, fun Q => ?_⟩
        have e0 : X_R L xs (d + 12) 194 0 [.ref 41, .int (nI s), .int (nI j), x_junk, x_junk, x_junk, x_junk] [] w1 Q = X_R L xs (d + 12) 194 37 [.ref 41, .int (nI s), .int (nI j), .int (nI (2 ^ s)), .int (nI (2 ^ s)), .int (nI 0), x_junk] [] w2 Q := by
          simp only [X194_0, X194_1, X194_2, X194_5, X194_11, X194_12, X194_13, X194_14, X194_17, X194_23, X194_24, X194_27, X194_28, X194_29, X194_30, X194_31, X194_32, X194_34, X194_35, Nat.zero_le, and_true, true_and, x_nb0, x_nb1, x_nbp, x_isL_int, x_isL_ref, x_isL_junk, x_isR_ref, x_cat_nil, x_cat_int, x_cat_ref, x_cat_long, Option.toList_some, Option.toList_none, List.cons_append, List.nil_append, Nat.reduceAdd, Nat.reduceLeDiff, Nat.reduceLT, t_tag_si, t_tag_sr, t_tag_sI, x_r_si, x_i_sr, t_r_sI, x_ia_si, x_ia_sI, x_ia_sr, x_ra_si, x_ra_sI, x_ra_sr, g_t41 hM1.sh, h169', eq_true h1, S138, hjr, bI_t, n10, if_false, e195, b1]
        rw [e0, el Q]
        generalize hR : runW (fun t => anyM T t S) 6 (nI (2 ^ s)) (nI (2 ^ s)) 0 = R
        rcases (by omega : j = 0 ∨ j = 1 ∨ j = 2) with rfl | rfl | rfl
        · simp only [X194_81, X194_82, X194_85, X194_86, X194_89, X194_90, X194_91, X194_111, Nat.zero_le, and_true, true_and, x_nb0, x_nb1, x_nbp, x_isL_int, x_isL_ref, x_isL_junk, x_isR_ref, x_cat_nil, x_cat_int, x_cat_ref, x_cat_long, Option.toList_some, Option.toList_none, List.cons_append, List.nil_append, Nat.reduceAdd, Nat.reduceLeDiff, Nat.reduceLT, t_tag_si, t_tag_sr, t_tag_sI, x_r_si, x_i_sr, t_r_sI, x_ia_si, x_ia_sI, x_ia_sr, x_ra_si, x_ra_sI, x_ra_sr, g_t41 hM2.sh, g_r41_39 hM2.sh, g_a65 hM2.sh, hsx, hsc, hT' s hS, if_true]
        · simp only [X194_81, X194_82, X194_94, X194_95, X194_96, X194_99, X194_100, X194_101, X194_102, X194_103, X194_104, X194_105, X194_106, X194_111, Nat.zero_le, and_true, true_and, x_nb0, x_nb1, x_nbp, x_isL_int, x_isL_ref, x_isL_junk, x_isR_ref, x_cat_nil, x_cat_int, x_cat_ref, x_cat_long, Option.toList_some, Option.toList_none, List.cons_append, List.nil_append, Nat.reduceAdd, Nat.reduceLeDiff, Nat.reduceLT, t_tag_si, t_tag_sr, t_tag_sI, x_r_si, x_i_sr, t_r_sI, x_ia_si, x_ia_sI, x_ia_sr, x_ra_si, x_ra_sI, x_ra_sr, n10, b1, if_false, if_true, eq_false (show ¬ (1 : Nat) = 0 by decide)]
        · have n20 : ¬ nI 2 = nI 0 := by decide
          have n21 : ¬ nI 2 = nI 1 := by decide
          simp only [X194_81, X194_82, X194_94, X194_95, X194_96, X194_109, X194_111, Nat.zero_le, and_true, true_and, x_nb0, x_nb1, x_nbp, x_isL_int, x_isL_ref, x_isL_junk, x_isR_ref, x_cat_nil, x_cat_int, x_cat_ref, x_cat_long, Option.toList_some, Option.toList_none, List.cons_append, List.nil_append, Nat.reduceAdd, Nat.reduceLeDiff, Nat.reduceLT, t_tag_si, t_tag_sr, t_tag_sI, x_r_si, x_i_sr, t_r_sI, x_ia_si, x_ia_sI, x_ia_sr, x_ra_si, x_ra_sI, x_ra_sr, n20, n21, if_false, eq_false (show ¬ (2 : Nat) = 0 by decide), eq_false (show ¬ (2 : Nat) = 1 by decide)]
      by_cases hj0 : j = 0
      · subst hj0
        obtain ⟨w1, c1, hF1, e1⟩ := S65 (L := L) (xs := xs) (d := d + 6) h.1 hS
        obtain ⟨w2, c2, hF2, e2⟩ := hmod w1 (c1.a rfl) hF1
        rw [if_pos rfl] at e2
        refine ⟨.int (T s), w1, w2, (c1.a rfl).trans c2, hF2, fun Q => ?_, e2⟩
        rw [hTd]
        have h02 : bI (nI 0 ≤ nI 0 ∧ nI 0 ≤ nI 2) = nI 1 := by decide
        simp only [X24_0, X24_1, X24_4, X24_5, X24_8, X24_14, X24_15, X24_16, X24_17, X24_20, X24_26, X24_27, X24_30, X24_31, X24_34, X24_35, X24_38, Nat.zero_le, and_true, true_and, x_nb0, x_nb1, x_nbp, x_isL_int, x_isL_ref, x_isL_junk, x_isR_ref, x_cat_nil, x_cat_int, x_cat_ref, x_cat_long, Option.toList_some, Option.toList_none, List.cons_append, List.nil_append, Nat.reduceAdd, Nat.reduceLeDiff, Nat.reduceLT, t_tag_si, t_tag_sr, t_tag_sI, x_r_si, x_i_sr, t_r_sI, x_ia_si, x_ia_sI, x_ia_sr, x_ra_si, x_ra_sI, x_ra_sr, g_t0 hs, g_r0_4 hs, g_t22 hs, h55, bI_t h1, n10, S10, h02, if_false, if_true, e1]
      · obtain ⟨w1, c1, hF1, hT1, e67⟩ := S67 (L := L) (xs := xs) (d := d + 5) h.1
        obtain ⟨w2, c2, hF2, e2⟩ := hmod w1 (c1.a rfl) hF1
        rw [if_neg hj0] at e2
        have hX1 := h.1.ch (c1.a rfl) hF1
        obtain ⟨t', i', el⟩ := S24l (L := L) (xs := xs) (d := d) hX1.1 (T := T) (fun b hb => by rw [hT1 b hb, hTd]) (nI s) (nI j) 6 0 rfl (nI (2 ^ s)) (nI (2 ^ s)) 0
        have hjr : bI (nI 0 ≤ nI j ∧ nI j ≤ nI 2) = nI 1 := bI_s h2
        have hjn : ¬ nI j = nI 0 := fun q => hj0 ((nI_eq (show j < 2 ^ 31 by omega) (by decide)).mp q)
        refine ⟨_, w1, w2, (c1.a rfl).trans c2, hF2, fun Q => ?_, e2⟩
        have e0 : X_R L xs (d + 12) 24 0 [.ref 0, .int (nI s), .int (nI j), x_junk, x_junk, x_junk, x_junk] [] w Q = X_R L xs (d + 12) 24 59 [.ref 0, .int (nI s), .int (nI j), .int (nI (2 ^ s)), .int (nI (2 ^ s)), .int (nI 0), .int (nI 0)] [] w1 Q := by
          simp only [X24_0, X24_1, X24_4, X24_5, X24_8, X24_14, X24_15, X24_16, X24_17, X24_20, X24_26, X24_27, X24_39, X24_40, X24_43, X24_46, X24_47, X24_48, X24_49, X24_50, X24_51, X24_53, X24_54, X24_56, X24_57, Nat.zero_le, and_true, true_and, x_nb0, x_nb1, x_nbp, x_isL_int, x_isL_ref, x_isL_junk, x_isR_ref, x_cat_nil, x_cat_int, x_cat_ref, x_cat_long, Option.toList_some, Option.toList_none, List.cons_append, List.nil_append, Nat.reduceAdd, Nat.reduceLeDiff, Nat.reduceLT, t_tag_si, t_tag_sr, t_tag_sI, x_r_si, x_i_sr, t_r_sI, x_ia_si, x_ia_sI, x_ia_sr, x_ra_si, x_ra_sI, x_ra_sr, g_t0 hs, g_r0_4 hs, g_t22 hs, h55, bI_t h1, n10, S10, hjr, if_false, hjn, e67, b1]
        rw [e0, el Q]
        generalize runW (fun t => anyM T t S) 6 (nI (2 ^ s)) (nI (2 ^ s)) 0 = R
        rcases (by omega : j = 1 ∨ j = 2) with rfl | rfl
        · simp only [X24_112, X24_113, X24_114, X24_117, X24_118, X24_119, X24_120, X24_121, X24_122, X24_123, X24_124, X24_129, Nat.zero_le, and_true, true_and, x_nb0, x_nb1, x_nbp, x_isL_int, x_isL_ref, x_isL_junk, x_isR_ref, x_cat_nil, x_cat_int, x_cat_ref, x_cat_long, Option.toList_some, Option.toList_none, List.cons_append, List.nil_append, Nat.reduceAdd, Nat.reduceLeDiff, Nat.reduceLT, t_tag_si, t_tag_sr, t_tag_sI, x_r_si, x_i_sr, t_r_sI, x_ia_si, x_ia_sI, x_ia_sr, x_ra_si, x_ra_sI, x_ra_sr, b1, if_true]
        · have n21 : ¬ nI 2 = nI 1 := by decide
          simp only [X24_112, X24_113, X24_114, X24_127, X24_129, Nat.zero_le, and_true, true_and, x_nb0, x_nb1, x_nbp, x_isL_int, x_isL_ref, x_isL_junk, x_isR_ref, x_cat_nil, x_cat_int, x_cat_ref, x_cat_long, Option.toList_some, Option.toList_none, List.cons_append, List.nil_append, Nat.reduceAdd, Nat.reduceLeDiff, Nat.reduceLT, t_tag_si, t_tag_sr, t_tag_sI, x_r_si, x_i_sr, t_r_sI, x_ia_si, x_ia_sI, x_ia_sr, x_ra_si, x_ra_sI, x_ra_sr, n21, if_false, eq_false (show ¬ (2 : Nat) = 1 by decide)]
    · have hjr : bI (nI 0 ≤ v ∧ v ≤ nI 2) = nI 0 := bI_f h2
      refine AQ_no (v := .int (-7)) h.1.2.2 (fun Q => ?_) (fun Q => ?_)
      · simp only [X24_0, X24_1, X24_4, X24_5, X24_8, X24_14, X24_15, X24_16, X24_17, X24_20, X24_23, X24_25, Nat.zero_le, and_true, true_and, x_nb0, x_nb1, x_nbp, x_isL_int, x_isL_ref, x_isL_junk, x_isR_ref, x_cat_nil, x_cat_int, x_cat_ref, x_cat_long, Option.toList_some, Option.toList_none, List.cons_append, List.nil_append, Nat.reduceAdd, Nat.reduceLeDiff, Nat.reduceLT, t_tag_si, t_tag_sr, t_tag_sI, x_r_si, x_i_sr, t_r_sI, x_ia_si, x_ia_sI, x_ia_sr, x_ra_si, x_ra_sI, x_ra_sr, g_t0 hs, g_r0_4 hs, g_t22 hs, h55, bI_t h1, n10, S10, hjr, if_false, if_true]
      · simp only [X194_0, X194_1, X194_2, X194_5, X194_11, X194_12, X194_13, X194_14, X194_17, X194_20, X194_22, Nat.zero_le, and_true, true_and, x_nb0, x_nb1, x_nbp, x_isL_int, x_isL_ref, x_isL_junk, x_isR_ref, x_cat_nil, x_cat_int, x_cat_ref, x_cat_long, Option.toList_some, Option.toList_none, List.cons_append, List.nil_append, Nat.reduceAdd, Nat.reduceLeDiff, Nat.reduceLT, t_tag_si, t_tag_sr, t_tag_sI, x_r_si, x_i_sr, t_r_sI, x_ia_si, x_ia_sI, x_ia_sr, x_ra_si, x_ra_sI, x_ra_sr, g_t41 hs, h169, bI_t h1, n10, S138, hjr, if_false, if_true]
  · refine AQ_no (v := .int (-5)) h.1.2.2 (fun Q => ?_) (fun Q => ?_)
    · simp only [X24_0, X24_1, X24_4, X24_5, X24_8, X24_11, X24_13, Nat.zero_le, and_true, true_and, x_nb0, x_nb1, x_nbp, x_isL_int, x_isL_ref, x_isL_junk, x_isR_ref, x_cat_nil, x_cat_int, x_cat_ref, x_cat_long, Option.toList_some, Option.toList_none, List.cons_append, List.nil_append, Nat.reduceAdd, Nat.reduceLeDiff, Nat.reduceLT, t_tag_si, t_tag_sr, t_tag_sI, x_r_si, x_i_sr, t_r_sI, x_ia_si, x_ia_sI, x_ia_sr, x_ra_si, x_ra_sI, x_ra_sr, g_t0 hs, g_r0_4 hs, g_t22 hs, h55, bI_f h1, if_true]
    · simp only [X194_0, X194_1, X194_2, X194_5, X194_8, X194_10, Nat.zero_le, and_true, true_and, x_nb0, x_nb1, x_nbp, x_isL_int, x_isL_ref, x_isL_junk, x_isR_ref, x_cat_nil, x_cat_int, x_cat_ref, x_cat_long, Option.toList_some, Option.toList_none, List.cons_append, List.nil_append, Nat.reduceAdd, Nat.reduceLeDiff, Nat.reduceLT, t_tag_si, t_tag_sr, t_tag_sI, x_r_si, x_i_sr, t_r_sI, x_ia_si, x_ia_sI, x_ia_sr, x_ra_si, x_ra_sI, x_ra_sr, g_t41 hs, h169, bI_f h1, if_true]
end S88
