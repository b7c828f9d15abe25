/-! ===== sleepersBy, taken ===== -/
def trS (c : Nat → Int32) (f : Nat) (q : SlT) : SlT := inS (c f) (c (f + 1)) (c (f + 2)) q
def trA (c : Nat → Int32) (f : Nat) (q : SlT) : Int32 := inA (c f) (c (f + 1)) (c (f + 2)) q
def sbF (c : Nat → Int32) (a z : Nat) : Nat → Nat → Nat → SlT → Int32 × SlT
  | 0, _, m, q => (nI m, q)
  | n + 1, i, m, q => if a + 3 * i + 3 ≤ z then sbF c a z n (i + 1) (if trA c (a + 3 * i) q < nI 0 then m else m + 1) (trS c (a + 3 * i) q) else (-12, q)
theorem sbF_t {c : Nat → Int32} {a z n i m : Nat} {q : SlT} (h : a + 3 * i + 3 ≤ z) : sbF c a z (n + 1) i m q = sbF c a z n (i + 1) (if trA c (a + 3 * i) q < nI 0 then m else m + 1) (trS c (a + 3 * i) q) := if_pos h
theorem sbF_f {c : Nat → Int32} {a z n i m : Nat} {q : SlT} (h : ¬ a + 3 * i + 3 ≤ z) : sbF c a z (n + 1) i m q = (-12, q) := if_neg h
theorem sbF_le {c : Nat → Int32} {a z : Nat} : ∀ n i m q, q.1 ≤ (sbF c a z n i m q).2.1 := by
  intro n
  induction n with
  | zero => intro i m q; exact Nat.le_refl _
  | succ n ih =>
    intro i m q
    by_cases h : a + 3 * i + 3 ≤ z
    · rw [sbF_t h]
      exact Nat.le_trans (inS_le _ _ _ q) (ih _ _ _)
    · rw [sbF_f h]
      exact Nat.le_refl _
theorem sbF_cg {c c' : Nat → Int32} {a z : Nat} (h : ∀ k, k < z → c k = c' k) : ∀ n i m q, sbF c a z n i m q = sbF c' a z n i m q := by
  intro n
  induction n with
  | zero => intro i m q; rfl
  | succ n ih =>
    intro i m q
    by_cases hz : a + 3 * i + 3 ≤ z
    · rw [sbF_t hz, sbF_t hz]
      unfold trA trS
      rw [h (a + 3 * i) (by omega), h (a + 3 * i + 1) (by omega), h (a + 3 * i + 2) (by omega), ih]
    · rw [sbF_f hz, sbF_f hz]
theorem CXs.eta {w : x_W} {q : SlT} (h : CXs w q) : CX w q.1 q.2.1 q.2.2.1 q.2.2.2.1 q.2.2.2.2 := h
section S9984
variable {L : Nat} {xs : Nat → Int32} {d : Nat} {w w' : x_W} {S nt r : Nat} {kd td mo kt : Nat → Nat} {tls : Nat → Nat → Nat} {tks : Nat → Nat → Nat → Nat} {so : Nat → Int32} {sz : Nat → Nat}
theorem hr3 {x z : Nat} (hx : x ≤ 100) (hz : z ≤ 40) : hrP (nI x) (nI 3) z ↔ x + 3 ≤ z := by
  constructor
  · intro h
    obtain ⟨a, m, e1, e2, h2⟩ := hrP_of hz h
    have a1 := (nI_eq (show x < 2 ^ 31 by omega) (show a < 2 ^ 31 by omega)).mp e1
    have a2 := (nI_eq (show 3 < 2 ^ 31 by omega) (show m < 2 ^ 31 by omega)).mp e2
    omega
  · intro h
    exact hrP_nI hz h
theorem S49l (hw : SHT w so sz) {s : Nat} (h4 : s < 4) {a N : Nat} (ha : a ≤ 40) (hN : N ≤ 6) {v1 v2 : Int32} : ∀ n i, i + n = N → ∀ m w1 q, CXs w1 q → Ch pSX w w1 → ∀ u8 : Value, x_isL u8 = false → ∃ w2, CXs w2 (sbF (x_i w (15 + 2 * s)) a (sz s) n i m q).2 ∧ Ch pSX w w2 ∧ ∀ Q, X_R L xs (d + 12) 49 68 [.ref 0, .int v1, .int v2, .int (nI a), .int (nI N), .ref (14 + 2 * s), .int (nI m), .int (nI i), u8] [] w1 Q = Q (some (.int (sbF (x_i w (15 + 2 * s)) a (sz s) n i m q).1)) w2 := by
  obtain ⟨⟨q1, q2, q3, q4⟩, q5, q6, q7⟩ := hw s h4
  intro n
  induction n with
  | zero =>
    intro i hi m w1 q hX c1 u8 h8
    obtain rfl : i = N := by omega
    refine ⟨w1, hX, c1, fun Q => ?_⟩
    rw [X49_68]
    simp only [X49_70, X49_72, X49_141, X49_143, Nat.zero_le, and_true, true_and, x_nb0, x_nb1, x_nbp, x_isL_int, x_isL_ref, x_isL_junk, x_isR_ref, x_cat_nil, x_cat_int, x_cat_ref, x_cat_long, Option.toList_some, Option.toList_none, List.cons_append, List.nil_append, Nat.reduceAdd, Nat.reduceLeDiff, Nat.reduceLT, t_tag_si, t_tag_sr, t_tag_sI, x_r_si, x_i_sr, t_r_sI, x_ia_si, x_ia_sI, x_ia_sr, x_ra_si, x_ra_sI, x_ra_sr, nI_leT (Nat.le_refl i) (show i < 2 ^ 31 by omega), if_true]
    rfl
  | succ n ih =>
    intro i hi m w1 q hX c1 u8 h8
    have hX' : CX w1 q.1 q.2.1 q.2.2.1 q.2.2.2.1 q.2.2.2.2 := hX
    have hs1 := hX'.sh
    obtain ⟨r1, r2, r3, r4⟩ := g_sh hs1 s h4
    have p14 : x_i w1 (14 + 2 * s) 1 = nI (sz s) := by
      rw [c1.i (four (p := fun s => ∀ k, pSX (14 + 2 * s) k = false) ⟨fun _ => rfl, fun _ => rfl, fun _ => rfl, fun _ => rfl⟩ s h4)]; exact q2
    have p15 : x_i w1 (15 + 2 * s) = x_i w (15 + 2 * s) := c1.i (four (p := fun s => ∀ k, pSX (15 + 2 * s) k = false) ⟨fun _ => rfl, fun _ => rfl, fun _ => rfl, fun _ => rfl⟩ s h4)
    have e104 := fun (Q' : Option Value → x_W → Prop) => S104 (L := L) (xs := xs) (d := d + 11) hs1 h4 (i := nI (a + 3 * i)) (n := nI 3) p14 (Q := Q')
    have lt := nI_leF (show i < N by omega) (show N < 2 ^ 31 by omega)
    by_cases hz : a + 3 * i + 3 ≤ sz s
    · rw [@bI_t _ (hrP_dec _ _ _) ((hr3 (by omega) q5).mpr hz)] at e104
      have x0 := x_ix_nI (show a + 3 * i < 40 by omega) (show 40 < 2 ^ 31 by decide)
      have x1 := x_ix_nI (show a + 3 * i + 1 < 40 by omega) (show 40 < 2 ^ 31 by decide)
      have x2 := x_ix_nI (show a + 3 * i + 2 < 40 by omega) (show 40 < 2 ^ 31 by decide)
      have y0 := nI_cl (show a + 3 * i < 2 ^ 31 by omega)
      have y1 := nI_cl (show a + 3 * i + 1 < 2 ^ 31 by omega)
      have y2 := nI_cl (show a + 3 * i + 2 < 2 ^ 31 by omega)
      obtain ⟨w2, hX2, c2, e15⟩ := S15 (L := L) (xs := xs) (d := d + 4) hX' (x_i w (15 + 2 * s) (a + 3 * i)) (x_i w (15 + 2 * s) (a + 3 * i + 1)) (x_i w (15 + 2 * s) (a + 3 * i + 2))
      have etr : inA (x_i w (15 + 2 * s) (a + 3 * i)) (x_i w (15 + 2 * s) (a + 3 * i + 1)) (x_i w (15 + 2 * s) (a + 3 * i + 2)) (q.1, q.2.1, q.2.2.1, q.2.2.2.1, q.2.2.2.2) = trA (x_i w (15 + 2 * s)) (a + 3 * i) q := rfl
      rw [etr] at e15
      have hX3 : CXs w2 (trS (x_i w (15 + 2 * s)) (a + 3 * i) q) := hX2
      rw [sbF_t hz]
      by_cases hneg : trA (x_i w (15 + 2 * s)) (a + 3 * i) q < nI 0
      · rw [if_pos hneg]
        obtain ⟨w3, hX4, c4, e4⟩ := ih (i + 1) (by omega) m w2 _ hX3 (c1.trans c2) (.int (nI (a + 3 * i))) rfl
        refine ⟨w3, hX4, c4, fun Q => ?_⟩
        rw [← e4 Q, X49_68]
        simp only [X49_70, X49_72, X49_75, X49_76, X49_77, X49_79, X49_80, X49_81, X49_83, X49_85, X49_87, X49_88, X49_91, X49_97, X49_98, X49_100, X49_103, X49_105, X49_106, X49_108, X49_111, X49_113, X49_114, X49_115, X49_116, X49_118, X49_121, X49_123, X49_124, X49_125, X49_126, X49_129, X49_135, X49_138, Nat.zero_le, and_true, true_and, x_nb0, x_nb1, x_nbp, x_isL_int, x_isL_ref, x_isL_junk, x_isR_ref, x_cat_nil, x_cat_int, x_cat_ref, x_cat_long, Option.toList_some, Option.toList_none, List.cons_append, List.nil_append, Nat.reduceAdd, Nat.reduceLeDiff, Nat.reduceLT, t_tag_si, t_tag_sr, t_tag_sI, x_r_si, x_i_sr, t_r_sI, x_ia_si, x_ia_sI, x_ia_sr, x_ra_si, x_ra_sI, x_ra_sr, h8, lt, if_false, nI_mul 3 i, nI_add, e104, n10, g_t0 hs1, r2, r3, r4, x0, x1, x2, y0, y1, y2, p15, e15, hneg, if_true]
      · rw [if_neg hneg]
        obtain ⟨w3, hX4, c4, e4⟩ := ih (i + 1) (by omega) (m + 1) w2 _ hX3 (c1.trans c2) (.int (nI (a + 3 * i))) rfl
        refine ⟨w3, hX4, c4, fun Q => ?_⟩
        rw [← e4 Q, X49_68]
        simp only [X49_70, X49_72, X49_75, X49_76, X49_77, X49_79, X49_80, X49_81, X49_83, X49_85, X49_87, X49_88, X49_91, X49_97, X49_98, X49_100, X49_103, X49_105, X49_106, X49_108, X49_111, X49_113, X49_114, X49_115, X49_116, X49_118, X49_121, X49_123, X49_124, X49_125, X49_126, X49_129, X49_132, X49_135, X49_138, Nat.zero_le, and_true, true_and, x_nb0, x_nb1, x_nbp, x_isL_int, x_isL_ref, x_isL_junk, x_isR_ref, x_cat_nil, x_cat_int, x_cat_ref, x_cat_long, Option.toList_some, Option.toList_none, List.cons_append, List.nil_append, Nat.reduceAdd, Nat.reduceLeDiff, Nat.reduceLT, t_tag_si, t_tag_sr, t_tag_sI, x_r_si, x_i_sr, t_r_sI, x_ia_si, x_ia_sI, x_ia_sr, x_ra_si, x_ra_sI, x_ra_sr, h8, lt, if_false, nI_mul 3 i, nI_add, e104, n10, g_t0 hs1, r2, r3, r4, x0, x1, x2, y0, y1, y2, p15, e15, hneg]
    · rw [@bI_f _ (hrP_dec _ _ _) (fun z => hz ((hr3 (by omega) q5).mp z))] at e104
      rw [sbF_f hz]
      refine ⟨w1, hX, c1, fun Q => ?_⟩
      rw [X49_68]
      simp only [X49_70, X49_72, X49_75, X49_76, X49_77, X49_79, X49_80, X49_81, X49_83, X49_85, X49_87, X49_88, X49_91, X49_94, X49_96, Nat.zero_le, and_true, true_and, x_nb0, x_nb1, x_nbp, x_isL_int, x_isL_ref, x_isL_junk, x_isR_ref, x_cat_nil, x_cat_int, x_cat_ref, x_cat_long, Option.toList_some, Option.toList_none, List.cons_append, List.nil_append, Nat.reduceAdd, Nat.reduceLeDiff, Nat.reduceLT, t_tag_si, t_tag_sr, t_tag_sI, x_r_si, x_i_sr, t_r_sI, x_ia_si, x_ia_sI, x_ia_sr, x_ra_si, x_ra_sI, x_ra_sr, h8, lt, if_false, nI_mul 3 i, nI_add, r2, e104, if_true]
theorem le_z3 {x z : Nat} (hx : x ≤ 100) (hz : z ≤ 40) : (nI x ≤ nI z - nI 3) = (x + 3 ≤ z) := by
  have e : ∀ n, n < 101 → (nI n).toInt = (n : Int) ∧ (nI n - nI 3).toInt = (n : Int) - 3 := by decide +kernel
  rw [Int32.le_iff_toInt_le, (e x (by omega)).1, (e z (by omega)).2]
  exact propext ⟨fun h => by omega, fun h => by omega⟩
theorem S229l (hw : SHT w so sz) {s : Nat} (h4 : s < 4) {a N : Nat} (ha : a ≤ 40) (hN : N ≤ 6) {v2 : Int32} : ∀ n i, i + n = N → ∀ m w1 q, CMs w1 q → Ch pSM w w1 → ∀ u7 u8 : Value, x_isL u7 = false → x_isL u8 = false → ∃ w2, CMs w2 (sbF (fun k => x_i w 54 (40 * s + k)) a (sz s) n i m q).2 ∧ Ch pSM w w2 ∧ ∀ Q, X_R L xs (d + 12) 229 64 [.ref 41, .int (nI s), .int v2, .int (nI a), .int (nI N), .int (nI m), .int (nI i), u7, u8] [] w1 Q = Q (some (.int (sbF (fun k => x_i w 54 (40 * s + k)) a (sz s) n i m q).1)) w2 := by
  obtain ⟨⟨q1, q2, q3, q4⟩, q5, q6, q7⟩ := hw s h4
  have sx := x_ix_nI h4 (show 4 < 2 ^ 31 by decide)
  have sc' := nI_cl (show s < 2 ^ 31 by omega)
  intro n
  induction n with
  | zero =>
    intro i hi m w1 q hX c1 u7 u8 h7 h8
    obtain rfl : i = N := by omega
    refine ⟨w1, hX, c1, fun Q => ?_⟩
    rw [X229_64]
    simp only [X229_66, X229_68, X229_162, X229_164, Nat.zero_le, and_true, true_and, x_nb0, x_nb1, x_nbp, x_isL_int, x_isL_ref, x_isL_junk, x_isR_ref, x_cat_nil, x_cat_int, x_cat_ref, x_cat_long, Option.toList_some, Option.toList_none, List.cons_append, List.nil_append, Nat.reduceAdd, Nat.reduceLeDiff, Nat.reduceLT, t_tag_si, t_tag_sr, t_tag_sI, x_r_si, x_i_sr, t_r_sI, x_ia_si, x_ia_sI, x_ia_sr, x_ra_si, x_ra_sI, x_ra_sr, nI_leT (Nat.le_refl i) (show i < 2 ^ 31 by omega), if_true]
    rfl
  | succ n ih =>
    intro i hi m w1 q hX c1 u7 u8 h7 h8
    have hX' : CM w1 q.1 q.2.1 q.2.2.1 q.2.2.2.1 q.2.2.2.2 := hX
    have hs1 := hX'.sh
    have p53 : x_i w1 53 s = nI (sz s) := by rw [c1.i (fun _ => rfl : ∀ k, pSM 53 k = false)]; exact q4
    have p54 : x_i w1 54 = x_i w 54 := c1.i (fun _ => rfl)
    have lt := nI_leF (show i < N by omega) (show N < 2 ^ 31 by omega)
    have na := nI_nlt0 (show a < 2 ^ 31 by omega)
    have nf := nI_ltF (show a ≤ a + 3 * i by omega) (show a + 3 * i < 2 ^ 31 by omega)
    have lz := le_z3 (show a + 3 * i ≤ 100 by omega) q5
    by_cases hz : a + 3 * i + 3 ≤ sz s
    · have x0 := x_ix_nI (show 40 * s + (a + 3 * i) < 160 by omega) (show 160 < 2 ^ 31 by decide)
      have x1 := x_ix_nI (show 40 * s + (a + 3 * i) + 1 < 160 by omega) (show 160 < 2 ^ 31 by decide)
      have x2 := x_ix_nI (show 40 * s + (a + 3 * i) + 2 < 160 by omega) (show 160 < 2 ^ 31 by decide)
      have y0 := nI_cl (show 40 * s + (a + 3 * i) < 2 ^ 31 by omega)
      have y1 := nI_cl (show 40 * s + (a + 3 * i) + 1 < 2 ^ 31 by omega)
      have y2 := nI_cl (show 40 * s + (a + 3 * i) + 2 < 2 ^ 31 by omega)
      obtain ⟨w2, hX2, c2, e15⟩ := S167 (L := L) (xs := xs) (d := d + 4) hX' (x_i w 54 (40 * s + (a + 3 * i))) (x_i w 54 (40 * s + (a + 3 * i) + 1)) (x_i w 54 (40 * s + (a + 3 * i) + 2))
      have etr : inA (x_i w 54 (40 * s + (a + 3 * i))) (x_i w 54 (40 * s + (a + 3 * i) + 1)) (x_i w 54 (40 * s + (a + 3 * i) + 2)) (q.1, q.2.1, q.2.2.1, q.2.2.2.1, q.2.2.2.2) = trA (fun k => x_i w 54 (40 * s + k)) (a + 3 * i) q := rfl
      rw [etr] at e15
      have hX3 : CMs w2 (trS (fun k => x_i w 54 (40 * s + k)) (a + 3 * i) q) := hX2
      rw [sbF_t hz]
      by_cases hneg : trA (fun k => x_i w 54 (40 * s + k)) (a + 3 * i) q < nI 0
      · rw [if_pos hneg]
        obtain ⟨w3, hX4, c4, e4⟩ := ih (i + 1) (by omega) m w2 _ hX3 (c1.trans c2) (.int (nI (a + 3 * i))) (.int (nI (40 * s + (a + 3 * i)))) rfl rfl
        refine ⟨w3, hX4, c4, fun Q => ?_⟩
        rw [← e4 Q, X229_64]
        simp only [X229_66, X229_68, X229_71, X229_72, X229_73, X229_75, X229_76, X229_77, X229_79, X229_80, X229_83, X229_85, X229_86, X229_89, X229_91, X229_92, X229_95, X229_96, X229_97, X229_98, X229_99, X229_105, X229_107, X229_108, X229_109, X229_111, X229_112, X229_114, X229_116, X229_117, X229_118, X229_121, X229_123, X229_124, X229_125, X229_128, X229_130, X229_131, X229_132, X229_133, X229_134, X229_137, X229_139, X229_140, X229_141, X229_142, X229_145, X229_152, X229_153, X229_154, X229_156, X229_159, Nat.zero_le, and_true, true_and, x_nb0, x_nb1, x_nbp, x_isL_int, x_isL_ref, x_isL_junk, x_isR_ref, x_cat_nil, x_cat_int, x_cat_ref, x_cat_long, Option.toList_some, Option.toList_none, List.cons_append, List.nil_append, Nat.reduceAdd, Nat.reduceLeDiff, Nat.reduceLT, t_tag_si, t_tag_sr, t_tag_sI, x_r_si, x_i_sr, t_r_sI, x_ia_si, x_ia_sI, x_ia_sr, x_ra_si, x_ra_sI, x_ra_sr, h7, h8, lt, if_false, nI_mul 3 i, nI_mul 40 s, nI_add, na, nf, g_t41 hs1, g_r41_20 hs1, g_a53 hs1, sx, sc', p53, eq_true (lz.mpr hz), if_true, g_r41_21 hs1, g_a54 hs1, x0, x1, x2, y0, y1, y2, p54, e15, hneg, Nat.add_zero]
      · rw [if_neg hneg]
        obtain ⟨w3, hX4, c4, e4⟩ := ih (i + 1) (by omega) (m + 1) w2 _ hX3 (c1.trans c2) (.int (nI (a + 3 * i))) (.int (nI (40 * s + (a + 3 * i)))) rfl rfl
        refine ⟨w3, hX4, c4, fun Q => ?_⟩
        rw [← e4 Q, X229_64]
        simp only [X229_66, X229_68, X229_71, X229_72, X229_73, X229_75, X229_76, X229_77, X229_79, X229_80, X229_83, X229_85, X229_86, X229_89, X229_91, X229_92, X229_95, X229_96, X229_97, X229_98, X229_99, X229_105, X229_107, X229_108, X229_109, X229_111, X229_112, X229_114, X229_116, X229_117, X229_118, X229_121, X229_123, X229_124, X229_125, X229_128, X229_130, X229_131, X229_132, X229_133, X229_134, X229_137, X229_139, X229_140, X229_141, X229_142, X229_145, X229_148, X229_149, X229_153, X229_154, X229_156, X229_159, Nat.zero_le, and_true, true_and, x_nb0, x_nb1, x_nbp, x_isL_int, x_isL_ref, x_isL_junk, x_isR_ref, x_cat_nil, x_cat_int, x_cat_ref, x_cat_long, Option.toList_some, Option.toList_none, List.cons_append, List.nil_append, Nat.reduceAdd, Nat.reduceLeDiff, Nat.reduceLT, t_tag_si, t_tag_sr, t_tag_sI, x_r_si, x_i_sr, t_r_sI, x_ia_si, x_ia_sI, x_ia_sr, x_ra_si, x_ra_sI, x_ra_sr, h7, h8, lt, if_false, nI_mul 3 i, nI_mul 40 s, nI_add, na, nf, g_t41 hs1, g_r41_20 hs1, g_a53 hs1, sx, sc', p53, eq_true (lz.mpr hz), if_true, g_r41_21 hs1, g_a54 hs1, x0, x1, x2, y0, y1, y2, p54, e15, hneg]
    · rw [sbF_f hz]
      refine ⟨w1, hX, c1, fun Q => ?_⟩
      rw [X229_64]
      simp only [X229_66, X229_68, X229_71, X229_72, X229_73, X229_75, X229_76, X229_77, X229_79, X229_80, X229_83, X229_85, X229_86, X229_89, X229_91, X229_92, X229_95, X229_96, X229_97, X229_98, X229_99, X229_102, X229_104, Nat.zero_le, and_true, true_and, x_nb0, x_nb1, x_nbp, x_isL_int, x_isL_ref, x_isL_junk, x_isR_ref, x_cat_nil, x_cat_int, x_cat_ref, x_cat_long, Option.toList_some, Option.toList_none, List.cons_append, List.nil_append, Nat.reduceAdd, Nat.reduceLeDiff, Nat.reduceLT, t_tag_si, t_tag_sr, t_tag_sI, x_r_si, x_i_sr, t_r_sI, x_ia_si, x_ia_sI, x_ia_sr, x_ra_si, x_ra_sI, x_ra_sr, h7, h8, lt, if_false, nI_mul 3 i, nI_add, na, nf, g_t41 hs1, g_r41_20 hs1, g_a53 hs1, sx, sc', p53, eq_false (fun z => hz (lz.mp z))]
theorem CA_sleepersBy (hJ : J w S kd td mo kt nt r tls tks so sz) (u v a n : Int32) : CA L xs (d + 12) 49 229 [.ref 0, .int u, .int v, .int a, .int n, x_junk, x_junk, x_junk, x_junk] [.ref 41, .int u, .int v, .int a, .int n, x_junk, x_junk, x_junk, x_junk] w := by
  have hs := hJ.sh
  by_cases hu : shn u
  · have e37 : ∀ (w : x_W) (Q' : Option Value → x_W → Prop), X_R L xs (d + 11) 37 0 [.int u] [] w Q' = Q' (some (.int (nI 1))) w := fun w Q' => by rw [S37 (d := d + 10), bI_t hu]
    have e138 := fun (w : x_W) (Q' : Option Value → x_W → Prop) => b138 (L := L) (xs := xs) (d := d + 11) (w := w) (Q := Q') hu
    by_cases hv : nI 0 ≤ v ∧ v ≤ nI 2
    · have e10 := fun (w : x_W) (Q' : Option Value → x_W → Prop) => b10 (L := L) (xs := xs) (d := d + 11) (w := w) (Q := Q') hv
      have f138' := fun (w : x_W) (Q' : Option Value → x_W → Prop) => b138 (L := L) (xs := xs) (d := d + 11) (w := w) (Q := Q') hv
      by_cases hn : nI 0 ≤ n ∧ n ≤ nI 6
      · have g10 := fun (w : x_W) (Q' : Option Value → x_W → Prop) => b10 (L := L) (xs := xs) (d := d + 11) (w := w) (Q := Q') hn
        have g138' := fun (w : x_W) (Q' : Option Value → x_W → Prop) => b138 (L := L) (xs := xs) (d := d + 11) (w := w) (Q := Q') hn
        obtain ⟨s, h4, rfl⟩ := sh_of hu
        obtain ⟨N, hN, rfl⟩ := in_of (n := 6) rfl hn
        obtain ⟨r1, r2, r3, r4⟩ := g_sh hs s h4
        have sx := x_ix_nI h4 (show 4 < 2 ^ 31 by decide)
        have sc' := nI_cl (show s < 2 ^ 31 by omega)
        obtain ⟨⟨q1, q2, q3, q4⟩, q5, q6, q7⟩ := hJ.2.1 s h4
        by_cases h1 : so s = -1
        · refine CA_no (v := .int (-11)) hJ (fun Q => ?_) (fun Q => ?_)
          · simp only [X49_0, X49_1, X49_4, X49_7, X49_8, X49_9, X49_10, X49_13, X49_16, X49_18, X49_19, X49_21, X49_24, X49_30, X49_31, X49_34, X49_35, X49_36, X49_38, X49_40, X49_43, X49_44, X49_47, X49_49, Nat.zero_le, and_true, true_and, x_nb0, x_nb1, x_nbp, x_isL_int, x_isL_ref, x_isL_junk, x_isR_ref, x_cat_nil, x_cat_int, x_cat_ref, x_cat_long, Option.toList_some, Option.toList_none, List.cons_append, List.nil_append, Nat.reduceAdd, Nat.reduceLeDiff, Nat.reduceLT, t_tag_si, t_tag_sr, t_tag_sI, x_r_si, x_i_sr, t_r_sI, x_ia_si, x_ia_sI, x_ia_sr, x_ra_si, x_ra_sI, x_ra_sr, e37, e10, g10, n10, if_false, g_t0 hs, g_r0_6 hs, g_a6 hs, sx, sc', r1, r2, q1, h1, if_true]
          · simp only [X229_0, X229_1, X229_2, X229_3, X229_6, X229_9, X229_10, X229_11, X229_12, X229_15, X229_18, X229_20, X229_21, X229_23, X229_26, X229_32, X229_33, X229_36, X229_37, X229_38, X229_39, X229_42, X229_44, Nat.zero_le, and_true, true_and, x_nb0, x_nb1, x_nbp, x_isL_int, x_isL_ref, x_isL_junk, x_isR_ref, x_cat_nil, x_cat_int, x_cat_ref, x_cat_long, Option.toList_some, Option.toList_none, List.cons_append, List.nil_append, Nat.reduceAdd, Nat.reduceLeDiff, Nat.reduceLT, t_tag_si, t_tag_sr, t_tag_sI, x_r_si, x_i_sr, t_r_sI, x_ia_si, x_ia_sI, x_ia_sr, x_ra_si, x_ra_sI, x_ra_sr, e138, f138', g138', n10, if_false, g_t41 hs, g_r41_19 hs, g_a52 hs, sx, sc', q3, h1, if_true]
        · by_cases h2 : so s = v
          · have e49 : ∀ Q, X_R L xs (d + 12) 49 0 [.ref 0, .int (nI s), .int v, .int a, .int (nI N), x_junk, x_junk, x_junk, x_junk] [] w Q = X_R L xs (d + 12) 49 68 [.ref 0, .int (nI s), .int v, .int a, .int (nI N), .ref (14 + 2 * s), .int (nI 0), .int (nI 0), x_junk] [] w Q := by
              intro Q
              simp only [X49_0, X49_1, X49_4, X49_7, X49_8, X49_9, X49_10, X49_13, X49_16, X49_18, X49_19, X49_21, X49_24, X49_30, X49_31, X49_34, X49_35, X49_36, X49_38, X49_40, X49_43, X49_44, X49_50, X49_52, X49_55, X49_56, X49_62, X49_63, X49_65, X49_66, Nat.zero_le, and_true, true_and, x_nb0, x_nb1, x_nbp, x_isL_int, x_isL_ref, x_isL_junk, x_isR_ref, x_cat_nil, x_cat_int, x_cat_ref, x_cat_long, Option.toList_some, Option.toList_none, List.cons_append, List.nil_append, Nat.reduceAdd, Nat.reduceLeDiff, Nat.reduceLT, t_tag_si, t_tag_sr, t_tag_sI, x_r_si, x_i_sr, t_r_sI, x_ia_si, x_ia_sI, x_ia_sr, x_ra_si, x_ra_sI, x_ra_sr, e37, e10, g10, n10, if_false, g_t0 hs, g_r0_6 hs, g_a6 hs, sx, sc', r1, r2, q1, eq_false h1, eq_true h2, if_true]
            have e229 : ∀ w1 Q, Sh w1 → x_i w1 52 s = so s → X_R L xs (d + 12) 229 0 [.ref 41, .int (nI s), .int v, .int a, .int (nI N), x_junk, x_junk, x_junk, x_junk] [] w1 Q = X_R L xs (d + 12) 229 64 [.ref 41, .int (nI s), .int v, .int a, .int (nI N), .int (nI 0), .int (nI 0), x_junk, x_junk] [] w1 Q := by
              intro w1 Q hs1 p52
              simp only [X229_0, X229_1, X229_2, X229_3, X229_6, X229_9, X229_10, X229_11, X229_12, X229_15, X229_18, X229_20, X229_21, X229_23, X229_26, X229_32, X229_33, X229_36, X229_37, X229_38, X229_39, X229_45, X229_46, X229_49, X229_50, X229_51, X229_52, X229_58, X229_59, X229_61, X229_62, Nat.zero_le, and_true, true_and, x_nb0, x_nb1, x_nbp, x_isL_int, x_isL_ref, x_isL_junk, x_isR_ref, x_cat_nil, x_cat_int, x_cat_ref, x_cat_long, Option.toList_some, Option.toList_none, List.cons_append, List.nil_append, Nat.reduceAdd, Nat.reduceLeDiff, Nat.reduceLT, t_tag_si, t_tag_sr, t_tag_sI, x_r_si, x_i_sr, t_r_sI, x_ia_si, x_ia_sI, x_ia_sr, x_ra_si, x_ra_sI, x_ra_sr, e138, f138', g138', n10, if_false, g_t41 hs1, g_r41_19 hs1, g_a52 hs1, sx, sc', p52, eq_false h1, eq_true h2, if_true]
            by_cases ha : nI 0 ≤ a ∧ a ≤ nI 40
            · obtain ⟨a, ha40, rfl⟩ := in_of (n := 40) rfl ha
              obtain ⟨w1, hX1, c1, e1⟩ := S49l (L := L) (xs := xs) (d := d) hJ.2.1 h4 ha40 hN (v1 := nI s) (v2 := v) N 0 (by omega) 0 w (S, kd, td, mo, kt) hJ.ag.1.1 Ch.refl x_junk rfl
              have hM1 : CMs w1 (S, kd, td, mo, kt) := CMs.x (S := S) (kd := kd) (td := td) (mo := mo) (kt := kt) hJ.ag.2.1.1 c1
              have hs1 := c1.sh hs
              have hSH1 : SHT w1 so sz := hJ.2.1.gen c1 (four ⟨fun _ => ⟨rfl, rfl⟩, fun _ => ⟨rfl, rfl⟩, fun _ => ⟨rfl, rfl⟩, fun _ => ⟨rfl, rfl⟩⟩) (fun _ => ⟨rfl, rfl, rfl⟩)
              obtain ⟨w2, hM2, c2, e2⟩ := S229l (L := L) (xs := xs) (d := d) hSH1 h4 ha40 hN (v2 := v) N 0 (by omega) 0 w1 (S, kd, td, mo, kt) hM1 Ch.refl x_junk x_junk rfl rfl
              have eF : sbF (fun k => x_i w1 54 (40 * s + k)) a (sz s) N 0 0 (S, kd, td, mo, kt) = sbF (x_i w (15 + 2 * s)) a (sz s) N 0 0 (S, kd, td, mo, kt) := sbF_cg (fun k hk => by
                rw [c1.i (fun _ => rfl : ∀ k, pSX 54 k = false)]
                exact (q7 k (by omega)).symm) N 0 0 _
              rw [eF] at hM2 e2
              have hle := sbF_le (c := x_i w (15 + 2 * s)) (a := a) (z := sz s) N 0 0 (S, kd, td, mo, kt)
              generalize sbF (x_i w (15 + 2 * s)) a (sz s) N 0 0 (S, kd, td, mo, kt) = R at *
              have hX2 : CXs w2 R.2 := CXs.m (S := R.2.1) (kd := R.2.2.1) (td := R.2.2.2.1) (mo := R.2.2.2.2.1) (kt := R.2.2.2.2.2) hX1 c2
              refine ⟨.int R.1, w1, w2, (hJ.slp ((gp_up c1 rfl rfl).trans (gp_up c2 rfl rfl)) hX2 hM2 hle).jj, fun Q => (e49 Q).trans (e1 Q), fun Q => ?_⟩
              have p52 : x_i w1 52 s = so s := by rw [c1.i (fun _ => rfl : ∀ k, pSX 52 k = false)]; exact q3
              exact (e229 w1 Q hs1 p52).trans (e2 Q)
            · have az : a + nI 0 = a := by
                have e : nI 0 = (0 : Int32) := rfl
                rw [e, Int32.add_zero]
              have m30 : nI 3 * nI 0 = nI 0 := by decide
              by_cases hN0 : N = 0
              · subst hN0
                refine CA_no (v := .int (nI 0)) hJ (fun Q => ?_) (fun Q => ?_)
                · rw [e49 Q]
                  simp only [X49_68, X49_70, X49_72, X49_141, X49_143, Nat.zero_le, and_true, true_and, x_nb0, x_nb1, x_nbp, x_isL_int, x_isL_ref, x_isL_junk, x_isR_ref, x_cat_nil, x_cat_int, x_cat_ref, x_cat_long, Option.toList_some, Option.toList_none, List.cons_append, List.nil_append, Nat.reduceAdd, Nat.reduceLeDiff, Nat.reduceLT, t_tag_si, t_tag_sr, t_tag_sI, x_r_si, x_i_sr, t_r_sI, x_ia_si, x_ia_sI, x_ia_sr, x_ra_si, x_ra_sI, x_ra_sr, nI_leT (Nat.le_refl 0) (show 0 < 2 ^ 31 by decide), if_true]
                · rw [e229 w Q hs q3]
                  simp only [X229_64, X229_66, X229_68, X229_162, X229_164, Nat.zero_le, and_true, true_and, x_nb0, x_nb1, x_nbp, x_isL_int, x_isL_ref, x_isL_junk, x_isR_ref, x_cat_nil, x_cat_int, x_cat_ref, x_cat_long, Option.toList_some, Option.toList_none, List.cons_append, List.nil_append, Nat.reduceAdd, Nat.reduceLeDiff, Nat.reduceLT, t_tag_si, t_tag_sr, t_tag_sI, x_r_si, x_i_sr, t_r_sI, x_ia_si, x_ia_sI, x_ia_sr, x_ra_si, x_ra_sI, x_ra_sr, nI_leT (Nat.le_refl 0) (show 0 < 2 ^ 31 by decide), if_true]
              · have lt := nI_leF (show 0 < N by omega) (show N < 2 ^ 31 by omega)
                have e104 := fun (Q' : Option Value → x_W → Prop) => S104 (L := L) (xs := xs) (d := d + 11) hs h4 (i := a) (n := nI 3) q2 (Q := Q')
                rw [@bI_f _ (hrP_dec _ _ _) (fun z => ha ⟨z.1, Int32.le_trans z.2.2.1 (nI_le q5 (by decide))⟩)] at e104
                refine CA_no (v := .int (-12)) hJ (fun Q => ?_) (fun Q => ?_)
                · rw [e49 Q]
                  simp only [X49_68, X49_70, X49_72, X49_75, X49_76, X49_77, X49_79, X49_80, X49_81, X49_83, X49_85, X49_87, X49_88, X49_91, X49_94, X49_96, Nat.zero_le, and_true, true_and, x_nb0, x_nb1, x_nbp, x_isL_int, x_isL_ref, x_isL_junk, x_isR_ref, x_cat_nil, x_cat_int, x_cat_ref, x_cat_long, Option.toList_some, Option.toList_none, List.cons_append, List.nil_append, Nat.reduceAdd, Nat.reduceLeDiff, Nat.reduceLT, t_tag_si, t_tag_sr, t_tag_sI, x_r_si, x_i_sr, t_r_sI, x_ia_si, x_ia_sI, x_ia_sr, x_ra_si, x_ra_sI, x_ra_sr, lt, if_false, m30, az, r2, e104, if_true]
                · rw [e229 w Q hs q3]
                  by_cases hneg : a < nI 0
                  · simp only [X229_64, X229_66, X229_68, X229_71, X229_72, X229_73, X229_75, X229_76, X229_77, X229_79, X229_80, X229_102, X229_104, Nat.zero_le, and_true, true_and, x_nb0, x_nb1, x_nbp, x_isL_int, x_isL_ref, x_isL_junk, x_isR_ref, x_cat_nil, x_cat_int, x_cat_ref, x_cat_long, Option.toList_some, Option.toList_none, List.cons_append, List.nil_append, Nat.reduceAdd, Nat.reduceLeDiff, Nat.reduceLT, t_tag_si, t_tag_sr, t_tag_sI, x_r_si, x_i_sr, t_r_sI, x_ia_si, x_ia_sI, x_ia_sr, x_ra_si, x_ra_sI, x_ra_sr, lt, if_false, m30, az, hneg, if_true]
                  · have hb : ¬ a ≤ nI (sz s) - nI 3 := by
                      intro z
                      have e : ∀ n, n < 41 → (nI n - nI 3).toInt = (n : Int) - 3 := by decide +kernel
                      have e40 : (nI 40).toInt = 40 := rfl
                      have h40 : ¬ a ≤ nI 40 := fun y => ha ⟨Int32.not_lt.mp hneg, y⟩
                      rw [Int32.le_iff_toInt_le, e _ (by omega)] at z
                      rw [Int32.le_iff_toInt_le, e40] at h40
                      omega
                    have haa : ¬ a < a := fun z => Int32.lt_irrefl z
                    simp only [X229_64, X229_66, X229_68, X229_71, X229_72, X229_73, X229_75, X229_76, X229_77, X229_79, X229_80, X229_83, X229_85, X229_86, X229_89, X229_91, X229_92, X229_95, X229_96, X229_97, X229_98, X229_99, X229_102, X229_104, Nat.zero_le, and_true, true_and, x_nb0, x_nb1, x_nbp, x_isL_int, x_isL_ref, x_isL_junk, x_isR_ref, x_cat_nil, x_cat_int, x_cat_ref, x_cat_long, Option.toList_some, Option.toList_none, List.cons_append, List.nil_append, Nat.reduceAdd, Nat.reduceLeDiff, Nat.reduceLT, t_tag_si, t_tag_sr, t_tag_sI, x_r_si, x_i_sr, t_r_sI, x_ia_si, x_ia_sI, x_ia_sr, x_ra_si, x_ra_sI, x_ra_sr, lt, if_false, m30, az, hneg, haa, g_t41 hs, g_r41_20 hs, g_a53 hs, sx, sc', q4, hb]
          · refine CA_no (v := .int (-13)) hJ (fun Q => ?_) (fun Q => ?_)
            · simp only [X49_0, X49_1, X49_4, X49_7, X49_8, X49_9, X49_10, X49_13, X49_16, X49_18, X49_19, X49_21, X49_24, X49_30, X49_31, X49_34, X49_35, X49_36, X49_38, X49_40, X49_43, X49_44, X49_50, X49_52, X49_55, X49_56, X49_59, X49_61, Nat.zero_le, and_true, true_and, x_nb0, x_nb1, x_nbp, x_isL_int, x_isL_ref, x_isL_junk, x_isR_ref, x_cat_nil, x_cat_int, x_cat_ref, x_cat_long, Option.toList_some, Option.toList_none, List.cons_append, List.nil_append, Nat.reduceAdd, Nat.reduceLeDiff, Nat.reduceLT, t_tag_si, t_tag_sr, t_tag_sI, x_r_si, x_i_sr, t_r_sI, x_ia_si, x_ia_sI, x_ia_sr, x_ra_si, x_ra_sI, x_ra_sr, e37, e10, g10, n10, if_false, g_t0 hs, g_r0_6 hs, g_a6 hs, sx, sc', r1, r2, q1, eq_false h1, eq_false h2]
            · simp only [X229_0, X229_1, X229_2, X229_3, X229_6, X229_9, X229_10, X229_11, X229_12, X229_15, X229_18, X229_20, X229_21, X229_23, X229_26, X229_32, X229_33, X229_36, X229_37, X229_38, X229_39, X229_45, X229_46, X229_49, X229_50, X229_51, X229_52, X229_55, X229_57, Nat.zero_le, and_true, true_and, x_nb0, x_nb1, x_nbp, x_isL_int, x_isL_ref, x_isL_junk, x_isR_ref, x_cat_nil, x_cat_int, x_cat_ref, x_cat_long, Option.toList_some, Option.toList_none, List.cons_append, List.nil_append, Nat.reduceAdd, Nat.reduceLeDiff, Nat.reduceLT, t_tag_si, t_tag_sr, t_tag_sI, x_r_si, x_i_sr, t_r_sI, x_ia_si, x_ia_sI, x_ia_sr, x_ra_si, x_ra_sI, x_ra_sr, e138, f138', g138', n10, if_false, g_t41 hs, g_r41_19 hs, g_a52 hs, sx, sc', q3, eq_false h1, eq_false h2]
      · refine CA_no (v := .int (-2)) hJ (fun Q => ?_) (fun Q => ?_)
        · simp only [X49_0, X49_1, X49_4, X49_7, X49_8, X49_9, X49_10, X49_13, X49_16, X49_18, X49_19, X49_21, X49_24, X49_27, X49_29, Nat.zero_le, and_true, true_and, x_nb0, x_nb1, x_nbp, x_isL_int, x_isL_ref, x_isL_junk, x_isR_ref, x_cat_nil, x_cat_int, x_cat_ref, x_cat_long, Option.toList_some, Option.toList_none, List.cons_append, List.nil_append, Nat.reduceAdd, Nat.reduceLeDiff, Nat.reduceLT, t_tag_si, t_tag_sr, t_tag_sI, x_r_si, x_i_sr, t_r_sI, x_ia_si, x_ia_sI, x_ia_sr, x_ra_si, x_ra_sI, x_ra_sr, e37, e10, n10, if_false, f10 hn, if_true]
        · simp only [X229_0, X229_1, X229_2, X229_3, X229_6, X229_9, X229_10, X229_11, X229_12, X229_15, X229_18, X229_20, X229_21, X229_23, X229_26, X229_29, X229_31, Nat.zero_le, and_true, true_and, x_nb0, x_nb1, x_nbp, x_isL_int, x_isL_ref, x_isL_junk, x_isR_ref, x_cat_nil, x_cat_int, x_cat_ref, x_cat_long, Option.toList_some, Option.toList_none, List.cons_append, List.nil_append, Nat.reduceAdd, Nat.reduceLeDiff, Nat.reduceLT, t_tag_si, t_tag_sr, t_tag_sI, x_r_si, x_i_sr, t_r_sI, x_ia_si, x_ia_sI, x_ia_sr, x_ra_si, x_ra_sI, x_ra_sr, e138, f138', n10, if_false, f138 hn, if_true]
    · refine CA_no (v := .int (-2)) hJ (fun Q => ?_) (fun Q => ?_)
      · simp only [X49_0, X49_1, X49_4, X49_7, X49_8, X49_9, X49_10, X49_13, X49_27, X49_29, Nat.zero_le, and_true, true_and, x_nb0, x_nb1, x_nbp, x_isL_int, x_isL_ref, x_isL_junk, x_isR_ref, x_cat_nil, x_cat_int, x_cat_ref, x_cat_long, Option.toList_some, Option.toList_none, List.cons_append, List.nil_append, Nat.reduceAdd, Nat.reduceLeDiff, Nat.reduceLT, t_tag_si, t_tag_sr, t_tag_sI, x_r_si, x_i_sr, t_r_sI, x_ia_si, x_ia_sI, x_ia_sr, x_ra_si, x_ra_sI, x_ra_sr, e37, n10, if_false, f10 hv, if_true]
      · simp only [X229_0, X229_1, X229_2, X229_3, X229_6, X229_9, X229_10, X229_11, X229_12, X229_15, X229_29, X229_31, Nat.zero_le, and_true, true_and, x_nb0, x_nb1, x_nbp, x_isL_int, x_isL_ref, x_isL_junk, x_isR_ref, x_cat_nil, x_cat_int, x_cat_ref, x_cat_long, Option.toList_some, Option.toList_none, List.cons_append, List.nil_append, Nat.reduceAdd, Nat.reduceLeDiff, Nat.reduceLT, t_tag_si, t_tag_sr, t_tag_sI, x_r_si, x_i_sr, t_r_sI, x_ia_si, x_ia_sI, x_ia_sr, x_ra_si, x_ra_sI, x_ra_sr, e138, n10, if_false, f138 hv, if_true]
  · refine CA_no (v := .int (-2)) hJ (fun Q => ?_) (fun Q => ?_)
    · simp only [X49_0, X49_1, X49_4, X49_27, X49_29, Nat.zero_le, and_true, true_and, x_nb0, x_nb1, x_nbp, x_isL_int, x_isL_ref, x_isL_junk, x_isR_ref, x_cat_nil, x_cat_int, x_cat_ref, x_cat_long, Option.toList_some, Option.toList_none, List.cons_append, List.nil_append, Nat.reduceAdd, Nat.reduceLeDiff, Nat.reduceLT, t_tag_si, t_tag_sr, t_tag_sI, x_r_si, x_i_sr, t_r_sI, x_ia_si, x_ia_sI, x_ia_sr, x_ra_si, x_ra_sI, x_ra_sr, S37, bI_f hu, if_true]
    · simp only [X229_0, X229_1, X229_2, X229_3, X229_6, X229_29, X229_31, Nat.zero_le, and_true, true_and, x_nb0, x_nb1, x_nbp, x_isL_int, x_isL_ref, x_isL_junk, x_isR_ref, x_cat_nil, x_cat_int, x_cat_ref, x_cat_long, Option.toList_some, Option.toList_none, List.cons_append, List.nil_append, Nat.reduceAdd, Nat.reduceLeDiff, Nat.reduceLT, t_tag_si, t_tag_sr, t_tag_sI, x_r_si, x_i_sr, t_r_sI, x_ia_si, x_ia_sI, x_ia_sr, x_ra_si, x_ra_sI, x_ra_sr, f138 hu, if_true]
end S9984
