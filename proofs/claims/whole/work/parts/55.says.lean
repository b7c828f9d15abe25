/-! ===== a law says: the class ===== -/
def LawX (w : x_W) (a A E K n : Nat) : Prop := x_tag w a = some (0, 2) ∧ x_r w a 0 = .ref A ∧ x_r w a 1 = .ref E ∧ x_r w a 2 = .ref K ∧ x_tag w A = some (1, n) ∧ x_tag w E = some (1, 3) ∧ x_tag w K = some (1, n + 1) ∧ (A < 900 ∧ E < 900 ∧ K < 900 ∧ n ≤ 160) ∧ (A ≠ K ∧ E ≠ K ∧ 34 ≠ K)
theorem x_tn_sI (w : x_W) (a : Nat) (f : Nat → Int32) (b : Nat) : x_tn (x_sI w a f) b = x_tn w b := Eq.trans rfl rfl
theorem nI_nlt6 {t : Nat} (h : t < 2 ^ 31) : (nI t < (-6)) = False := by
  apply eq_false
  intro q
  rw [Int32.lt_iff_toInt_lt, nI_toInt h] at q
  have h1 : (-6 : Int32).toInt = -6 := by decide
  rw [h1] at q
  omega
theorem nI_nlt0 {t : Nat} (h : t < 2 ^ 31) : (nI t < nI 0) = False := by
  apply eq_false
  rw [nI_0]
  exact nI_pos h
theorem nI_ltF {a b : Nat} (h : b ≤ a) (ha : a < 2 ^ 31) : (nI a < nI b) = False := eq_false (nI_nlt h ha)
theorem nI_m1 (q : Nat) : nI (q + 1) + (-1) = nI q := by
  rw [← nI_add q 1, Int32.add_assoc, show nI 1 + (-1) = 0 by decide, Int32.add_zero]
theorem nI_s1 (q : Nat) : nI (q + 1) - nI 1 = nI q := by rw [nI_sub (Nat.le_add_left _ _), Nat.add_sub_cancel]
theorem nmF : ∀ k, k < 6 → (¬ ((-1) - nI k < (-6)) ∧ (-1) - nI k < nI 0 ∧ (-1) - ((-1) - nI k) = nI k) := by decide +kernel
theorem opF {c : Nat} (h : isop c ∨ c = 13 ∨ c = 19) : (-6) - nI (sgN c) < (-6) ∧ (-6) - ((-6) - nI (sgN c)) = nI (sgN c) := by
  rcases h with (rfl | rfl | rfl | rfl | rfl | rfl | rfl) | rfl | rfl <;> decide
theorem isop_n {c : Nat} (h : isop c) : ¬ (c = 13 ∨ c = 19) := by
  rcases h with rfl | rfl | rfl | rfl | rfl | rfl | rfl <;> decide
section S55
variable {L : Nat} {xs : Nat → Int32} {d : Nat} {w : x_W} {Q : Option Value → x_W → Prop}
theorem S81s {a A E K n p i h e t : Nat} {f : Nat → Int32} {v5 : Value} (hs : Sh w) (hl : LawX w a A E K n) (hp : p < 3) (hE : x_i w E p = nI e) (hen : e ≤ n) (hi : i < e) (ht : x_i w A i = sxT t) (hw : wfT t h) (hh : h < n + 1) (hv : x_isL v5 = false) :
    X_R L xs (d + 1) 81 27 [.ref a, .int (nI p), .ref 34, .int (nI h), .int (nI i), v5] [] (x_sI w K f) Q = X_R L xs (d + 1) 81 27 [.ref a, .int (nI p), .ref 34, .int (nI (top1 t h)), .int (nI (i + 1)), .int (sxT t)] [] (x_sI w K (stk1 (x_i w 34) t h f)) Q := by
  obtain ⟨lt, l0, l1, l2, tA, tE, tK, ⟨bA, bE, bK, bn⟩, ⟨nA, nE, n34⟩⟩ := hl
  have aA := x_ia_eq tA bA
  have aE := x_ia_eq tE bE
  have aK := x_ia_eq tK bK
  have a34 := g_a34 hs
  have nK : x_tn w K = n + 1 := by unfold x_tn; rw [tK]; rfl
  have eA : ∀ g, x_i (x_sI w K g) A = x_i w A := fun g => x_i_sIn _ _ _ nA
  have eE : ∀ g, x_i (x_sI w K g) E = x_i w E := fun g => x_i_sIn _ _ _ nE
  have e34 : ∀ g, x_i (x_sI w K g) 34 = x_i w 34 := fun g => x_i_sIn _ _ _ n34
  have ix0 := x_ix_nI (show p < 3 from hp) (show 3 < 2 ^ 31 by decide)
  have ic0 := nI_cl (show p < 2 ^ 31 by omega)
  have ix1 := x_ix_nI (show i < n by omega) (show n < 2 ^ 31 by omega)
  have ic1 := nI_cl (show i < 2 ^ 31 by omega)
  have ix2 := x_ix_nI hh (show n + 1 < 2 ^ 31 by omega)
  have ic2 := nI_cl (show h < 2 ^ 31 by omega)
  have le1 := nI_leF hi (show e < 2 ^ 31 by omega)
  rw [X81_27]
  by_cases c1 : t < 10000
  · have e1 : sxT t = nI t := if_pos c1
    have e2 : top1 t h = h + 1 := if_pos (by omega)
    have e3 : stk1 (x_i w 34) t h f = upd f h (nI t) := if_pos c1
    rw [e2, e3, e1]
    rw [e1] at ht
    simp only [X81_29, X81_30, X81_33, X81_34, X81_35, X81_38, X81_39, X81_42, X81_44, X81_45, X81_47, X81_49, X81_51, X81_54, X81_55, X81_56, X81_59, X81_60, X81_63, X81_64, X81_67, X81_68, X81_70, X81_73, X81_75, X81_84, X81_85, X81_88, X81_172, X81_175, Nat.zero_le, and_true, true_and, x_nb0, x_nb1, x_nbp, x_isL_int, x_isL_ref, x_isL_junk, x_isR_ref, x_cat_nil, x_cat_int, x_cat_ref, x_cat_long, Option.toList_some, Option.toList_none, List.cons_append, List.nil_append, Nat.reduceAdd, Nat.reduceLeDiff, Nat.reduceLT, t_tag_si, t_tag_sr, t_tag_sI, x_r_si, x_i_sr, t_r_sI, x_ia_si, x_ia_sI, x_ia_sr, x_ra_si, x_ra_sI, x_ra_sr, lt, l0, l1, l2, aA, aE, aK, eA, eE, x_i_sI, hE, ht, ix0, ic0, ix1, ic1, ix2, ic2, le1, if_false, nI_nlt6 (show t < 2 ^ 31 by omega), nI_nlt0 (show t < 2 ^ 31 by omega), x_tn_sI, nK, tK, bK, nI_leF hh (show n + 1 < 2 ^ 31 by omega), x_si_sI, nI_add]
  · by_cases c2 : t < 20000
    · obtain ⟨k, hk, rfl⟩ : ∃ k, k < 6 ∧ t = 10000 + k := by
        rcases hw.1 with q | q | q
        · omega
        · exact ⟨t - 10000, by omega, by omega⟩
        · omega
      have e1 : sxT (10000 + k) = (-1) - nI k := by unfold sxT; rw [if_neg c1, if_pos c2, Nat.add_sub_cancel_left]
      have e2 : top1 (10000 + k) h = h + 1 := if_pos c2
      have e3 : stk1 (x_i w 34) (10000 + k) h f = upd f h (x_i w 34 k) := by unfold stk1; rw [if_neg c1, if_pos c2, Nat.add_sub_cancel_left]
      rw [e2, e3, e1]
      rw [e1] at ht
      obtain ⟨f1, f2, f3⟩ := nmF k hk
      have ix3 := x_ix_nI hk (show 6 < 2 ^ 31 by decide)
      have ic3 := nI_cl (show k < 2 ^ 31 by omega)
      simp only [X81_29, X81_30, X81_33, X81_34, X81_35, X81_38, X81_39, X81_42, X81_44, X81_45, X81_47, X81_49, X81_51, X81_54, X81_55, X81_56, X81_59, X81_60, X81_63, X81_64, X81_67, X81_68, X81_70, X81_78, X81_79, X81_80, X81_82, X81_83, X81_84, X81_85, X81_88, X81_172, X81_175, Nat.zero_le, and_true, true_and, x_nb0, x_nb1, x_nbp, x_isL_int, x_isL_ref, x_isL_junk, x_isR_ref, x_cat_nil, x_cat_int, x_cat_ref, x_cat_long, Option.toList_some, Option.toList_none, List.cons_append, List.nil_append, Nat.reduceAdd, Nat.reduceLeDiff, Nat.reduceLT, t_tag_si, t_tag_sr, t_tag_sI, x_r_si, x_i_sr, t_r_sI, x_ia_si, x_ia_sI, x_ia_sr, x_ra_si, x_ra_sI, x_ra_sr, lt, l0, l1, l2, aA, aE, aK, a34, eA, eE, e34, x_i_sI, hE, ht, ix0, ic0, ix1, ic1, ix2, ic2, ix3, ic3, le1, if_false, if_true, f1, f2, f3, x_tn_sI, nK, tK, bK, nI_leF hh (show n + 1 < 2 ^ 31 by omega), x_si_sI, nI_add]
    · have hw2 := hw.2 (by omega)
      by_cases c3 : t = 20013
      · subst c3
        obtain ⟨q, rfl⟩ : ∃ q, h = q + 1 := ⟨h - 1, by omega⟩
        have e1 : sxT 20013 = (-6) - nI 267 := rfl
        have e2 : top1 20013 (q + 1) = q + 1 := rfl
        have e3 : stk1 (x_i w 34) 20013 (q + 1) f = upd f q (ngI (f q)) := rfl
        rw [e2, e3, e1]
        rw [e1] at ht
        obtain ⟨f1, f2⟩ := opF (c := 13) (Or.inr (Or.inl rfl))
        have f1' : (-6 : Int32) - nI 267 < (-6) := f1
        have f2' : (-6 : Int32) - ((-6) - nI 267) = nI 267 := f2
        have h82 : ∀ (W : x_W) (Q' : Option Value → x_W → Prop), X_R L xs d 82 0 [.int (nI 267)] [] W Q' = Q' (some (.int (nI 1))) W := fun W Q' => S82 (c := 13) (Or.inr (Or.inl rfl))
        have ix3 := x_ix_nI (show q < n + 1 by omega) (show n + 1 < 2 ^ 31 by omega)
        have ic3 := nI_cl (show q < 2 ^ 31 by omega)
        simp only [X81_29, X81_30, X81_33, X81_34, X81_35, X81_38, X81_39, X81_42, X81_44, X81_45, X81_47, X81_49, X81_51, X81_91, X81_93, X81_95, X81_96, X81_99, X81_102, X81_103, X81_104, X81_107, X81_108, X81_111, X81_112, X81_113, X81_114, X81_116, X81_118, X81_119, X81_120, X81_123, X81_124, X81_125, X81_126, X81_127, X81_130, X81_131, X81_172, X81_175, Nat.zero_le, and_true, true_and, x_nb0, x_nb1, x_nbp, x_isL_int, x_isL_ref, x_isL_junk, x_isR_ref, x_cat_nil, x_cat_int, x_cat_ref, x_cat_long, Option.toList_some, Option.toList_none, List.cons_append, List.nil_append, Nat.reduceAdd, Nat.reduceLeDiff, Nat.reduceLT, t_tag_si, t_tag_sr, t_tag_sI, x_r_si, x_i_sr, t_r_sI, x_ia_si, x_ia_sI, x_ia_sr, x_ra_si, x_ra_sI, x_ra_sr, lt, l0, l1, l2, aA, aE, aK, eA, eE, x_i_sI, hE, ht, ix0, ic0, ix1, ic1, ix3, ic3, le1, if_false, if_true, f1', f2', h82, n10, nI_ltF (show 1 ≤ q + 1 by omega) (show q + 1 < 2 ^ 31 by omega), nI_s1, S83n, x_si_sI, nI_add]
      · by_cases c4 : t = 20019
        · subst c4
          obtain ⟨q, rfl⟩ : ∃ q, h = q + 1 := ⟨h - 1, by omega⟩
          have e1 : sxT 20019 = (-6) - nI 303 := rfl
          have e2 : top1 20019 (q + 1) = q + 1 := rfl
          have e3 : stk1 (x_i w 34) 20019 (q + 1) f = upd f q (-(f q)) := rfl
          rw [e2, e3, e1]
          rw [e1] at ht
          obtain ⟨f1, f2⟩ := opF (c := 19) (Or.inr (Or.inr rfl))
          have f1' : (-6 : Int32) - nI 303 < (-6) := f1
          have f2' : (-6 : Int32) - ((-6) - nI 303) = nI 303 := f2
          have h82 : ∀ (W : x_W) (Q' : Option Value → x_W → Prop), X_R L xs d 82 0 [.int (nI 303)] [] W Q' = Q' (some (.int (nI 1))) W := fun W Q' => S82 (c := 19) (Or.inr (Or.inr rfl))
          have ix3 := x_ix_nI (show q < n + 1 by omega) (show n + 1 < 2 ^ 31 by omega)
          have ic3 := nI_cl (show q < 2 ^ 31 by omega)
          simp only [X81_29, X81_30, X81_33, X81_34, X81_35, X81_38, X81_39, X81_42, X81_44, X81_45, X81_47, X81_49, X81_51, X81_91, X81_93, X81_95, X81_96, X81_99, X81_102, X81_103, X81_104, X81_107, X81_108, X81_111, X81_112, X81_113, X81_114, X81_116, X81_118, X81_119, X81_120, X81_123, X81_124, X81_125, X81_126, X81_127, X81_130, X81_131, X81_172, X81_175, Nat.zero_le, and_true, true_and, x_nb0, x_nb1, x_nbp, x_isL_int, x_isL_ref, x_isL_junk, x_isR_ref, x_cat_nil, x_cat_int, x_cat_ref, x_cat_long, Option.toList_some, Option.toList_none, List.cons_append, List.nil_append, Nat.reduceAdd, Nat.reduceLeDiff, Nat.reduceLT, t_tag_si, t_tag_sr, t_tag_sI, x_r_si, x_i_sr, t_r_sI, x_ia_si, x_ia_sI, x_ia_sr, x_ra_si, x_ra_sI, x_ra_sr, lt, l0, l1, l2, aA, aE, aK, eA, eE, x_i_sI, hE, ht, ix0, ic0, ix1, ic1, ix3, ic3, le1, if_false, if_true, f1', f2', h82, n10, nI_ltF (show 1 ≤ q + 1 by omega) (show q + 1 < 2 ^ 31 by omega), nI_s1, S83m, x_si_sI, nI_add]
        · obtain ⟨c, hc, rfl⟩ : ∃ c, isop c ∧ t = 20000 + c := by
            rcases hw.1 with q | q | q
            · omega
            · omega
            · rcases q.2 with r | r
              · exact ⟨t - 20000, r, by omega⟩
              · exact absurd r (fun z => z.elim c3 c4)
          obtain ⟨q, rfl⟩ : ∃ q, h = q + 1 + 1 := ⟨h - 2, by have := hw2.2 c3 c4; omega⟩
          have e1 : sxT (20000 + c) = (-6) - nI (sgN c) := by unfold sxT; rw [if_neg c1, if_neg c2, Nat.add_sub_cancel_left]
          have e2 : top1 (20000 + c) (q + 1 + 1) = q + 1 := by unfold top1; rw [if_neg c2, if_neg (fun z => z.elim c3 c4)]; rfl
          have e3 : stk1 (x_i w 34) (20000 + c) (q + 1 + 1) f = upd f q (opI c (f q) (f (q + 1))) := by unfold stk1; rw [if_neg c1, if_neg c2, if_neg c3, if_neg c4, Nat.add_sub_cancel_left]; rfl
          rw [e2, e3, e1]
          rw [e1] at ht
          obtain ⟨f1, f2⟩ := opF (c := c) (Or.inl hc)
          have h82 : ∀ (W : x_W) (Q' : Option Value → x_W → Prop), X_R L xs d 82 0 [.int (nI (sgN c))] [] W Q' = Q' (some (.int (nI 0))) W := fun W Q' => by rw [S82 (Or.inl hc), bI_f (isop_n hc)]
          have ix3 := x_ix_nI (show q < n + 1 by omega) (show n + 1 < 2 ^ 31 by omega)
          have ic3 := nI_cl (show q < 2 ^ 31 by omega)
          have ix4 := x_ix_nI (show q + 1 < n + 1 by omega) (show n + 1 < 2 ^ 31 by omega)
          have ic4 := nI_cl (show q + 1 < 2 ^ 31 by omega)
          simp only [X81_29, X81_30, X81_33, X81_34, X81_35, X81_38, X81_39, X81_42, X81_44, X81_45, X81_47, X81_49, X81_51, X81_91, X81_93, X81_95, X81_96, X81_99, X81_134, X81_135, X81_136, X81_139, X81_142, X81_143, X81_146, X81_147, X81_148, X81_149, X81_151, X81_153, X81_154, X81_155, X81_158, X81_159, X81_160, X81_161, X81_162, X81_163, X81_166, X81_167, X81_168, X81_171, X81_172, X81_175, Nat.zero_le, and_true, true_and, x_nb0, x_nb1, x_nbp, x_isL_int, x_isL_ref, x_isL_junk, x_isR_ref, x_cat_nil, x_cat_int, x_cat_ref, x_cat_long, Option.toList_some, Option.toList_none, List.cons_append, List.nil_append, Nat.reduceAdd, Nat.reduceLeDiff, Nat.reduceLT, t_tag_si, t_tag_sr, t_tag_sI, x_r_si, x_i_sr, t_r_sI, x_ia_si, x_ia_sI, x_ia_sr, x_ra_si, x_ra_sI, x_ra_sr, lt, l0, l1, l2, aA, aE, aK, eA, eE, x_i_sI, hE, ht, ix0, ic0, ix1, ic1, ix3, ic3, ix4, ic4, le1, if_false, if_true, f1, f2, h82, nI_ltF (show 2 ≤ q + 1 + 1 by omega) (show q + 1 + 1 < 2 ^ 31 by omega), nI_m1, nI_s1, S84 hc, x_si_sI, nI_add]
def clX (B z : Int32) : Int32 := if nI 0 < (if z < B then z else B) then (if z < B then z else B) else nI 0
def bndI (p : Nat) : Int32 := if p = 2 then nI 999 else nI 99
/-- the class's law lies in part p from e0 to e as the signs st -/
def PartX (w : x_W) (A E n p e0 e : Nat) (st : Nat → Nat) : Prop := x_i w E p = nI e ∧ (if p = 0 then e0 = 0 else x_i w E (p - 1) = nI e0) ∧ e0 ≤ e ∧ e ≤ n ∧ ∀ m, m < e - e0 → x_i w A (e0 + m) = sxT (st m) ∧ wfT (st m) (topN st m)
theorem S81 {a A E K n p e0 e : Nat} {st : Nat → Nat} (hs : Sh w) (hl : LawX w a A E K n) (hp : p < 3) (hP : PartX w A E n p e0 e st) :
    X_R L xs (d + 1) 81 0 [.ref a, .int (nI p), .ref 34, x_junk, x_junk, x_junk] [] w Q = Q (some (.int (clX (bndI p) (stkN (x_i w 34) st (upd (x_i w K) 0 (nI 0)) (e - e0) 0)))) (x_sI w K (stkN (x_i w 34) st (upd (x_i w K) 0 (nI 0)) (e - e0))) := by
  obtain ⟨hE, hE0, he0, hen, hst⟩ := hP
  have hl' := hl
  obtain ⟨lt, l0, l1, l2, tA, tE, tK, ⟨bA, bE, bK, bn⟩, ⟨nA, nE, n34⟩⟩ := hl
  have aE := x_ia_eq tE bE
  have aK := x_ia_eq tK bK
  have eE : ∀ g, x_i (x_sI w K g) E = x_i w E := fun g => x_i_sIn _ _ _ nE
  have ixp := x_ix_nI (show p < 3 from hp) (show 3 < 2 ^ 31 by decide)
  have icp := nI_cl (show p < 2 ^ 31 by omega)
  have ix0 := x_ix_nI (show 0 < n + 1 by omega) (show n + 1 < 2 ^ 31 by omega)
  have ic0 := nI_cl (show 0 < 2 ^ 31 by decide)
  generalize hf : upd (x_i w K) 0 (nI 0) = f0
  have loop : ∀ k m, m + k = e - e0 → ∀ v5 : Value, x_isL v5 = false → X_R L xs (d + 1) 81 27 [.ref a, .int (nI p), .ref 34, .int (nI (topN st m)), .int (nI (e0 + m)), v5] [] (x_sI w K (stkN (x_i w 34) st f0 m)) Q = Q (some (.int (clX (bndI p) (stkN (x_i w 34) st f0 (e - e0) 0)))) (x_sI w K (stkN (x_i w 34) st f0 (e - e0))) := by
    intro k
    induction k with
    | zero =>
      intro m hm v5 hv
      obtain rfl : m = e - e0 := by omega
      rw [show e0 + (e - e0) = e by omega, X81_27]
      by_cases h2 : p = 2
      · have eb : bndI p = nI 999 := if_pos h2
        rw [eb]
        subst h2
        simp only [X81_29, X81_30, X81_33, X81_34, X81_35, X81_178, X81_179, X81_180, X81_181, X81_184, X81_187, X81_192, X81_193, X81_196, X81_197, X81_198, X81_201, X81_204, Nat.zero_le, and_true, true_and, x_nb0, x_nb1, x_nbp, x_isL_int, x_isL_ref, x_isL_junk, x_isR_ref, x_cat_nil, x_cat_int, x_cat_ref, x_cat_long, Option.toList_some, Option.toList_none, List.cons_append, List.nil_append, Nat.reduceAdd, Nat.reduceLeDiff, Nat.reduceLT, t_tag_si, t_tag_sr, t_tag_sI, x_r_si, x_i_sr, t_r_sI, x_ia_si, x_ia_sI, x_ia_sr, x_ra_si, x_ra_sI, x_ra_sr, lt, l0, l1, l2, aE, aK, eE, x_i_sI, hE, ixp, icp, ix0, ic0, nI_leT (Nat.le_refl e) (show e < 2 ^ 31 by omega), if_true]
        rfl
      · have eb : bndI p = nI 99 := if_neg h2
        rw [eb]
        have hp2 : ¬ nI p = nI 2 := fun q => h2 ((nI_eq (show p < 2 ^ 31 by omega) (by decide)).mp q)
        simp only [X81_29, X81_30, X81_33, X81_34, X81_35, X81_178, X81_179, X81_180, X81_181, X81_190, X81_192, X81_193, X81_196, X81_197, X81_198, X81_201, X81_204, Nat.zero_le, and_true, true_and, x_nb0, x_nb1, x_nbp, x_isL_int, x_isL_ref, x_isL_junk, x_isR_ref, x_cat_nil, x_cat_int, x_cat_ref, x_cat_long, Option.toList_some, Option.toList_none, List.cons_append, List.nil_append, Nat.reduceAdd, Nat.reduceLeDiff, Nat.reduceLT, t_tag_si, t_tag_sr, t_tag_sI, x_r_si, x_i_sr, t_r_sI, x_ia_si, x_ia_sI, x_ia_sr, x_ra_si, x_ra_sI, x_ra_sr, lt, l0, l1, l2, aE, aK, eE, x_i_sI, hE, ixp, icp, ix0, ic0, nI_leT (Nat.le_refl e) (show e < 2 ^ 31 by omega), if_true, hp2, if_false]
        rfl
    | succ k ih =>
      intro m hm v5 hv
      have h1 := hst m (by omega)
      have ht := topN_le st m
      rw [S81s hs hl' hp hE hen (show e0 + m < e by omega) h1.1 h1.2 (show topN st m < n + 1 by omega) hv]
      exact ih (m + 1) (by omega) _ rfl
  have e := loop (e - e0) 0 (Nat.zero_add _) x_junk rfl
  have e1 : x_si w K 0 (nI 0) = x_sI w K f0 := by rw [← hf]; rfl
  have e2 : stkN (x_i w 34) st f0 0 = f0 := rfl
  have e3 : topN st 0 = 0 := rfl
  rw [e2, e3, Nat.add_zero] at e
  rw [← e]
  by_cases h0 : p = 0
  · rw [if_pos h0] at hE0
    subst h0 hE0
    simp only [X81_0, X81_1, X81_2, X81_3, X81_6, X81_7, X81_8, X81_9, X81_10, X81_13, X81_14, X81_25, Nat.zero_le, and_true, true_and, x_nb0, x_nb1, x_nbp, x_isL_int, x_isL_ref, x_isL_junk, x_isR_ref, x_cat_nil, x_cat_int, x_cat_ref, x_cat_long, Option.toList_some, Option.toList_none, List.cons_append, List.nil_append, Nat.reduceAdd, Nat.reduceLeDiff, Nat.reduceLT, t_tag_si, t_tag_sr, t_tag_sI, x_r_si, x_i_sr, t_r_sI, x_ia_si, x_ia_sI, x_ia_sr, x_ra_si, x_ra_sI, x_ra_sr, lt, l0, l1, l2, aE, aK, ix0, ic0, e1, if_true]
  · rw [if_neg h0] at hE0
    have hp0 : ¬ nI p = nI 0 := fun q => h0 ((nI_eq (show p < 2 ^ 31 by omega) (by decide)).mp q)
    have ixq := x_ix_nI (show p - 1 < 3 by omega) (show 3 < 2 ^ 31 by decide)
    have icq := nI_cl (show p - 1 < 2 ^ 31 by omega)
    simp only [X81_0, X81_1, X81_2, X81_3, X81_6, X81_7, X81_8, X81_9, X81_10, X81_17, X81_18, X81_21, X81_22, X81_23, X81_24, X81_25, Nat.zero_le, and_true, true_and, x_nb0, x_nb1, x_nbp, x_isL_int, x_isL_ref, x_isL_junk, x_isR_ref, x_cat_nil, x_cat_int, x_cat_ref, x_cat_long, Option.toList_some, Option.toList_none, List.cons_append, List.nil_append, Nat.reduceAdd, Nat.reduceLeDiff, Nat.reduceLT, t_tag_si, t_tag_sr, t_tag_sI, x_r_si, x_i_sr, t_r_sI, x_ia_si, x_ia_sI, x_ia_sr, x_ra_si, x_ra_sI, x_ra_sr, lt, l0, l1, l2, aE, aK, ix0, ic0, e1, hp0, if_false, eE, nI_sub (show 1 ≤ p by omega), ixq, icq, hE0, Nat.add_zero]
end S55
