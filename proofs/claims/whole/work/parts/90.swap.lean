/-! ===== who should change places: swap ===== -/
def swN (f : Nat → Nat) (a b : Nat) : Nat → Nat := updN (updN f a (f b)) b (f a)
def swI (f : Nat → Int32) (a b : Nat) : Nat → Int32 := upd (upd f a (f b)) b (f a)
theorem swI_2 {f : Nat → Int32} {a b : Nat} (h : a ≠ b) : swI (swI f a b) a b = f := by
  funext q
  unfold swI upd
  by_cases h1 : q = b
  · subst h1
    simp [h, Ne.symm h]
  · by_cases h2 : q = a
    · subst h2; simp [h]
    · simp [h1, h2]
theorem swN_lt {f : Nat → Nat} {a b : Nat} (ha : a < 6) (hb : b < 6) (h : ∀ q, q < 6 → f q < 20) : ∀ q, q < 6 → swN f a b q < 20 := by
  intro q hq
  unfold swN updN
  split
  · exact h a ha
  · split
    · exact h b hb
    · exact h q hq
theorem swI_nI {f : Nat → Int32} {g : Nat → Nat} {a b : Nat} (ha : a < 6) (hb : b < 6) (h : ∀ q, q < 6 → f q = nI (g q)) : ∀ q, q < 6 → swI f a b q = nI (swN g a b q) := by
  intro q hq
  unfold swI swN upd updN
  split
  · exact h a ha
  · split
    · exact h b hb
    · exact h q hq
/-- the inner loop: n of the others, from a + 1 on -/
def swB (f : Nat → Nat) (a : Nat) (p : Int32 × Nat) : Nat → Int32 × Nat
  | 0 => p
  | n + 1 => if f (a + 1 + n) < (swB f a p n).2 then (nI (10 * a + (a + 1 + n)), f (a + 1 + n)) else swB f a p n
theorem swB_t {f : Nat → Nat} {a n : Nat} {p : Int32 × Nat} (h : f (a + 1 + n) < (swB f a p n).2) : swB f a p (n + 1) = (nI (10 * a + (a + 1 + n)), f (a + 1 + n)) := if_pos h
theorem swB_f {f : Nat → Nat} {a n : Nat} {p : Int32 × Nat} (h : ¬ f (a + 1 + n) < (swB f a p n).2) : swB f a p (n + 1) = swB f a p n := if_neg h
def swA (f : Nat → Nat → Nat) (S : Nat) (p : Int32 × Nat) : Nat → Int32 × Nat
  | 0 => p
  | a + 1 => swB (f a) a (swA f S p a) (S - (a + 1))
theorem swB_cg {f g : Nat → Nat} {a : Nat} {p : Int32 × Nat} (n : Nat) (h : ∀ k, k < n → f (a + 1 + k) = g (a + 1 + k)) : swB f a p n = swB g a p n := by
  induction n with
  | zero => rfl
  | succ n ih =>
    unfold swB
    rw [ih (fun k hk => h k (by omega)), h n (Nat.lt_succ_self _)]
theorem swA_cg {f g : Nat → Nat → Nat} {S : Nat} {p : Int32 × Nat} (n : Nat) (h : ∀ a b, a < n → a < b → b < S → f a b = g a b) : swA f S p n = swA g S p n := by
  induction n with
  | zero => rfl
  | succ n ih =>
    unfold swA
    rw [ih (fun a b ha => h a b (by omega)), swB_cg (S - (n + 1)) (fun k hk => h n (n + 1 + k) (Nat.lt_succ_self _) (by omega) (by omega))]
theorem swB_le {f : Nat → Nat} {a M : Nat} {p : Int32 × Nat} (hp : p.2 ≤ M) (h : ∀ k, f k ≤ M) (n : Nat) : (swB f a p n).2 ≤ M := by
  induction n with
  | zero => exact hp
  | succ n ih => unfold swB; split; exact h _; exact ih
theorem swA_le {f : Nat → Nat → Nat} {S M : Nat} {p : Int32 × Nat} (hp : p.2 ≤ M) (h : ∀ a b, f a b ≤ M) (n : Nat) : (swA f S p n).2 ≤ M := by
  induction n with
  | zero => exact hp
  | succ n ih => unfold swA; exact swB_le ih (h n) _
section S90
variable {L : Nat} {xs : Nat → Int32} {d : Nat} {w w' : x_W} {S : Nat} {kd td mo kt tl : Nat → Nat} {tk : Nat → Nat → Nat}
theorem S71 {Q : Option Value → x_W → Prop} (hs : Sh w) {a b : Nat} (ha : a < 6) (hb : b < 6) : X_R L xs d 71 0 [.ref 22, .int (nI a), .int (nI b), x_junk] [] w Q = Q none (x_sI w 30 (swI (x_i w 30) a b)) := by
  have ax := x_ix_nI ha (show 6 < 2 ^ 31 by decide)
  have ac := nI_cl (show a < 2 ^ 31 by omega)
  have bx := x_ix_nI hb (show 6 < 2 ^ 31 by decide)
  have bc := nI_cl (show b < 2 ^ 31 by omega)
  have e : x_si w 30 a (x_i w 30 b) = x_sI w 30 (upd (x_i w 30) a (x_i w 30 b)) := rfl
  have es : ∀ f, Sh (x_sI w 30 f) := fun f => hs
  simp only [X71_0, X71_1, X71_4, X71_5, X71_6, X71_7, X71_8, X71_11, X71_12, X71_13, X71_16, X71_17, X71_18, X71_19, X71_20, X71_23, X71_24, X71_25, X71_26, Nat.zero_le, and_true, true_and, x_nb0, x_nb1, x_nbp, x_isL_int, x_isL_ref, x_isL_junk, x_isR_ref, x_cat_nil, x_cat_int, x_cat_ref, x_cat_long, Option.toList_some, Option.toList_none, List.cons_append, List.nil_append, Nat.reduceAdd, Nat.reduceLeDiff, Nat.reduceLT, t_tag_si, t_tag_sr, t_tag_sI, x_r_si, x_i_sr, t_r_sI, x_ia_si, x_ia_sI, x_ia_sr, x_ra_si, x_ra_sI, x_ra_sr, g_t22 hs, g_r22_3 hs, g_a30 hs, ax, ac, bx, bc, e, x_si_sI]
  rfl
theorem S204 {Q : Option Value → x_W → Prop} (hs : Sh w) {a b : Nat} (ha : a < 6) (hb : b < 6) : X_R L xs d 204 0 [.ref 41, .int (nI a), .int (nI b), x_junk] [] w Q = Q none (x_sI w 46 (swI (x_i w 46) a b)) := by
  have ax := x_ix_nI ha (show 6 < 2 ^ 31 by decide)
  have ac := nI_cl (show a < 2 ^ 31 by omega)
  have bx := x_ix_nI hb (show 6 < 2 ^ 31 by decide)
  have bc := nI_cl (show b < 2 ^ 31 by omega)
  have e : x_si w 46 a (x_i w 46 b) = x_sI w 46 (upd (x_i w 46) a (x_i w 46 b)) := rfl
  simp only [X204_0, X204_1, X204_4, X204_5, X204_6, X204_7, X204_8, X204_11, X204_12, X204_13, X204_16, X204_17, X204_18, X204_19, X204_20, X204_23, X204_24, X204_25, X204_26, Nat.zero_le, and_true, true_and, x_nb0, x_nb1, x_nbp, x_isL_int, x_isL_ref, x_isL_junk, x_isR_ref, x_cat_nil, x_cat_int, x_cat_ref, x_cat_long, Option.toList_some, Option.toList_none, List.cons_append, List.nil_append, Nat.reduceAdd, Nat.reduceLeDiff, Nat.reduceLT, t_tag_si, t_tag_sr, t_tag_sI, x_r_si, x_i_sr, t_r_sI, x_ia_si, x_ia_sI, x_ia_sr, x_ra_si, x_ra_sI, x_ra_sr, g_t41 hs, g_r41_6 hs, g_a46 hs, ax, ac, bx, bc, e, x_si_sI]
  rfl
/-- a and b change places, all is felt, they change back -/
theorem swX (h : EX w S kd td mo kt tl tk) {a b : Nat} (ha : a < 6) (hb : b < 6) (hab : a ≠ b) : ∃ w3, Ch (sc [28, 34]) w (x_sI w3 30 (swI (x_i w3 30) a b)) ∧ FarOk (x_sI w3 30 (swI (x_i w3 30) a b)) ∧ Sh w3 ∧ ∀ Q, X_R L xs (d + 11) 69 0 [.ref 22, x_junk, x_junk] [] (x_sI w 30 (swI (x_i w 30) a b)) Q = Q (some (.int (nI (nuX w S kd td mo tl tk (swN kt a b))))) w3 := by
  have hX2 : EX (x_sI w 30 (swI (x_i w 30) a b)) S kd td mo (swN kt a b) tl tk := by
    refine h.lies Ch_orcI (h.2.2.of (by rw [x_i_sIn _ _ _ (by decide)]) (by rw [x_i_sIn _ _ _ (by decide)]) (by rw [x_i_sIn _ _ _ (by decide)])) (fun q hq => ?_)
    rw [x_i_sI]
    exact ⟨swI_nI ha hb (fun q hq => (h.1.X.1 q hq).2.2.2) q hq, swN_lt ha hb (fun q hq => (h.1.bd q hq).2.2.2) q hq⟩
  obtain ⟨w3, c3, hF3, e69⟩ := S69 (L := L) (xs := xs) (d := d + 5) hX2
  have e30 : x_i w3 30 = swI (x_i w 30) a b := by rw [c3.i (fun _ => rfl : ∀ k, sc [28, 34] 30 k = false), x_i_sI]
  have eC : farX (x_sI w 30 (swI (x_i w 30) a b)) (swN kt a b) = farX w (swN kt a b) := by
    funext p q
    unfold farX
    rw [x_i_sIn _ _ _ (by decide)]
  rw [eC] at e69
  refine ⟨w3, ((Ch_orcI (P := sc [28, 34])).trans (c3.orc.trans Ch_orcI)).cell ?_, hF3.of (by rw [x_i_sIn _ _ _ (by decide)]) (by rw [x_i_sIn _ _ _ (by decide)]) (by rw [x_i_sIn _ _ _ (by decide)]), c3.sh hX2.sh, e69⟩
  rw [x_i_sI, e30, swI_2 hab]
theorem swM (h : EM w S kd td mo kt tl tk) {a b : Nat} (ha : a < 6) (hb : b < 6) (hab : a ≠ b) : ∃ w3, Ch (sm [58, 59]) w (x_sI w3 46 (swI (x_i w3 46) a b)) ∧ Sh w3 ∧ ∀ Q, X_R L xs (d + 11) 199 0 [.ref 41, x_junk, x_junk] [] (x_sI w 46 (swI (x_i w 46) a b)) Q = Q (some (.int (nI (nuM w S kd td mo tl tk (swN kt a b))))) w3 := by
  have hX2 : EM (x_sI w 46 (swI (x_i w 46) a b)) S kd td mo (swN kt a b) tl tk := by
    refine h.lies Ch_orcI (fun q hq => ?_)
    rw [x_i_sI]
    exact ⟨swI_nI ha hb (fun q hq => (h.1.M q hq).2.2.2.1) q hq, swN_lt ha hb (fun q hq => (h.1.M q hq).2.2.2.2) q hq⟩
  obtain ⟨w3, c3, e69⟩ := S199 (L := L) (xs := xs) (d := d + 5) hX2
  have e30 : x_i w3 46 = swI (x_i w 46) a b := by rw [c3.i (fun _ => rfl : ∀ k, sm [58, 59] 46 k = false), x_i_sI]
  have eC : farM (x_sI w 46 (swI (x_i w 46) a b)) (swN kt a b) = farM w (swN kt a b) := by
    funext p q
    unfold farM
    rw [x_i_sIn _ _ _ (by decide)]
  rw [eC] at e69
  refine ⟨w3, ((Ch_orcI (P := sm [58, 59])).trans (c3.orc.trans Ch_orcI)).cell ?_, c3.sh hX2.sh, e69⟩
  rw [x_i_sI, e30, swI_2 hab]
theorem nuX_ch {w' : x_W} (hc : ChA w w') (kt' : Nat → Nat) : nuX w' S kd td mo tl tk kt' = nuX w S kd td mo tl tk kt' := by
  unfold nuX
  rw [farX_ch hc]
theorem nuM_ch {w' : x_W} (hc : ChA w w') (kt' : Nat → Nat) : nuM w' S kd td mo tl tk kt' = nuM w S kd td mo tl tk kt' := by
  unfold nuM
  rw [farM_ch hc]
theorem S28i (h : EX w S kd td mo kt tl tk) (v : Int32) {a : Nat} (ha : a < S) {f : Nat → Nat} (hf : ∀ b, a < b → b < S → f b = nuX w S kd td mo tl tk (swN kt a b)) (p : Int32 × Nat) (hp : p.2 ≤ 36) : ∀ n j, j + n = S - (a + 1) → ∀ w1, Ch (sc [28, 34]) w w1 → FarOk w1 → ∀ u6 : Value, x_isL u6 = false → ∃ w2 u, x_isL u = false ∧ Ch (sc [28, 34]) w w2 ∧ FarOk w2 ∧ ∀ Q, X_R L xs (d + 12) 28 41 [.ref 0, .int v, .int (swB f a p j).1, .int (nI (swB f a p j).2), .int (nI a), .int (nI (a + 1 + j)), u6] [] w1 Q = X_R L xs (d + 12) 28 108 [.ref 0, .int v, .int (swB f a p (S - (a + 1))).1, .int (nI (swB f a p (S - (a + 1))).2), .int (nI a), .int (nI (a + 1 + (S - (a + 1)))), u] [] w2 Q := by
  have h6 := h.1.S6
  intro n
  induction n with
  | zero =>
    intro j hj w1 c1 hF1 u6 h7
    obtain rfl : j = S - (a + 1) := by omega
    have hX1 := h.ch (c1.a rfl) hF1
    refine ⟨w1, u6, h7, c1, hF1, fun Q => ?_⟩
    rw [X28_41]
    simp only [X28_43, X28_44, X28_47, X28_50, Nat.zero_le, and_true, true_and, x_nb0, x_nb1, x_nbp, x_isL_int, x_isL_ref, x_isL_junk, x_isR_ref, x_cat_nil, x_cat_int, x_cat_ref, x_cat_long, Option.toList_some, Option.toList_none, List.cons_append, List.nil_append, Nat.reduceAdd, Nat.reduceLeDiff, Nat.reduceLT, t_tag_si, t_tag_sr, t_tag_sI, x_r_si, x_i_sr, t_r_sI, x_ia_si, x_ia_sI, x_ia_sr, x_ra_si, x_ra_sI, x_ra_sr, g_t0 hX1.sh, g_r0_4 hX1.sh, g_t22 hX1.sh, hX1.1.hS, nI_leT (show S ≤ a + 1 + (S - (a + 1)) by omega) (show a + 1 + (S - (a + 1)) < 2 ^ 31 by omega), if_true]
  | succ n ih =>
    intro j hj w1 c1 hF1 u6 h7
    have hX1 := h.ch (c1.a rfl) hF1
    have hs1 := hX1.sh
    obtain ⟨w3, c3, hF3, hs3, e3⟩ := swX (L := L) (xs := xs) (d := d) hX1 (show a < 6 by omega) (show a + 1 + j < 6 by omega) (by omega)
    rw [nuX_ch (c1.a rfl), ← hf (a + 1 + j) (by omega) (by omega)] at e3
    have e71 := fun (Q' : Option Value → x_W → Prop) => S71 (L := L) (xs := xs) (d := d + 11) (Q := Q') hs1 (show a < 6 by omega) (show a + 1 + j < 6 by omega)
    have e71' := fun (Q' : Option Value → x_W → Prop) => S71 (L := L) (xs := xs) (d := d + 11) (Q := Q') hs3 (show a < 6 by omega) (show a + 1 + j < 6 by omega)
    generalize hw4 : x_sI w3 30 (swI (x_i w3 30) a (a + 1 + j)) = w4 at c3 hF3 e71'
    obtain ⟨w5, u5, h5, c5, hF5, e5⟩ := ih (j + 1) (by omega) w4 (c1.trans c3) hF3 (.int (nI (f (a + 1 + j)))) rfl
    have hsI : Sh (x_sI w1 30 (swI (x_i w1 30) a (a + 1 + j))) := hs1
    refine ⟨w5, u5, h5, c5, hF5, fun Q => ?_⟩
    have hfl : f (a + 1 + j) ≤ 36 := by rw [hf (a + 1 + j) (by omega) (by omega)]; exact nuX_le h6 w _
    by_cases hl : f (a + 1 + j) < (swB f a p j).2
    · have hb2 : (swB f a p j).2 < 2 ^ 31 := by
        have key : ∀ n, n ≤ j → (swB f a p n).2 ≤ 36 := by
          intro n
          induction n with
          | zero => intro _; exact hp
          | succ n ihn =>
            intro hn
            unfold swB
            split
            · rw [hf (a + 1 + n) (by omega) (by omega)]; exact nuX_le h6 w _
            · exact ihn (by omega)
        exact Nat.lt_of_le_of_lt (key j (Nat.le_refl j)) (by decide)
      rw [← e5 Q, X28_41, swB_t hl]
      simp only [X28_0, X28_1, X28_4, X28_7, X28_9, X28_10, X28_11, X28_12, X28_13, X28_16, X28_19, X28_20, X28_21, X28_23, X28_25, X28_26, X28_29, X28_32, X28_35, X28_37, X28_38, X28_39, X28_43, X28_44, X28_47, X28_50, X28_53, X28_54, X28_57, X28_59, X28_61, X28_64, X28_65, X28_68, X28_71, X28_73, X28_74, X28_77, X28_79, X28_81, X28_84, X28_86, X28_87, X28_90, X28_92, X28_93, X28_95, X28_97, X28_98, X28_100, X28_101, X28_102, X28_105, X28_108, X28_111, X28_114, X28_115, X28_118, X28_119, X28_122, X28_123, Nat.zero_le, and_true, true_and, x_nb0, x_nb1, x_nbp, x_isL_int, x_isL_ref, x_isL_junk, x_isR_ref, x_cat_nil, x_cat_int, x_cat_ref, x_cat_long, Option.toList_some, Option.toList_none, List.cons_append, List.nil_append, Nat.reduceAdd, Nat.reduceLeDiff, Nat.reduceLT, t_tag_si, t_tag_sr, t_tag_sI, x_r_si, x_i_sr, t_r_sI, x_ia_si, x_ia_sI, x_ia_sr, x_ra_si, x_ra_sI, x_ra_sr, h7, g_t0 hs1, g_r0_4 hs1, g_t22 hs1, hX1.1.hS, nI_leF (show a + 1 + j < S by omega) (show S < 2 ^ 31 by omega), if_false, e71, g_t0 hsI, g_r0_4 hsI, g_t22 hsI, e3, g_t0 hs3, g_r0_4 hs3, g_t22 hs3, e71', nI_leF hl hb2, nI_mul, nI_add]
      rfl
    · rw [← e5 Q, X28_41, swB_f hl]
      simp only [X28_0, X28_1, X28_4, X28_7, X28_9, X28_10, X28_11, X28_12, X28_13, X28_16, X28_19, X28_20, X28_21, X28_23, X28_25, X28_26, X28_29, X28_32, X28_35, X28_37, X28_38, X28_39, X28_43, X28_44, X28_47, X28_50, X28_53, X28_54, X28_57, X28_59, X28_61, X28_64, X28_65, X28_68, X28_71, X28_73, X28_74, X28_77, X28_79, X28_81, X28_84, X28_86, X28_87, X28_90, X28_92, X28_93, X28_95, X28_97, X28_98, X28_100, X28_101, X28_102, X28_105, X28_108, X28_111, X28_114, X28_115, X28_118, X28_119, X28_122, X28_123, Nat.zero_le, and_true, true_and, x_nb0, x_nb1, x_nbp, x_isL_int, x_isL_ref, x_isL_junk, x_isR_ref, x_cat_nil, x_cat_int, x_cat_ref, x_cat_long, Option.toList_some, Option.toList_none, List.cons_append, List.nil_append, Nat.reduceAdd, Nat.reduceLeDiff, Nat.reduceLT, t_tag_si, t_tag_sr, t_tag_sI, x_r_si, x_i_sr, t_r_sI, x_ia_si, x_ia_sI, x_ia_sr, x_ra_si, x_ra_sI, x_ra_sr, h7, g_t0 hs1, g_r0_4 hs1, g_t22 hs1, hX1.1.hS, nI_leF (show a + 1 + j < S by omega) (show S < 2 ^ 31 by omega), if_false, e71, g_t0 hsI, g_r0_4 hsI, g_t22 hsI, e3, g_t0 hs3, g_r0_4 hs3, g_t22 hs3, e71', nI_leT (Nat.not_lt.mp hl) (show f (a + 1 + j) < 2 ^ 31 by omega), if_true, nI_add]
      rfl
theorem S28o (h : EX w S kd td mo kt tl tk) (v : Int32) (p : Int32 × Nat) (hp : p.2 ≤ 36) : ∀ n j, j + n = S → ∀ w1, Ch (sc [28, 34]) w w1 → FarOk w1 → ∀ u5 u6 : Value, x_isL u5 = false → x_isL u6 = false → ∃ w2 u u', Ch (sc [28, 34]) w w2 ∧ FarOk w2 ∧ ∀ Q, X_R L xs (d + 12) 28 23 [.ref 0, .int v, .int (swA (fun a b => nuX w S kd td mo tl tk (swN kt a b)) S p j).1, .int (nI (swA (fun a b => nuX w S kd td mo tl tk (swN kt a b)) S p j).2), .int (nI j), u5, u6] [] w1 Q = X_R L xs (d + 12) 28 114 [.ref 0, .int v, .int (swA (fun a b => nuX w S kd td mo tl tk (swN kt a b)) S p S).1, .int (nI (swA (fun a b => nuX w S kd td mo tl tk (swN kt a b)) S p S).2), .int (nI S), u, u'] [] w2 Q := by
  have h6 := h.1.S6
  intro n
  induction n with
  | zero =>
    intro j hj w1 c1 hF1 u5 u6 h5 h7
    obtain rfl : j = S := by omega
    have hX1 := h.ch (c1.a rfl) hF1
    refine ⟨w1, u5, u6, c1, hF1, fun Q => ?_⟩
    rw [X28_23]
    simp only [X28_25, X28_26, X28_29, X28_32, Nat.zero_le, and_true, true_and, x_nb0, x_nb1, x_nbp, x_isL_int, x_isL_ref, x_isL_junk, x_isR_ref, x_cat_nil, x_cat_int, x_cat_ref, x_cat_long, Option.toList_some, Option.toList_none, List.cons_append, List.nil_append, Nat.reduceAdd, Nat.reduceLeDiff, Nat.reduceLT, t_tag_si, t_tag_sr, t_tag_sI, x_r_si, x_i_sr, t_r_sI, x_ia_si, x_ia_sI, x_ia_sr, x_ra_si, x_ra_sI, x_ra_sr, g_t0 hX1.sh, g_r0_4 hX1.sh, g_t22 hX1.sh, hX1.1.hS, nI_leT (Nat.le_refl j) (show j < 2 ^ 31 by omega), if_true]
  | succ n ih =>
    intro j hj w1 c1 hF1 u5 u6 h5 h7
    have hX1 := h.ch (c1.a rfl) hF1
    obtain ⟨w2, u, hu, c2, hF2, e2⟩ := S28i (L := L) (xs := xs) (d := d) h v (show j < S by omega) (f := fun b => nuX w S kd td mo tl tk (swN kt j b)) (fun b _ _ => rfl) (swA (fun a b => nuX w S kd td mo tl tk (swN kt a b)) S p j) (swA_le hp (fun a b => nuX_le h6 w _) j) (S - (j + 1)) 0 (by omega) w1 c1 hF1 u6 h7
    obtain ⟨w3, u3, u3', c3, hF3, e3⟩ := ih (j + 1) (by omega) w2 c2 hF2 (.int (nI (j + 1 + (S - (j + 1))))) u rfl hu
    refine ⟨w3, u3, u3', c3, hF3, fun Q => ?_⟩
    rw [← e3 Q, X28_23]
    simp only [X28_25, X28_26, X28_29, X28_32, X28_35, X28_37, X28_38, X28_39, Nat.zero_le, and_true, true_and, x_nb0, x_nb1, x_nbp, x_isL_int, x_isL_ref, x_isL_junk, x_isR_ref, x_cat_nil, x_cat_int, x_cat_ref, x_cat_long, Option.toList_some, Option.toList_none, List.cons_append, List.nil_append, Nat.reduceAdd, Nat.reduceLeDiff, Nat.reduceLT, t_tag_si, t_tag_sr, t_tag_sI, x_r_si, x_i_sr, t_r_sI, x_ia_si, x_ia_sI, x_ia_sr, x_ra_si, x_ra_sI, x_ra_sr, h5, h7, g_t0 hX1.sh, g_r0_4 hX1.sh, g_t22 hX1.sh, hX1.1.hS, nI_leF (show j < S by omega) (show S < 2 ^ 31 by omega), if_false, nI_add]
    refine (e2 Q).trans ?_
    simp only [X28_108, X28_111, Nat.zero_le, and_true, true_and, x_nb0, x_nb1, x_nbp, x_isL_int, x_isL_ref, x_isL_junk, x_isR_ref, x_cat_nil, x_cat_int, x_cat_ref, x_cat_long, Option.toList_some, Option.toList_none, List.cons_append, List.nil_append, Nat.reduceAdd, Nat.reduceLeDiff, Nat.reduceLT, t_tag_si, t_tag_sr, t_tag_sI, x_r_si, x_i_sr, t_r_sI, x_ia_si, x_ia_sI, x_ia_sr, x_ra_si, x_ra_sI, x_ra_sr, nI_add]
    rfl
theorem S203i (h : EM w S kd td mo kt tl tk) (v : Int32) {a : Nat} (ha : a < S) {f : Nat → Nat} (hf : ∀ b, a < b → b < S → f b = nuM w S kd td mo tl tk (swN kt a b)) (p : Int32 × Nat) (hp : p.2 ≤ 36) : ∀ n j, j + n = S - (a + 1) → ∀ w1, Ch (sm [58, 59]) w w1 → ∀ u6 : Value, x_isL u6 = false → ∃ w2 u, x_isL u = false ∧ Ch (sm [58, 59]) w w2 ∧ ∀ Q, X_R L xs (d + 12) 203 37 [.ref 41, .int v, .int (swB f a p j).1, .int (nI (swB f a p j).2), .int (nI a), .int (nI (a + 1 + j)), u6] [] w1 Q = X_R L xs (d + 12) 203 106 [.ref 41, .int v, .int (swB f a p (S - (a + 1))).1, .int (nI (swB f a p (S - (a + 1))).2), .int (nI a), .int (nI (a + 1 + (S - (a + 1)))), u] [] w2 Q := by
  have h6 := h.1.S6
  intro n
  induction n with
  | zero =>
    intro j hj w1 c1 u6 h7
    obtain rfl : j = S - (a + 1) := by omega
    have hX1 := h.ch (c1.ma rfl)
    refine ⟨w1, u6, h7, c1, fun Q => ?_⟩
    rw [X203_37]
    simp only [X203_39, X203_40, X203_43, Nat.zero_le, and_true, true_and, x_nb0, x_nb1, x_nbp, x_isL_int, x_isL_ref, x_isL_junk, x_isR_ref, x_cat_nil, x_cat_int, x_cat_ref, x_cat_long, Option.toList_some, Option.toList_none, List.cons_append, List.nil_append, Nat.reduceAdd, Nat.reduceLeDiff, Nat.reduceLT, t_tag_si, t_tag_sr, t_tag_sI, x_r_si, x_i_sr, t_r_sI, x_ia_si, x_ia_sI, x_ia_sr, x_ra_si, x_ra_sI, x_ra_sr, g_t41 hX1.sh, hX1.1.hS, nI_leT (show S ≤ a + 1 + (S - (a + 1)) by omega) (show a + 1 + (S - (a + 1)) < 2 ^ 31 by omega), if_true]
  | succ n ih =>
    intro j hj w1 c1 u6 h7
    have hX1 := h.ch (c1.ma rfl)
    have hs1 := hX1.sh
    obtain ⟨w3, c3, hs3, e3⟩ := swM (L := L) (xs := xs) (d := d) hX1 (show a < 6 by omega) (show a + 1 + j < 6 by omega) (by omega)
    rw [nuM_ch (c1.ma rfl), ← hf (a + 1 + j) (by omega) (by omega)] at e3
    have e71 := fun (Q' : Option Value → x_W → Prop) => S204 (L := L) (xs := xs) (d := d + 11) (Q := Q') hs1 (show a < 6 by omega) (show a + 1 + j < 6 by omega)
    have e71' := fun (Q' : Option Value → x_W → Prop) => S204 (L := L) (xs := xs) (d := d + 11) (Q := Q') hs3 (show a < 6 by omega) (show a + 1 + j < 6 by omega)
    generalize hw4 : x_sI w3 46 (swI (x_i w3 46) a (a + 1 + j)) = w4 at c3 e71'
    obtain ⟨w5, u5, h5, c5, e5⟩ := ih (j + 1) (by omega) w4 (c1.trans c3) (.int (nI (f (a + 1 + j)))) rfl
    have hsI : Sh (x_sI w1 46 (swI (x_i w1 46) a (a + 1 + j))) := hs1
    have hfl : f (a + 1 + j) ≤ 36 := by rw [hf (a + 1 + j) (by omega) (by omega)]; exact nuM_le h6 w _
    refine ⟨w5, u5, h5, c5, fun Q => ?_⟩
    by_cases hl : f (a + 1 + j) < (swB f a p j).2
    · have hb2 : (swB f a p j).2 < 2 ^ 31 := by
        have key : ∀ n, n ≤ j → (swB f a p n).2 ≤ 36 := by
          intro n
          induction n with
          | zero => intro _; exact hp
          | succ n ihn =>
            intro hn
            unfold swB
            split
            · rw [hf (a + 1 + n) (by omega) (by omega)]; exact nuM_le h6 w _
            · exact ihn (by omega)
        exact Nat.lt_of_le_of_lt (key j (Nat.le_refl j)) (by decide)
      rw [← e5 Q, X203_37, swB_t hl]
      simp only [X203_0, X203_1, X203_2, X203_3, X203_6, X203_9, X203_11, X203_12, X203_13, X203_14, X203_15, X203_18, X203_19, X203_20, X203_22, X203_24, X203_25, X203_28, X203_31, X203_33, X203_34, X203_35, X203_39, X203_40, X203_43, X203_46, X203_47, X203_49, X203_51, X203_54, X203_55, X203_58, X203_60, X203_61, X203_63, X203_65, X203_68, X203_70, X203_71, X203_74, X203_76, X203_78, X203_79, X203_81, X203_82, X203_85, X203_86, X203_87, X203_89, X203_90, X203_93, X203_95, X203_98, X203_99, X203_100, X203_103, X203_106, X203_109, X203_112, X203_113, X203_116, X203_117, X203_120, X203_121, Nat.zero_le, and_true, true_and, x_nb0, x_nb1, x_nbp, x_isL_int, x_isL_ref, x_isL_junk, x_isR_ref, x_cat_nil, x_cat_int, x_cat_ref, x_cat_long, Option.toList_some, Option.toList_none, List.cons_append, List.nil_append, Nat.reduceAdd, Nat.reduceLeDiff, Nat.reduceLT, t_tag_si, t_tag_sr, t_tag_sI, x_r_si, x_i_sr, t_r_sI, x_ia_si, x_ia_sI, x_ia_sr, x_ra_si, x_ra_sI, x_ra_sr, h7, g_t41 hs1, hX1.1.hS, nI_leF (show a + 1 + j < S by omega) (show S < 2 ^ 31 by omega), if_false, e71, g_t41 hsI, e3, g_t41 hs3, e71', nI_leF hl hb2, nI_mul, nI_add]
      rfl
    · rw [← e5 Q, X203_37, swB_f hl]
      simp only [X203_0, X203_1, X203_2, X203_3, X203_6, X203_9, X203_11, X203_12, X203_13, X203_14, X203_15, X203_18, X203_19, X203_20, X203_22, X203_24, X203_25, X203_28, X203_31, X203_33, X203_34, X203_35, X203_39, X203_40, X203_43, X203_46, X203_47, X203_49, X203_51, X203_54, X203_55, X203_58, X203_60, X203_61, X203_63, X203_65, X203_68, X203_70, X203_71, X203_74, X203_76, X203_78, X203_79, X203_81, X203_82, X203_85, X203_86, X203_87, X203_89, X203_90, X203_93, X203_95, X203_98, X203_99, X203_100, X203_103, X203_106, X203_109, X203_112, X203_113, X203_116, X203_117, X203_120, X203_121, Nat.zero_le, and_true, true_and, x_nb0, x_nb1, x_nbp, x_isL_int, x_isL_ref, x_isL_junk, x_isR_ref, x_cat_nil, x_cat_int, x_cat_ref, x_cat_long, Option.toList_some, Option.toList_none, List.cons_append, List.nil_append, Nat.reduceAdd, Nat.reduceLeDiff, Nat.reduceLT, t_tag_si, t_tag_sr, t_tag_sI, x_r_si, x_i_sr, t_r_sI, x_ia_si, x_ia_sI, x_ia_sr, x_ra_si, x_ra_sI, x_ra_sr, h7, g_t41 hs1, hX1.1.hS, nI_leF (show a + 1 + j < S by omega) (show S < 2 ^ 31 by omega), if_false, e71, g_t41 hsI, e3, g_t41 hs3, e71', nI_leT (Nat.not_lt.mp hl) (show f (a + 1 + j) < 2 ^ 31 by omega), if_true, nI_add]
      rfl
theorem S203o (h : EM w S kd td mo kt tl tk) (v : Int32) (p : Int32 × Nat) (hp : p.2 ≤ 36) : ∀ n j, j + n = S → ∀ w1, Ch (sm [58, 59]) w w1 → ∀ u5 u6 : Value, x_isL u5 = false → x_isL u6 = false → ∃ w2 u u', Ch (sm [58, 59]) w w2 ∧ ∀ Q, X_R L xs (d + 12) 203 22 [.ref 41, .int v, .int (swA (fun a b => nuM w S kd td mo tl tk (swN kt a b)) S p j).1, .int (nI (swA (fun a b => nuM w S kd td mo tl tk (swN kt a b)) S p j).2), .int (nI j), u5, u6] [] w1 Q = X_R L xs (d + 12) 203 112 [.ref 41, .int v, .int (swA (fun a b => nuM w S kd td mo tl tk (swN kt a b)) S p S).1, .int (nI (swA (fun a b => nuM w S kd td mo tl tk (swN kt a b)) S p S).2), .int (nI S), u, u'] [] w2 Q := by
  have h6 := h.1.S6
  intro n
  induction n with
  | zero =>
    intro j hj w1 c1 u5 u6 h5 h7
    obtain rfl : j = S := by omega
    have hX1 := h.ch (c1.ma rfl)
    refine ⟨w1, u5, u6, c1, fun Q => ?_⟩
    rw [X203_22]
    simp only [X203_24, X203_25, X203_28, Nat.zero_le, and_true, true_and, x_nb0, x_nb1, x_nbp, x_isL_int, x_isL_ref, x_isL_junk, x_isR_ref, x_cat_nil, x_cat_int, x_cat_ref, x_cat_long, Option.toList_some, Option.toList_none, List.cons_append, List.nil_append, Nat.reduceAdd, Nat.reduceLeDiff, Nat.reduceLT, t_tag_si, t_tag_sr, t_tag_sI, x_r_si, x_i_sr, t_r_sI, x_ia_si, x_ia_sI, x_ia_sr, x_ra_si, x_ra_sI, x_ra_sr, g_t41 hX1.sh, hX1.1.hS, nI_leT (Nat.le_refl j) (show j < 2 ^ 31 by omega), if_true]
  | succ n ih =>
    intro j hj w1 c1 u5 u6 h5 h7
    have hX1 := h.ch (c1.ma rfl)
    obtain ⟨w2, u, hu, c2, e2⟩ := S203i (L := L) (xs := xs) (d := d) h v (show j < S by omega) (f := fun b => nuM w S kd td mo tl tk (swN kt j b)) (fun b _ _ => rfl) (swA (fun a b => nuM w S kd td mo tl tk (swN kt a b)) S p j) (swA_le hp (fun a b => nuM_le h6 w _) j) (S - (j + 1)) 0 (by omega) w1 c1 u6 h7
    obtain ⟨w3, u3, u3', c3, e3⟩ := ih (j + 1) (by omega) w2 c2 (.int (nI (j + 1 + (S - (j + 1))))) u rfl hu
    refine ⟨w3, u3, u3', c3, fun Q => ?_⟩
    rw [← e3 Q, X203_22]
    simp only [X203_24, X203_25, X203_28, X203_31, X203_33, X203_34, X203_35, Nat.zero_le, and_true, true_and, x_nb0, x_nb1, x_nbp, x_isL_int, x_isL_ref, x_isL_junk, x_isR_ref, x_cat_nil, x_cat_int, x_cat_ref, x_cat_long, Option.toList_some, Option.toList_none, List.cons_append, List.nil_append, Nat.reduceAdd, Nat.reduceLeDiff, Nat.reduceLT, t_tag_si, t_tag_sr, t_tag_sI, x_r_si, x_i_sr, t_r_sI, x_ia_si, x_ia_sI, x_ia_sr, x_ra_si, x_ra_sI, x_ra_sr, h5, h7, g_t41 hX1.sh, hX1.1.hS, nI_leF (show j < S by omega) (show S < 2 ^ 31 by omega), if_false, nI_add]
    refine (e2 Q).trans ?_
    simp only [X203_106, X203_109, Nat.zero_le, and_true, true_and, x_nb0, x_nb1, x_nbp, x_isL_int, x_isL_ref, x_isL_junk, x_isR_ref, x_cat_nil, x_cat_int, x_cat_ref, x_cat_long, Option.toList_some, Option.toList_none, List.cons_append, List.nil_append, Nat.reduceAdd, Nat.reduceLeDiff, Nat.reduceLT, t_tag_si, t_tag_sr, t_tag_sI, x_r_si, x_i_sr, t_r_sI, x_ia_si, x_ia_sI, x_ia_sr, x_ra_si, x_ra_sI, x_ra_sr, nI_add]
    rfl
theorem AQ_swap (h : AG w S kd td mo kt tl tk) (v : Int32) : AQ L xs (d + 12) 28 203 [.ref 0, .int v, x_junk, x_junk, x_junk, x_junk, x_junk] [.ref 41, .int v, x_junk, x_junk, x_junk, x_junk, x_junk] w := by
  have hs := h.1.sh
  have h6 := h.1.1.S6
  have h01 : bI (nI 0 ≤ v ∧ v ≤ nI 1) = bI (v = nI 0 ∨ v = nI 1) := bI_c (by rw [in01])
  by_cases h2 : v = nI 0 ∨ v = nI 1
  · obtain ⟨w1, c1, hF1, e1⟩ := S69 (L := L) (xs := xs) (d := d + 5) h.1
    have hX1 := h.1.ch (c1.a rfl) hF1
    have en : unN (wkB kd td mo kt tl tk (farX w kt)) S S = nuX w S kd td mo tl tk kt := rfl
    rw [en] at e1
    have hs1 := c1.sh hs
    obtain ⟨w2, u2, u2', c2, hF2, e2⟩ := S28o (L := L) (xs := xs) (d := d) hX1 v (-1, nuX w S kd td mo tl tk kt) (nuX_le h6 w kt) S 0 (by omega) w1 Ch.refl hF1 x_junk x_junk rfl rfl
    have c02 : ChA w w2 := (c1.trans c2).a rfl
    have hM2 := h.2.1.ch c02
    obtain ⟨w3, c3, e3⟩ := S199 (L := L) (xs := xs) (d := d + 5) hM2
    have en3 : unN (wkB kd td mo kt tl tk (farM w2 kt)) S S = nuX w S kd td mo tl tk kt := by
      rw [farM_ch c02]
      exact (h.nu (fun q hq => (h.1.1.bd q hq).2.2.2)).symm
    rw [en3] at e3
    have hM3 := hM2.ch (c3.ma rfl)
    obtain ⟨w4, u4, u4', c4, e4⟩ := S203o (L := L) (xs := xs) (d := d) hM3 v (-1, nuX w S kd td mo tl tk kt) (nuX_le h6 w kt) S 0 (by omega) w3 Ch.refl x_junk x_junk rfl rfl
    have eA : swA (fun a b => nuM w3 S kd td mo tl tk (swN kt a b)) S (-1, nuX w S kd td mo tl tk kt) S = swA (fun a b => nuX w1 S kd td mo tl tk (swN kt a b)) S (-1, nuX w S kd td mo tl tk kt) S := by
      refine swA_cg S (fun a b ha hab hb => ?_)
      rw [nuM_ch (c02.trans (c3.ma rfl)), nuX_ch (c1.a rfl)]
      exact (h.nu (swN_lt (show a < 6 by omega) (show b < 6 by omega) (fun q hq => (h.1.1.bd q hq).2.2.2))).symm
    rw [eA] at e4
    have hs2 := c02.sh hs
    refine ⟨.int (if v = nI 0 then (swA (fun a b => nuX w1 S kd td mo tl tk (swN kt a b)) S (-1, nuX w S kd td mo tl tk kt) S).1 else nI (swA (fun a b => nuX w1 S kd td mo tl tk (swN kt a b)) S (-1, nuX w S kd td mo tl tk kt) S).2), w2, w4, c02.trans ((c3.ma rfl).trans (c4.ma rfl)), (hF2.m c3 rfl rfl rfl).m c4 rfl rfl rfl, fun Q => ?_, fun Q => ?_⟩
    · have e0 : X_R L xs (d + 12) 28 0 [.ref 0, .int v, x_junk, x_junk, x_junk, x_junk, x_junk] [] w Q = X_R L xs (d + 12) 28 23 [.ref 0, .int v, .int (-1), .int (nI (nuX w S kd td mo tl tk kt)), .int (nI 0), x_junk, x_junk] [] w1 Q := by
        simp only [X28_0, X28_1, X28_4, X28_10, X28_11, X28_12, X28_13, X28_16, X28_19, X28_20, X28_21, Nat.zero_le, and_true, true_and, x_nb0, x_nb1, x_nbp, x_isL_int, x_isL_ref, x_isL_junk, x_isR_ref, x_cat_nil, x_cat_int, x_cat_ref, x_cat_long, Option.toList_some, Option.toList_none, List.cons_append, List.nil_append, Nat.reduceAdd, Nat.reduceLeDiff, Nat.reduceLT, t_tag_si, t_tag_sr, t_tag_sI, x_r_si, x_i_sr, t_r_sI, x_ia_si, x_ia_sI, x_ia_sr, x_ra_si, x_ra_sI, x_ra_sr, g_t0 hs, g_r0_4 hs, g_t22 hs, n10, S4, bI_t h2, if_false, e1]
      rw [e0]
      refine (e2 Q).trans ?_
      generalize swA (fun a b => nuX w1 S kd td mo tl tk (swN kt a b)) S (-1, nuX w S kd td mo tl tk kt) S = R
      by_cases hv : v = nI 0
      · simp only [X28_114, X28_115, X28_118, X28_119, X28_123, Nat.zero_le, and_true, true_and, x_nb0, x_nb1, x_nbp, x_isL_int, x_isL_ref, x_isL_junk, x_isR_ref, x_cat_nil, x_cat_int, x_cat_ref, x_cat_long, Option.toList_some, Option.toList_none, List.cons_append, List.nil_append, Nat.reduceAdd, Nat.reduceLeDiff, Nat.reduceLT, t_tag_si, t_tag_sr, t_tag_sI, x_r_si, x_i_sr, t_r_sI, x_ia_si, x_ia_sI, x_ia_sr, x_ra_si, x_ra_sI, x_ra_sr, hv, if_true]
      · simp only [X28_114, X28_115, X28_122, X28_123, Nat.zero_le, and_true, true_and, x_nb0, x_nb1, x_nbp, x_isL_int, x_isL_ref, x_isL_junk, x_isR_ref, x_cat_nil, x_cat_int, x_cat_ref, x_cat_long, Option.toList_some, Option.toList_none, List.cons_append, List.nil_append, Nat.reduceAdd, Nat.reduceLeDiff, Nat.reduceLT, t_tag_si, t_tag_sr, t_tag_sI, x_r_si, x_i_sr, t_r_sI, x_ia_si, x_ia_sI, x_ia_sr, x_ra_si, x_ra_sI, x_ra_sr, hv, if_false]
    · have e0 : X_R L xs (d + 12) 203 0 [.ref 41, .int v, x_junk, x_junk, x_junk, x_junk, x_junk] [] w2 Q = X_R L xs (d + 12) 203 22 [.ref 41, .int v, .int (-1), .int (nI (nuX w S kd td mo tl tk kt)), .int (nI 0), x_junk, x_junk] [] w3 Q := by
        simp only [X203_0, X203_1, X203_2, X203_3, X203_6, X203_12, X203_13, X203_14, X203_15, X203_18, X203_19, X203_20, Nat.zero_le, and_true, true_and, x_nb0, x_nb1, x_nbp, x_isL_int, x_isL_ref, x_isL_junk, x_isR_ref, x_cat_nil, x_cat_int, x_cat_ref, x_cat_long, Option.toList_some, Option.toList_none, List.cons_append, List.nil_append, Nat.reduceAdd, Nat.reduceLeDiff, Nat.reduceLT, t_tag_si, t_tag_sr, t_tag_sI, x_r_si, x_i_sr, t_r_sI, x_ia_si, x_ia_sI, x_ia_sr, x_ra_si, x_ra_sI, x_ra_sr, g_t41 hs2, n10, S138, h01, bI_t h2, if_false, e3]
      rw [e0]
      refine (e4 Q).trans ?_
      generalize swA (fun a b => nuX w1 S kd td mo tl tk (swN kt a b)) S (-1, nuX w S kd td mo tl tk kt) S = R
      by_cases hv : v = nI 0
      · simp only [X203_112, X203_113, X203_116, X203_117, X203_121, Nat.zero_le, and_true, true_and, x_nb0, x_nb1, x_nbp, x_isL_int, x_isL_ref, x_isL_junk, x_isR_ref, x_cat_nil, x_cat_int, x_cat_ref, x_cat_long, Option.toList_some, Option.toList_none, List.cons_append, List.nil_append, Nat.reduceAdd, Nat.reduceLeDiff, Nat.reduceLT, t_tag_si, t_tag_sr, t_tag_sI, x_r_si, x_i_sr, t_r_sI, x_ia_si, x_ia_sI, x_ia_sr, x_ra_si, x_ra_sI, x_ra_sr, hv, if_true]
      · simp only [X203_112, X203_113, X203_120, X203_121, Nat.zero_le, and_true, true_and, x_nb0, x_nb1, x_nbp, x_isL_int, x_isL_ref, x_isL_junk, x_isR_ref, x_cat_nil, x_cat_int, x_cat_ref, x_cat_long, Option.toList_some, Option.toList_none, List.cons_append, List.nil_append, Nat.reduceAdd, Nat.reduceLeDiff, Nat.reduceLT, t_tag_si, t_tag_sr, t_tag_sI, x_r_si, x_i_sr, t_r_sI, x_ia_si, x_ia_sI, x_ia_sr, x_ra_si, x_ra_sI, x_ra_sr, hv, if_false]
  · refine AQ_no (v := .int (-2)) h.1.2.2 (fun Q => ?_) (fun Q => ?_)
    · simp only [X28_0, X28_1, X28_4, X28_7, X28_9, Nat.zero_le, and_true, true_and, x_nb0, x_nb1, x_nbp, x_isL_int, x_isL_ref, x_isL_junk, x_isR_ref, x_cat_nil, x_cat_int, x_cat_ref, x_cat_long, Option.toList_some, Option.toList_none, List.cons_append, List.nil_append, Nat.reduceAdd, Nat.reduceLeDiff, Nat.reduceLT, t_tag_si, t_tag_sr, t_tag_sI, x_r_si, x_i_sr, t_r_sI, x_ia_si, x_ia_sI, x_ia_sr, x_ra_si, x_ra_sI, x_ra_sr, S4, bI_f h2, if_true]
    · simp only [X203_0, X203_1, X203_2, X203_3, X203_6, X203_9, X203_11, Nat.zero_le, and_true, true_and, x_nb0, x_nb1, x_nbp, x_isL_int, x_isL_ref, x_isL_junk, x_isR_ref, x_cat_nil, x_cat_int, x_cat_ref, x_cat_long, Option.toList_some, Option.toList_none, List.cons_append, List.nil_append, Nat.reduceAdd, Nat.reduceLeDiff, Nat.reduceLT, t_tag_si, t_tag_sr, t_tag_sI, x_r_si, x_i_sr, t_r_sI, x_ia_si, x_ia_sI, x_ia_sr, x_ra_si, x_ra_sI, x_ra_sr, S138, h01, bI_f h2, if_true]
end S90
