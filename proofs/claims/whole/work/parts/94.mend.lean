/-! ===== which cord to mend: mend ===== -/
theorem mk_undoB : ∀ k, k < 20 → ∀ b, b < 16 → ∀ o, o < 20 → (!besN k o || decide (bv (mkN k b) (nI o) = nI 1) || decide (pc1 (nI 0) (pc1 (nI 1) (mkN k b) (nI o)) (nI o) = mkN k b)) = true := by decide +kernel
def fo {α : Type} (g : Nat → α → α) : Nat → α → α
  | 0, p => p
  | n + 1, p => g n (fo g n p)
theorem fo_add {α : Type} (g : Nat → α → α) (m n : Nat) (p : α) : fo g (m + n) p = fo (fun i => g (m + i)) n (fo g m p) := by
  induction n with
  | zero => rfl
  | succ n ih =>
    show g (m + n) (fo g (m + n) p) = g (m + n) (fo (fun i => g (m + i)) n (fo g m p))
    rw [ih]
theorem fo_id {α : Type} {g : Nat → α → α} (n : Nat) (p : α) (h : ∀ i, i < n → ∀ q, g i q = q) : fo g n p = p := by
  induction n with
  | zero => rfl
  | succ n ih =>
    show g n (fo g n p) = p
    rw [h n (Nat.lt_succ_self _), ih (fun i hi => h i (by omega))]
theorem fo_cg {α : Type} {g g' : Nat → α → α} (n : Nat) (p : α) (h : ∀ i, i < n → ∀ q, g i q = g' i q) : fo g n p = fo g' n p := by
  induction n with
  | zero => rfl
  | succ n ih =>
    show g n (fo g n p) = g' n (fo g' n p)
    rw [ih (fun i hi => h i (by omega)), h n (Nat.lt_succ_self _)]
theorem fo_20 {α : Type} (G : Nat → Nat → α → α) (m : Nat) (p : α) : fo (fun k => G (k / 20) (k % 20)) (20 * m) p = fo (fun a q => fo (G a) 20 q) m p := by
  induction m with
  | zero => rfl
  | succ m ih =>
    rw [show 20 * (m + 1) = 20 * m + 20 by omega, fo_add, ih]
    show fo (fun i => G ((20 * m + i) / 20) ((20 * m + i) % 20)) 20 (fo (fun a q => fo (G a) 20 q) m p) = fo (G m) 20 (fo (fun a q => fo (G a) 20 q) m p)
    refine fo_cg 20 _ (fun i hi q => ?_)
    rw [show (20 * m + i) / 20 = m by omega, show (20 * m + i) % 20 = i by omega]
/-- one pair of knots: a cord that might be mended -/
def mdG (C : Nat → Int32) (f : Nat → Nat → Nat) (a b : Nat) (p : Int32 × Nat) : Int32 × Nat := if (decide (b < 20) && decide (a < b) && besN a b && !cbN C a b) = true ∧ f a b < p.2 then (nI (100 * a + b), f a b) else p
theorem mdG_no {C : Nat → Int32} {f : Nat → Nat → Nat} {a b : Nat} (h : (decide (b < 20) && decide (a < b) && besN a b && !cbN C a b) = false) (p : Int32 × Nat) : mdG C f a b p = p := if_neg (fun q => by rw [h] at q; exact Bool.noConfusion q.1)
theorem mdG_row (C : Nat → Int32) (f : Nat → Nat → Nat) {a : Nat} (ha : a < 20) (p : Int32 × Nat) : fo (mdG C f a) 20 p = fo (fun n => mdG C f a (a + 1 + n)) 5 p := by
  have e1 : fo (mdG C f a) 20 p = fo (fun i => mdG C f a (a + 1 + i)) (19 - a) p := by
    conv => lhs; rw [show 20 = (a + 1) + (19 - a) by omega]
    rw [fo_add, fo_id (g := mdG C f a) (a + 1) p (fun i hi q => mdG_no (by rw [decide_eq_false (show ¬ a < i by omega)]; simp) q)]
  rw [e1]
  by_cases h : 19 - a ≤ 5
  · conv => rhs; rw [show 5 = (19 - a) + (5 - (19 - a)) by omega]
    rw [fo_add]
    exact (fo_id _ _ (fun i hi q => mdG_no (by rw [decide_eq_false (show ¬ a + 1 + (19 - a + i) < 20 by omega)]; rfl) q)).symm
  · conv => lhs; rw [show 19 - a = 5 + (19 - a - 5) by omega]
    rw [fo_add]
    exact fo_id _ _ (fun i hi q => mdG_no (by rw [bes_far a ha (a + 1 + (5 + i)) (by omega) (by omega)]; simp) q)
theorem mdG_all (C : Nat → Int32) (f : Nat → Nat → Nat) (p : Int32 × Nat) : fo (fun k => mdG C f (k / 20) (k % 20)) 400 p = fo (fun a q => fo (fun n => mdG C f a (a + 1 + n)) 5 q) 20 p := by
  have h := fo_20 (mdG C f) 20 p
  rw [show 20 * 20 = 400 by rfl] at h
  rw [h]
  exact fo_cg 20 p (fun a ha q => mdG_row C f ha q)
theorem mdG_le {C : Nat → Int32} {f : Nat → Nat → Nat} {M : Nat} (h : ∀ a b, f a b ≤ M) (a b : Nat) {p : Int32 × Nat} (hp : p.2 ≤ M) : (mdG C f a b p).2 ≤ M := by
  unfold mdG
  split
  · exact h a b
  · exact hp
theorem fo_le {g : Nat → Int32 × Nat → Int32 × Nat} {M : Nat} (h : ∀ i q, q.2 ≤ M → (g i q).2 ≤ M) (n : Nat) {p : Int32 × Nat} (hp : p.2 ≤ M) : (fo g n p).2 ≤ M := by
  induction n with
  | zero => exact hp
  | succ n ih => exact h n _ ih
theorem mdG_cg {C C' : Nat → Int32} {f f' : Nat → Nat → Nat} (hC : ∀ k, k < 20 → C k = C' k) (hf : ∀ a b, a < 20 → b < 20 → f a b = f' a b) {a b : Nat} (ha : a < 20) (p : Int32 × Nat) : mdG C f a b p = mdG C' f' a b p := by
  unfold mdG
  by_cases hb : b < 20
  · have e : cbN C a b = cbN C' a b := by unfold cbN; rw [hC a ha]
    rw [e, hf a b ha hb]
  · rw [decide_eq_false hb]
    rfl
/-- a cord put where there was none, and taken away -/
theorem putC_undo {C : Nat → Int32} (hC : CdM C) {i j : Nat} (hi : i < 20) (hj : j < 20) (hb : besN i j = true) (h1 : cbN C i j = false) (h2 : cbN C j i = false) : putC (putC C (nI i) (nI j) (nI 1)) (nI i) (nI j) (nI 0) = C := by
  obtain ⟨hb', hij⟩ := bes_sym i hi j hj hb
  have u : ∀ k o, k < 20 → o < 20 → besN k o = true → cbN C k o = false → pc1 (nI 0) (pc1 (nI 1) (C k) (nI o)) (nI o) = C k := by
    intro k o hk ho hko hc
    obtain ⟨b, hb, e⟩ := hC k hk
    have h := mk_undoB k hk b hb o ho
    unfold cbN at hc
    rw [e] at hc ⊢
    rw [hko, hc, Bool.not_true, Bool.false_or, Bool.false_or, decide_eq_true_eq] at h
    exact h
  unfold putC
  rw [nI_cl (by omega), nI_cl (by omega)]
  funext q
  have ej : upd C i (pc1 (nI 1) (C i) (nI j)) j = C j := upd_o (Ne.symm hij)
  rw [ej]
  by_cases hqj : q = j
  · subst hqj
    rw [upd_s, upd_o (Ne.symm hij), upd_s]
    exact u q i hj hi hb' h2
  · by_cases hqi : q = i
    · subst hqi
      rw [upd_o hqj, upd_s, upd_o hqj, upd_s]
      exact u q j hi hj hb h1
    · rw [upd_o hqj, upd_o hqi, upd_o hqj, upd_o hqi]
theorem Sy_cb {C : Nat → Int32} (h : Sy C) {i j : Nat} (hi : i < 20) (hj : j < 20) : cbN C i j = cbN C j i := h i j hi hj
section S94
variable {L : Nat} {xs : Nat → Int32} {d : Nat} {w w' : x_W} {S : Nat} {kd td mo kt tl : Nat → Nat} {tk : Nat → Nat → Nat}
def fX (w : x_W) (S : Nat) (kd td mo kt : Nat → Nat) (a b : Nat) : Nat := hdC (putC (x_i w 24) (nI a) (nI b) (nI 1)) (x_i w 23 1) (XL S kd td mo kt)
def fM (w : x_W) (S : Nat) (kd td mo kt : Nat → Nat) (a b : Nat) : Nat := hdC (putC (x_i w 42) (nI a) (nI b) (nI 1)) (x_i w 41 1) (XL S kd td mo kt)
theorem mendX (h : CX w S kd td mo kt) (hC : CdM (x_i w 24)) (hSy : Sy (x_i w 24)) {i j : Nat} (hi : i < 20) (hj : j < 20) (hb : besN i j = true) (hn : cbN (x_i w 24) i j = false) : ∃ w3, Sh w3 ∧ Ch (sc [25, 26, 27]) w (W3 w3 (nI i) (nI j) (nI 0)) ∧ FarOk (W3 w3 (nI i) (nI j) (nI 0)) ∧ ∀ Q, X_R L xs (d + 4) 73 0 [.ref 22] [] (W3 w (nI i) (nI j) (nI 1)) Q = Q (some (.int (nI (fX w S kd td mo kt i j)))) w3 := by
  have e24 : x_i (W3 w (nI i) (nI j) (nI 1)) 24 = putC (x_i w 24) (nI i) (nI j) (nI 1) := by unfold W3; rw [x_i_sin _ _ _ _ (by decide), x_i_sI]
  have cA : Ch (orc (sc [25, 26, 27]) 24) w (W3 w (nI i) (nI j) (nI 1)) := Ch_orcI.trans (Ch_si rfl)
  have hX2 : CX (W3 w (nI i) (nI j) (nI 1)) S kd td mo kt := h.gen cA rfl (fun _ => rfl) (six ⟨fun _ => rfl, fun _ => rfl, fun _ => rfl, fun _ => rfl, fun _ => rfl, fun _ => rfl⟩) (by rw [e24]; exact CdM_nb (CdM_put hC hi hj hb (Or.inr rfl)))
  obtain ⟨w3, c3, e3⟩ := S73c (L := L) (xs := xs) (d := d) hX2
  have e231 : x_i (W3 w (nI i) (nI j) (nI 1)) 23 1 = x_i w 23 1 := cA.2.2 23 1 rfl
  rw [e24, e231] at e3
  have e243 : x_i w3 24 = putC (x_i w 24) (nI i) (nI j) (nI 1) := by rw [c3.i (fun _ => rfl : ∀ k, sm [25, 26, 27] 24 k = false), e24]
  have cB : Ch (orc (sc [25, 26, 27]) 24) w3 (W3 w3 (nI i) (nI j) (nI 0)) := Ch_orcI.trans (Ch_si rfl)
  refine ⟨w3, c3.sh hX2.sh, (cA.trans (c3.ms.orc.trans cB)).cell ?_, Or.inl ?_, e3⟩
  · have e : x_i (W3 w3 (nI i) (nI j) (nI 0)) 24 = putC (x_i w3 24) (nI i) (nI j) (nI 0) := by unfold W3; rw [x_i_sin _ _ _ _ (by decide), x_i_sI]
    rw [e, e243]
    exact putC_undo hC hi hj hb hn (by rw [← Sy_cb hSy hi hj]; exact hn)
  · unfold W3
    rw [x_i_si, upd_s]
theorem mendM (h : CM w S kd td mo kt) (hC : CdM (x_i w 42)) (hSy : Sy (x_i w 42)) {i j : Nat} (hi : i < 20) (hj : j < 20) (hb : besN i j = true) (hn : cbN (x_i w 42) i j = false) : ∃ w3, Sh w3 ∧ Ch (sm [60, 61, 62]) w (x_sI w3 42 (putC (x_i w3 42) (nI i) (nI j) (nI 0))) ∧ ∀ Q, X_R L xs (d + 3) 211 0 [.ref 41] [] (x_sI w 42 (putC (x_i w 42) (nI i) (nI j) (nI 1))) Q = Q (some (.int (nI (fM w S kd td mo kt i j)))) w3 := by
  have cA : Ch (orc (sm [60, 61, 62]) 42) w (x_sI w 42 (putC (x_i w 42) (nI i) (nI j) (nI 1))) := Ch_orcI
  have hX2 : CM (x_sI w 42 (putC (x_i w 42) (nI i) (nI j) (nI 1))) S kd td mo kt := h.gen cA rfl (fun _ => ⟨rfl, rfl, rfl, rfl⟩)
  obtain ⟨w3, c3, e3⟩ := S211c (L := L) (xs := xs) (d := d) hX2
  have e231 : x_i (x_sI w 42 (putC (x_i w 42) (nI i) (nI j) (nI 1))) 41 1 = x_i w 41 1 := cA.2.2 41 1 rfl
  rw [x_i_sI, e231] at e3
  have e243 : x_i w3 42 = putC (x_i w 42) (nI i) (nI j) (nI 1) := by rw [c3.i (fun _ => rfl : ∀ k, sm [60, 61, 62] 42 k = false), x_i_sI]
  refine ⟨w3, c3.sh hX2.sh, (cA.trans (c3.orc.trans Ch_orcI)).cell ?_, e3⟩
  rw [x_i_sI, e243]
  exact putC_undo hC hi hj hb hn (by rw [← Sy_cb hSy hi hj]; exact hn)
theorem fX_m {l : List Nat} (hc : Ch (sc l) w w') (h24 : l.elem 24 = false) (h23 : l.elem 23 = false) : fX w' S kd td mo kt = fX w S kd td mo kt := by
  funext a b
  unfold fX
  rw [hc.i (fun k => by unfold sc; rw [h24]; rfl : ∀ k, sc l 24 k = false), hc.2.2 23 1 (by unfold sc; rw [h23]; rfl)]
theorem fX_9 (a b : Nat) : fX w S kd td mo kt a b ≤ 999 := hdC_le _ _ _
theorem fM_9 (a b : Nat) : fM w S kd td mo kt a b ≤ 999 := hdC_le _ _ _
theorem fM_m {l : List Nat} (hc : Ch (sm l) w w') (h42 : l.elem 42 = false) (h41 : l.elem 41 = false) : fM w' S kd td mo kt = fM w S kd td mo kt := by
  funext a b
  unfold fM
  rw [hc.i (fun k => h42 : ∀ k, sm l 42 k = false), hc.2.2 41 1 h41]
theorem CX.s (h : CX w S kd td mo kt) {l : List Nat} (hc : Ch (sc l) w w') (hl : (l.all fun x => SA.elem x) = true) : CX w' S kd td mo kt := h.ch (hc.a hl)
theorem S31i (h : CX w S kd td mo kt) (hC : CdM (x_i w 24)) (hSy : Sy (x_i w 24)) (v : Int32) {a : Nat} (ha : a < 20) (p : Int32 × Nat) (hp : p.2 ≤ 999) : ∀ n j, j + n = 5 → ∀ w1, Ch (sc [25, 26, 27]) w w1 → FarOk w1 → ∀ u6 : Value, x_isL u6 = false → ∃ w2 u, x_isL u = false ∧ Ch (sc [25, 26, 27]) w w2 ∧ FarOk w2 ∧ ∀ Q, X_R L xs (d + 12) 31 36 [.ref 0, .int v, .int (fo (fun n => mdG (x_i w 24) (fX w S kd td mo kt) a (a + 1 + n)) j p).1, .int (nI (fo (fun n => mdG (x_i w 24) (fX w S kd td mo kt) a (a + 1 + n)) j p).2), .int (nI a), .int (nI (a + 1 + j)), u6] [] w1 Q = X_R L xs (d + 12) 31 129 [.ref 0, .int v, .int (fo (fun n => mdG (x_i w 24) (fX w S kd td mo kt) a (a + 1 + n)) 5 p).1, .int (nI (fo (fun n => mdG (x_i w 24) (fX w S kd td mo kt) a (a + 1 + n)) 5 p).2), .int (nI a), .int (nI (a + 1 + 5)), u] [] w2 Q := by
  intro n
  induction n with
  | zero =>
    intro j hj w1 c1 hF1 u6 h6
    obtain rfl : j = 5 := by omega
    refine ⟨w1, u6, h6, c1, hF1, fun Q => ?_⟩
    rw [X31_36]
    simp only [X31_38, X31_40, X31_41, X31_42, Nat.zero_le, and_true, true_and, x_nb0, x_nb1, x_nbp, x_isL_int, x_isL_ref, x_isL_junk, x_isR_ref, x_cat_nil, x_cat_int, x_cat_ref, x_cat_long, Option.toList_some, Option.toList_none, List.cons_append, List.nil_append, Nat.reduceAdd, Nat.reduceLeDiff, Nat.reduceLT, t_tag_si, t_tag_sr, t_tag_sI, x_r_si, x_i_sr, t_r_sI, x_ia_si, x_ia_sI, x_ia_sr, x_ra_si, x_ra_sI, x_ra_sr, nI_add, nI_ltT (show a + 5 < a + 1 + 5 by omega) (show a + 1 + 5 < 2 ^ 31 by omega), if_true]
  | succ n ih =>
    intro j hj w1 c1 hF1 u6 h6
    have hX1 := h.s c1 rfl
    have hs1 := hX1.sh
    have e24 : x_i w1 24 = x_i w 24 := c1.i (fun _ => rfl)
    have hfs : fo (fun n => mdG (x_i w 24) (fX w S kd td mo kt) a (a + 1 + n)) (j + 1) p = mdG (x_i w 24) (fX w S kd td mo kt) a (a + 1 + j) (fo (fun n => mdG (x_i w 24) (fX w S kd td mo kt) a (a + 1 + n)) j p) := rfl
    have hfl : (fo (fun n => mdG (x_i w 24) (fX w S kd td mo kt) a (a + 1 + n)) j p).2 ≤ 999 := fo_le (M := 999) (fun i q hq => mdG_le (M := 999) fX_9 a _ hq) j hp
    have ngt := nI_ltF (show a + 1 + j ≤ a + 5 by omega) (show a + 5 < 2 ^ 31 by omega)
    have e86 := fun (Q' : Option Value → x_W → Prop) => @S86 L xs (d + 10) w1 Q' (nI a) (nI (a + 1 + j)) (bes_dec _ _)
    by_cases hb : a + 1 + j < 20 ∧ besN a (a + 1 + j) = true
    · have hbes : bes (nI a) (nI (a + 1 + j)) := ⟨kn_nI ha, kn_nI hb.1, by rw [nI_cl (by omega), nI_cl (by omega)]; exact hb.2⟩
      have e86' : ∀ Q', X_R L xs (d + 11) 86 0 [.int (nI a), .int (nI (a + 1 + j)), x_junk] [] w1 Q' = Q' (some (.int (nI 1))) w1 := fun Q' => by rw [e86 Q', @bI_t _ (bes_dec _ _) hbes]
      have e88 := fun (Q' : Option Value → x_W → Prop) => S88t (L := L) (xs := xs) (d := d + 11) (Q := Q') hs1 (kn_nI ha) (kn_nI hb.1)
      rw [nI_cl (show a < 2 ^ 31 by omega), e24] at e88
      by_cases hc : cbN (x_i w 24) a (a + 1 + j) = true
      · have hbv : bv (x_i w 24 a) (nI (a + 1 + j)) = nI 1 := by unfold cbN at hc; exact decide_eq_true_eq.mp hc
        rw [hbv] at e88
        obtain ⟨w4, u4, hu4, c4, hF4, e4⟩ := ih (j + 1) (by omega) w1 c1 hF1 u6 h6
        refine ⟨w4, u4, hu4, c4, hF4, fun Q => ?_⟩
        rw [hfs, mdG_no (by rw [hc]; simp)] at e4
        rw [← e4 Q, X31_36]
        simp only [X31_38, X31_40, X31_41, X31_42, X31_45, X31_47, X31_49, X31_52, X31_55, X31_56, X31_59, X31_61, X31_63, X31_66, X31_69, X31_123, X31_126, Nat.zero_le, and_true, true_and, x_nb0, x_nb1, x_nbp, x_isL_int, x_isL_ref, x_isL_junk, x_isR_ref, x_cat_nil, x_cat_int, x_cat_ref, x_cat_long, Option.toList_some, Option.toList_none, List.cons_append, List.nil_append, Nat.reduceAdd, Nat.reduceLeDiff, Nat.reduceLT, t_tag_si, t_tag_sr, t_tag_sI, x_r_si, x_i_sr, t_r_sI, x_ia_si, x_ia_sI, x_ia_sr, x_ra_si, x_ra_sI, x_ra_sr, nI_add, ngt, if_false, e86', n10, g_t0 hs1, g_r0_5 hs1, g_t23 hs1, e88]
        rfl
      · have hcf := Bool.not_eq_true _ |>.mp hc
        have hbv : bv (x_i w 24 a) (nI (a + 1 + j)) = nI 0 := by
          rcases bv_cases (x_i w 24 a) (nI (a + 1 + j)) with q | q
          · exact q
          · exact absurd (show cbN (x_i w 24) a (a + 1 + j) = true from decide_eq_true q) hc
        rw [hbv] at e88
        obtain ⟨w3, hs3, c3, hF3, e3⟩ := mendX (L := L) (xs := xs) (d := d + 7) hX1 (by rw [e24]; exact hC) (by rw [e24]; exact hSy) ha hb.1 hb.2 (by rw [e24]; exact hcf)
        rw [fX_m c1 rfl rfl] at e3
        have e87 := fun (Q' : Option Value → x_W → Prop) => S87 (L := L) (xs := xs) (d := d + 11) (Q := Q') (v := nI 1) hs1 (kn_nI ha) (kn_nI hb.1)
        have e87' := fun (Q' : Option Value → x_W → Prop) => S87 (L := L) (xs := xs) (d := d + 11) (Q := Q') (v := nI 0) hs3 (kn_nI ha) (kn_nI hb.1)
        have hW : x_si (x_sI w1 24 (putC (x_i w1 24) (nI a) (nI (a + 1 + j)) (nI 1))) 23 6 (nI 0) = W3 w1 (nI a) (nI (a + 1 + j)) (nI 1) := rfl
        have hW' : x_si (x_sI w3 24 (putC (x_i w3 24) (nI a) (nI (a + 1 + j)) (nI 0))) 23 6 (nI 0) = W3 w3 (nI a) (nI (a + 1 + j)) (nI 0) := rfl
        rw [hW] at e87
        rw [hW'] at e87'
        have hsT : Sh (W3 w1 (nI a) (nI (a + 1 + j)) (nI 1)) := hs1
        generalize hw4 : W3 w3 (nI a) (nI (a + 1 + j)) (nI 0) = w4 at c3 hF3 e87'
        generalize hwT : W3 w1 (nI a) (nI (a + 1 + j)) (nI 1) = wT at e87 e3 hsT
        obtain ⟨w5, u5, hu5, c5, hF5, e5⟩ := ih (j + 1) (by omega) w4 (c1.trans c3) hF3 (.int (nI (fX w S kd td mo kt a (a + 1 + j)))) rfl
        refine ⟨w5, u5, hu5, c5, hF5, fun Q => ?_⟩
        rw [← e5 Q, X31_36, hfs]
        have hok : (decide (a + 1 + j < 20) && decide (a < a + 1 + j) && besN a (a + 1 + j) && !cbN (x_i w 24) a (a + 1 + j)) = true := by
          rw [decide_eq_true hb.1, decide_eq_true (show a < a + 1 + j by omega), hb.2, hcf]
          rfl
        by_cases hl : fX w S kd td mo kt a (a + 1 + j) < (fo (fun n => mdG (x_i w 24) (fX w S kd td mo kt) a (a + 1 + n)) j p).2
        · have hm : mdG (x_i w 24) (fX w S kd td mo kt) a (a + 1 + j) (fo (fun n => mdG (x_i w 24) (fX w S kd td mo kt) a (a + 1 + n)) j p) = (nI (100 * a + (a + 1 + j)), fX w S kd td mo kt a (a + 1 + j)) := if_pos ⟨hok, hl⟩
          rw [hm]
          simp only [X31_0, X31_1, X31_4, X31_7, X31_9, X31_10, X31_11, X31_12, X31_13, X31_16, X31_19, X31_20, X31_21, X31_23, X31_25, X31_27, X31_30, X31_32, X31_33, X31_34, X31_38, X31_40, X31_41, X31_42, X31_45, X31_47, X31_49, X31_52, X31_55, X31_56, X31_59, X31_61, X31_63, X31_66, X31_72, X31_73, X31_76, X31_78, X31_80, X31_81, X31_84, X31_85, X31_88, X31_91, X31_93, X31_94, X31_97, X31_99, X31_101, X31_102, X31_105, X31_107, X31_108, X31_111, X31_113, X31_114, X31_116, X31_118, X31_119, X31_121, X31_122, X31_123, X31_126, X31_129, X31_132, X31_135, X31_136, X31_139, X31_140, X31_143, X31_144, Nat.zero_le, and_true, true_and, x_nb0, x_nb1, x_nbp, x_isL_int, x_isL_ref, x_isL_junk, x_isR_ref, x_cat_nil, x_cat_int, x_cat_ref, x_cat_long, Option.toList_some, Option.toList_none, List.cons_append, List.nil_append, Nat.reduceAdd, Nat.reduceLeDiff, Nat.reduceLT, t_tag_si, t_tag_sr, t_tag_sI, x_r_si, x_i_sr, t_r_sI, x_ia_si, x_ia_sI, x_ia_sr, x_ra_si, x_ra_sI, x_ra_sr, h6, nI_add, ngt, if_false, if_true, e86', n10, g_t0 hs1, g_r0_5 hs1, g_t23 hs1, e88, e87, g_t0 hsT, g_r0_4 hsT, g_t22 hsT, e3, g_t0 hs3, g_r0_5 hs3, g_t23 hs3, e87', nI_leF hl (show (fo (fun n => mdG (x_i w 24) (fX w S kd td mo kt) a (a + 1 + n)) j p).2 < 2 ^ 31 by omega), nI_mul]
          rfl
        · have hm : mdG (x_i w 24) (fX w S kd td mo kt) a (a + 1 + j) (fo (fun n => mdG (x_i w 24) (fX w S kd td mo kt) a (a + 1 + n)) j p) = fo (fun n => mdG (x_i w 24) (fX w S kd td mo kt) a (a + 1 + n)) j p := if_neg (fun q => hl q.2)
          rw [hm]
          have hfx9 := fX_9 (w := w) (S := S) (kd := kd) (td := td) (mo := mo) (kt := kt) a (a + 1 + j)
          simp only [X31_0, X31_1, X31_4, X31_7, X31_9, X31_10, X31_11, X31_12, X31_13, X31_16, X31_19, X31_20, X31_21, X31_23, X31_25, X31_27, X31_30, X31_32, X31_33, X31_34, X31_38, X31_40, X31_41, X31_42, X31_45, X31_47, X31_49, X31_52, X31_55, X31_56, X31_59, X31_61, X31_63, X31_66, X31_72, X31_73, X31_76, X31_78, X31_80, X31_81, X31_84, X31_85, X31_88, X31_91, X31_93, X31_94, X31_97, X31_99, X31_101, X31_102, X31_105, X31_107, X31_108, X31_111, X31_113, X31_114, X31_116, X31_118, X31_119, X31_121, X31_122, X31_123, X31_126, X31_129, X31_132, X31_135, X31_136, X31_139, X31_140, X31_143, X31_144, Nat.zero_le, and_true, true_and, x_nb0, x_nb1, x_nbp, x_isL_int, x_isL_ref, x_isL_junk, x_isR_ref, x_cat_nil, x_cat_int, x_cat_ref, x_cat_long, Option.toList_some, Option.toList_none, List.cons_append, List.nil_append, Nat.reduceAdd, Nat.reduceLeDiff, Nat.reduceLT, t_tag_si, t_tag_sr, t_tag_sI, x_r_si, x_i_sr, t_r_sI, x_ia_si, x_ia_sI, x_ia_sr, x_ra_si, x_ra_sI, x_ra_sr, h6, nI_add, ngt, if_false, if_true, e86', n10, g_t0 hs1, g_r0_5 hs1, g_t23 hs1, e88, e87, g_t0 hsT, g_r0_4 hsT, g_t22 hsT, e3, g_t0 hs3, g_r0_5 hs3, g_t23 hs3, e87', nI_leT (Nat.not_lt.mp hl) (show fX w S kd td mo kt a (a + 1 + j) < 2 ^ 31 by omega)]
          rfl
    · have hnb : ¬ bes (nI a) (nI (a + 1 + j)) := fun q => hb (by
        have q1 := q.2.2
        rw [nI_cl (by omega), nI_cl (by omega)] at q1
        refine ⟨?_, q1⟩
        have q2 := q.2.1.2
        have := (nI_leI (show a + 1 + j < 2 ^ 31 by omega) (show 19 < 2 ^ 31 by decide)).mp q2
        omega)
      have e86' : ∀ Q', X_R L xs (d + 11) 86 0 [.int (nI a), .int (nI (a + 1 + j)), x_junk] [] w1 Q' = Q' (some (.int (nI 0))) w1 := fun Q' => by rw [e86 Q', @bI_f _ (bes_dec _ _) hnb]
      have hno : (decide (a + 1 + j < 20) && decide (a < a + 1 + j) && besN a (a + 1 + j) && !cbN (x_i w 24) a (a + 1 + j)) = false := by
        by_cases h20 : a + 1 + j < 20
        · have : besN a (a + 1 + j) = false := by
            cases hq : besN a (a + 1 + j) with
            | false => rfl
            | true => exact absurd ⟨h20, hq⟩ hb
          rw [this, Bool.and_false, Bool.false_and]
        · rw [decide_eq_false h20]
          rfl
      obtain ⟨w4, u4, hu4, c4, hF4, e4⟩ := ih (j + 1) (by omega) w1 c1 hF1 u6 h6
      refine ⟨w4, u4, hu4, c4, hF4, fun Q => ?_⟩
      rw [hfs, mdG_no hno] at e4
      rw [← e4 Q, X31_36]
      simp only [X31_38, X31_40, X31_41, X31_42, X31_45, X31_47, X31_49, X31_52, X31_123, X31_126, Nat.zero_le, and_true, true_and, x_nb0, x_nb1, x_nbp, x_isL_int, x_isL_ref, x_isL_junk, x_isR_ref, x_cat_nil, x_cat_int, x_cat_ref, x_cat_long, Option.toList_some, Option.toList_none, List.cons_append, List.nil_append, Nat.reduceAdd, Nat.reduceLeDiff, Nat.reduceLT, t_tag_si, t_tag_sr, t_tag_sI, x_r_si, x_i_sr, t_r_sI, x_ia_si, x_ia_sI, x_ia_sr, x_ra_si, x_ra_sI, x_ra_sr, nI_add, ngt, if_false, e86', if_true]
      rfl
theorem S31o (h : CX w S kd td mo kt) (hC : CdM (x_i w 24)) (hSy : Sy (x_i w 24)) (v : Int32) (p : Int32 × Nat) (hp : p.2 ≤ 999) : ∀ n j, j + n = 20 → ∀ w1, Ch (sc [25, 26, 27]) w w1 → FarOk w1 → ∀ u5 u6 : Value, x_isL u5 = false → x_isL u6 = false → ∃ w2 u u', Ch (sc [25, 26, 27]) w w2 ∧ FarOk w2 ∧ ∀ Q, X_R L xs (d + 12) 31 23 [.ref 0, .int v, .int (fo (fun a q => fo (fun n => mdG (x_i w 24) (fX w S kd td mo kt) a (a + 1 + n)) 5 q) j p).1, .int (nI (fo (fun a q => fo (fun n => mdG (x_i w 24) (fX w S kd td mo kt) a (a + 1 + n)) 5 q) j p).2), .int (nI j), u5, u6] [] w1 Q = X_R L xs (d + 12) 31 135 [.ref 0, .int v, .int (fo (fun a q => fo (fun n => mdG (x_i w 24) (fX w S kd td mo kt) a (a + 1 + n)) 5 q) 20 p).1, .int (nI (fo (fun a q => fo (fun n => mdG (x_i w 24) (fX w S kd td mo kt) a (a + 1 + n)) 5 q) 20 p).2), .int (nI 20), u, u'] [] w2 Q := by
  intro n
  induction n with
  | zero =>
    intro j hj w1 c1 hF1 u5 u6 h5 h6
    obtain rfl : j = 20 := by omega
    refine ⟨w1, u5, u6, c1, hF1, fun Q => ?_⟩
    rw [X31_23]
    simp only [X31_25, X31_27, Nat.zero_le, and_true, true_and, x_nb0, x_nb1, x_nbp, x_isL_int, x_isL_ref, x_isL_junk, x_isR_ref, x_cat_nil, x_cat_int, x_cat_ref, x_cat_long, Option.toList_some, Option.toList_none, List.cons_append, List.nil_append, Nat.reduceAdd, Nat.reduceLeDiff, Nat.reduceLT, t_tag_si, t_tag_sr, t_tag_sI, x_r_si, x_i_sr, t_r_sI, x_ia_si, x_ia_sI, x_ia_sr, x_ra_si, x_ra_sI, x_ra_sr, nI_leT (Nat.le_refl 20) (show 20 < 2 ^ 31 by decide), if_true]
  | succ n ih =>
    intro j hj w1 c1 hF1 u5 u6 h5 h6
    have hX1 := h.s c1 rfl
    have e24 : x_i w1 24 = x_i w 24 := c1.i (fun _ => rfl)
    have hq9 : (fo (fun a q => fo (fun n => mdG (x_i w 24) (fX w S kd td mo kt) a (a + 1 + n)) 5 q) j p).2 ≤ 999 := fo_le (M := 999) (fun a q hq => fo_le (M := 999) (fun i q hq => mdG_le (M := 999) fX_9 a _ hq) 5 hq) j hp
    obtain ⟨w2, u, hu, c2, hF2, e2⟩ := S31i (L := L) (xs := xs) (d := d) h hC hSy v (show j < 20 by omega) (fo (fun a q => fo (fun n => mdG (x_i w 24) (fX w S kd td mo kt) a (a + 1 + n)) 5 q) j p) hq9 5 0 rfl w1 c1 hF1 u6 h6
    obtain ⟨w3, u3, u3', c3, hF3, e3⟩ := ih (j + 1) (by omega) w2 c2 hF2 (.int (nI (j + 1 + 5))) u rfl hu
    refine ⟨w3, u3, u3', c3, hF3, fun Q => ?_⟩
    rw [← e3 Q, X31_23]
    simp only [X31_25, X31_27, X31_30, X31_32, X31_33, X31_34, Nat.zero_le, and_true, true_and, x_nb0, x_nb1, x_nbp, x_isL_int, x_isL_ref, x_isL_junk, x_isR_ref, x_cat_nil, x_cat_int, x_cat_ref, x_cat_long, Option.toList_some, Option.toList_none, List.cons_append, List.nil_append, Nat.reduceAdd, Nat.reduceLeDiff, Nat.reduceLT, t_tag_si, t_tag_sr, t_tag_sI, x_r_si, x_i_sr, t_r_sI, x_ia_si, x_ia_sI, x_ia_sr, x_ra_si, x_ra_sI, x_ra_sr, h5, h6, nI_leF (show j < 20 by omega) (show 20 < 2 ^ 31 by decide), if_false, nI_add]
    refine (e2 Q).trans ?_
    simp only [X31_129, X31_132, Nat.zero_le, and_true, true_and, x_nb0, x_nb1, x_nbp, x_isL_int, x_isL_ref, x_isL_junk, x_isR_ref, x_cat_nil, x_cat_int, x_cat_ref, x_cat_long, Option.toList_some, Option.toList_none, List.cons_append, List.nil_append, Nat.reduceAdd, Nat.reduceLeDiff, Nat.reduceLT, t_tag_si, t_tag_sr, t_tag_sI, x_r_si, x_i_sr, t_r_sI, x_ia_si, x_ia_sI, x_ia_sr, x_ra_si, x_ra_sI, x_ra_sr, nI_add]
    rfl
theorem n400 : ¬ nI 400 = nI 0 := by decide
theorem S210l (h : CM w S kd td mo kt) (hC : CdM (x_i w 42)) (hSy : Sy (x_i w 42)) (v : Int32) (p : Int32 × Nat) (hp : p.2 ≤ 999) : ∀ n j, j + n = 400 → ∀ w1, Ch (sm [60, 61, 62]) w w1 → ∀ u5 u6 u7 : Value, x_isL u5 = false → x_isL u6 = false → x_isL u7 = false → ∃ w2 u u' u'', Ch (sm [60, 61, 62]) w w2 ∧ ∀ Q, X_R L xs (d + 12) 210 22 [.ref 41, .int v, .int (fo (fun k => mdG (x_i w 42) (fM w S kd td mo kt) (k / 20) (k % 20)) j p).1, .int (nI (fo (fun k => mdG (x_i w 42) (fM w S kd td mo kt) (k / 20) (k % 20)) j p).2), .int (nI j), u5, u6, u7] [] w1 Q = X_R L xs (d + 12) 210 134 [.ref 41, .int v, .int (fo (fun k => mdG (x_i w 42) (fM w S kd td mo kt) (k / 20) (k % 20)) 400 p).1, .int (nI (fo (fun k => mdG (x_i w 42) (fM w S kd td mo kt) (k / 20) (k % 20)) 400 p).2), .int (nI 400), u, u', u''] [] w2 Q := by
  intro n
  induction n with
  | zero =>
    intro j hj w1 c1 u5 u6 u7 h5 h6 h7
    obtain rfl : j = 400 := by omega
    refine ⟨w1, u5, u6, u7, c1, fun Q => ?_⟩
    rw [X210_22]
    simp only [X210_24, X210_27, Nat.zero_le, and_true, true_and, x_nb0, x_nb1, x_nbp, x_isL_int, x_isL_ref, x_isL_junk, x_isR_ref, x_cat_nil, x_cat_int, x_cat_ref, x_cat_long, Option.toList_some, Option.toList_none, List.cons_append, List.nil_append, Nat.reduceAdd, Nat.reduceLeDiff, Nat.reduceLT, t_tag_si, t_tag_sr, t_tag_sI, x_r_si, x_i_sr, t_r_sI, x_ia_si, x_ia_sI, x_ia_sr, x_ra_si, x_ra_sI, x_ra_sr, nI_leT (Nat.le_refl 400) (show 400 < 2 ^ 31 by decide), if_true]
  | succ n ih =>
    intro j hj w1 c1 u5 u6 u7 h5 h6 h7
    have hX1 := h.m c1 rfl
    have hs1 := hX1.sh
    have e42 : x_i w1 42 = x_i w 42 := c1.i (fun _ => rfl)
    obtain ⟨dq, rq⟩ := dv20 j (by omega)
    have hfs : fo (fun k => mdG (x_i w 42) (fM w S kd td mo kt) (k / 20) (k % 20)) (j + 1) p = mdG (x_i w 42) (fM w S kd td mo kt) (j / 20) (j % 20) (fo (fun k => mdG (x_i w 42) (fM w S kd td mo kt) (k / 20) (k % 20)) j p) := rfl
    have hfl : (fo (fun k => mdG (x_i w 42) (fM w S kd td mo kt) (k / 20) (k % 20)) j p).2 ≤ 999 := fo_le (M := 999) (fun i q hq => mdG_le (M := 999) fM_9 _ _ hq) j hp
    have ha : j / 20 < 20 := by omega
    have hb20 : j % 20 < 20 := by omega
    have lt := nI_leF (show j < 400 by omega) (show 400 < 2 ^ 31 by decide)
    generalize hP : fo (fun k => mdG (x_i w 42) (fM w S kd td mo kt) (k / 20) (k % 20)) j p = P at *
    have ih' := ih (j + 1) (by omega)
    rw [hfs] at ih'
    generalize j / 20 = a at *
    generalize j % 20 = b at *
    have e136 := fun (Q' : Option Value → x_W → Prop) => @S136 L xs (d + 9) w1 Q' (nI a) (nI b) (bes_dec _ _)
    have hax := x_ix_nI ha (show 20 < 2 ^ 31 by decide)
    have e152 := fun (Q' : Option Value → x_W → Prop) => S152 (L := L) (xs := xs) (d := d + 11) (Q := Q') (b := nI b) hs1 hax
    rw [nI_cl (show a < 2 ^ 31 by omega), e42] at e152
    by_cases hab : a < b
    · have lab := nI_leF hab (show b < 2 ^ 31 by omega)
      by_cases hb : besN a b = true
      · have hbes : bes (nI a) (nI b) := ⟨kn_nI ha, kn_nI hb20, by rw [nI_cl (by omega), nI_cl (by omega)]; exact hb⟩
        have e136' : ∀ Q', X_R L xs (d + 11) 136 0 [.int (nI a), .int (nI b)] [] w1 Q' = Q' (some (.int (nI 1))) w1 := fun Q' => by rw [e136 Q', @bI_t _ (bes_dec _ _) hbes]
        by_cases hc : cbN (x_i w 42) a b = true
        · have hbv : bv (x_i w 42 a) (nI b) = nI 1 := by unfold cbN at hc; exact decide_eq_true_eq.mp hc
          rw [hbv] at e152
          obtain ⟨w4, v5, v6, v7, c4, e4⟩ := ih' w1 c1 (.int (nI a)) (.int (nI b)) u7 rfl rfl h7
          refine ⟨w4, v5, v6, v7, c4, fun Q => ?_⟩
          rw [mdG_no (by rw [hc]; simp)] at e4
          rw [← e4 Q, X210_22]
          simp only [X210_24, X210_27, X210_30, X210_32, X210_34, X210_35, X210_37, X210_39, X210_41, X210_42, X210_44, X210_46, X210_48, X210_51, X210_53, X210_55, X210_58, X210_61, X210_62, X210_64, X210_66, X210_69, X210_128, X210_131, Nat.zero_le, and_true, true_and, x_nb0, x_nb1, x_nbp, x_isL_int, x_isL_ref, x_isL_junk, x_isR_ref, x_cat_nil, x_cat_int, x_cat_ref, x_cat_long, Option.toList_some, Option.toList_none, List.cons_append, List.nil_append, Nat.reduceAdd, Nat.reduceLeDiff, Nat.reduceLT, t_tag_si, t_tag_sr, t_tag_sI, x_r_si, x_i_sr, t_r_sI, x_ia_si, x_ia_sI, x_ia_sr, x_ra_si, x_ra_sI, x_ra_sr, h5, h6, lt, if_false, n20_0, not_false_eq_true, dq, rq, lab, e136', n10, g_t41 hs1, e152, nI_add]
        · have hcf := Bool.not_eq_true _ |>.mp hc
          have hbv : bv (x_i w 42 a) (nI b) = nI 0 := by
            rcases bv_cases (x_i w 42 a) (nI b) with q | q
            · exact q
            · exact absurd (show cbN (x_i w 42) a b = true from decide_eq_true q) hc
          rw [hbv] at e152
          obtain ⟨w3, hs3, c3, e3⟩ := mendM (L := L) (xs := xs) (d := d + 8) hX1 (by rw [e42]; exact hC) (by rw [e42]; exact hSy) ha hb20 hb (by rw [e42]; exact hcf)
          rw [fM_m c1 rfl rfl] at e3
          have e153 := fun (Q' : Option Value → x_W → Prop) => S153 (L := L) (xs := xs) (d := d + 11) (Q := Q') (v := nI 1) hs1 (kn_nI ha) (kn_nI hb20)
          have e153' := fun (Q' : Option Value → x_W → Prop) => S153 (L := L) (xs := xs) (d := d + 11) (Q := Q') (v := nI 0) hs3 (kn_nI ha) (kn_nI hb20)
          have hsT : Sh (x_sI w1 42 (putC (x_i w1 42) (nI a) (nI b) (nI 1))) := hs1
          generalize hw4 : x_sI w3 42 (putC (x_i w3 42) (nI a) (nI b) (nI 0)) = w4 at c3 e153'
          generalize hwT : x_sI w1 42 (putC (x_i w1 42) (nI a) (nI b) (nI 1)) = wT at e153 e3 hsT
          obtain ⟨w5, v5, v6, v7, c5, e5⟩ := ih' w4 (c1.trans c3) (.int (nI a)) (.int (nI b)) (.int (nI (fM w S kd td mo kt a b))) rfl rfl rfl
          refine ⟨w5, v5, v6, v7, c5, fun Q => ?_⟩
          rw [← e5 Q, X210_22]
          have hok : (decide (b < 20) && decide (a < b) && besN a b && !cbN (x_i w 42) a b) = true := by
            rw [decide_eq_true hb20, decide_eq_true hab, hb, hcf]
            rfl
          by_cases hl : fM w S kd td mo kt a b < P.2
          · have hm : mdG (x_i w 42) (fM w S kd td mo kt) a b P = (nI (100 * a + b), fM w S kd td mo kt a b) := if_pos ⟨hok, hl⟩
            rw [hm]
            simp only [X210_0, X210_1, X210_2, X210_3, X210_6, X210_9, X210_11, X210_12, X210_13, X210_14, X210_15, X210_18, X210_19, X210_20, X210_24, X210_27, X210_30, X210_32, X210_34, X210_35, X210_37, X210_39, X210_41, X210_42, X210_44, X210_46, X210_48, X210_51, X210_53, X210_55, X210_58, X210_61, X210_62, X210_64, X210_66, X210_69, X210_72, X210_73, X210_75, X210_77, X210_78, X210_81, X210_82, X210_85, X210_87, X210_88, X210_90, X210_92, X210_93, X210_96, X210_98, X210_99, X210_102, X210_104, X210_106, X210_107, X210_109, X210_110, X210_113, X210_114, X210_115, X210_117, X210_118, X210_121, X210_123, X210_126, X210_127, X210_128, X210_131, X210_134, X210_135, X210_138, X210_139, X210_142, X210_143, Nat.zero_le, and_true, true_and, x_nb0, x_nb1, x_nbp, x_isL_int, x_isL_ref, x_isL_junk, x_isR_ref, x_cat_nil, x_cat_int, x_cat_ref, x_cat_long, Option.toList_some, Option.toList_none, List.cons_append, List.nil_append, Nat.reduceAdd, Nat.reduceLeDiff, Nat.reduceLT, t_tag_si, t_tag_sr, t_tag_sI, x_r_si, x_i_sr, t_r_sI, x_ia_si, x_ia_sI, x_ia_sr, x_ra_si, x_ra_sI, x_ra_sr, h5, h6, h7, lt, if_false, if_true, n20_0, not_false_eq_true, dq, rq, lab, e136', n10, g_t41 hs1, e152, e153, g_t41 hsT, e3, g_t41 hs3, e153', nI_leF hl (show P.2 < 2 ^ 31 by omega), nI_mul 100 a, nI_add]
          · have hm : mdG (x_i w 42) (fM w S kd td mo kt) a b P = P := if_neg (fun q => hl q.2)
            rw [hm]
            have hfx9 := fM_9 (w := w) (S := S) (kd := kd) (td := td) (mo := mo) (kt := kt) a b
            simp only [X210_0, X210_1, X210_2, X210_3, X210_6, X210_9, X210_11, X210_12, X210_13, X210_14, X210_15, X210_18, X210_19, X210_20, X210_24, X210_27, X210_30, X210_32, X210_34, X210_35, X210_37, X210_39, X210_41, X210_42, X210_44, X210_46, X210_48, X210_51, X210_53, X210_55, X210_58, X210_61, X210_62, X210_64, X210_66, X210_69, X210_72, X210_73, X210_75, X210_77, X210_78, X210_81, X210_82, X210_85, X210_87, X210_88, X210_90, X210_92, X210_93, X210_96, X210_98, X210_99, X210_102, X210_104, X210_106, X210_107, X210_109, X210_110, X210_113, X210_114, X210_115, X210_117, X210_118, X210_121, X210_123, X210_126, X210_127, X210_128, X210_131, X210_134, X210_135, X210_138, X210_139, X210_142, X210_143, Nat.zero_le, and_true, true_and, x_nb0, x_nb1, x_nbp, x_isL_int, x_isL_ref, x_isL_junk, x_isR_ref, x_cat_nil, x_cat_int, x_cat_ref, x_cat_long, Option.toList_some, Option.toList_none, List.cons_append, List.nil_append, Nat.reduceAdd, Nat.reduceLeDiff, Nat.reduceLT, t_tag_si, t_tag_sr, t_tag_sI, x_r_si, x_i_sr, t_r_sI, x_ia_si, x_ia_sI, x_ia_sr, x_ra_si, x_ra_sI, x_ra_sr, h5, h6, h7, lt, if_false, if_true, n20_0, not_false_eq_true, dq, rq, lab, e136', n10, g_t41 hs1, e152, e153, g_t41 hsT, e3, g_t41 hs3, e153', nI_leT (Nat.not_lt.mp hl) (show fM w S kd td mo kt a b < 2 ^ 31 by omega), nI_add]
      · have hbf := Bool.not_eq_true _ |>.mp hb
        have hnb : ¬ bes (nI a) (nI b) := fun q => hb (by
          have q1 := q.2.2
          rw [nI_cl (by omega), nI_cl (by omega)] at q1
          exact q1)
        have e136' : ∀ Q', X_R L xs (d + 11) 136 0 [.int (nI a), .int (nI b)] [] w1 Q' = Q' (some (.int (nI 0))) w1 := fun Q' => by rw [e136 Q', @bI_f _ (bes_dec _ _) hnb]
        obtain ⟨w4, v5, v6, v7, c4, e4⟩ := ih' w1 c1 (.int (nI a)) (.int (nI b)) u7 rfl rfl h7
        refine ⟨w4, v5, v6, v7, c4, fun Q => ?_⟩
        rw [mdG_no (by rw [hbf]; simp)] at e4
        rw [← e4 Q, X210_22]
        simp only [X210_24, X210_27, X210_30, X210_32, X210_34, X210_35, X210_37, X210_39, X210_41, X210_42, X210_44, X210_46, X210_48, X210_51, X210_53, X210_55, X210_58, X210_128, X210_131, Nat.zero_le, and_true, true_and, x_nb0, x_nb1, x_nbp, x_isL_int, x_isL_ref, x_isL_junk, x_isR_ref, x_cat_nil, x_cat_int, x_cat_ref, x_cat_long, Option.toList_some, Option.toList_none, List.cons_append, List.nil_append, Nat.reduceAdd, Nat.reduceLeDiff, Nat.reduceLT, t_tag_si, t_tag_sr, t_tag_sI, x_r_si, x_i_sr, t_r_sI, x_ia_si, x_ia_sI, x_ia_sr, x_ra_si, x_ra_sI, x_ra_sr, h5, h6, lt, if_false, if_true, n20_0, not_false_eq_true, dq, rq, lab, e136', nI_add]
    · have lab := nI_leT (Nat.not_lt.mp hab) (show a < 2 ^ 31 by omega)
      obtain ⟨w4, v5, v6, v7, c4, e4⟩ := ih' w1 c1 (.int (nI a)) (.int (nI b)) u7 rfl rfl h7
      refine ⟨w4, v5, v6, v7, c4, fun Q => ?_⟩
      rw [mdG_no (by rw [decide_eq_false hab]; simp)] at e4
      rw [← e4 Q, X210_22]
      simp only [X210_24, X210_27, X210_30, X210_32, X210_34, X210_35, X210_37, X210_39, X210_41, X210_42, X210_44, X210_46, X210_48, X210_128, X210_131, Nat.zero_le, and_true, true_and, x_nb0, x_nb1, x_nbp, x_isL_int, x_isL_ref, x_isL_junk, x_isR_ref, x_cat_nil, x_cat_int, x_cat_ref, x_cat_long, Option.toList_some, Option.toList_none, List.cons_append, List.nil_append, Nat.reduceAdd, Nat.reduceLeDiff, Nat.reduceLT, t_tag_si, t_tag_sr, t_tag_sI, x_r_si, x_i_sr, t_r_sI, x_ia_si, x_ia_sI, x_ia_sr, x_ra_si, x_ra_sI, x_ra_sr, h5, h6, lt, if_false, if_true, n20_0, not_false_eq_true, dq, rq, lab, nI_add]
theorem AQ_mend (h : AG w S kd td mo kt tl tk) (v : Int32) : AQ L xs (d + 12) 31 210 [.ref 0, .int v, x_junk, x_junk, x_junk, x_junk, x_junk] [.ref 41, .int v, x_junk, x_junk, x_junk, x_junk, x_junk, x_junk] w := by
  have hs := h.1.sh
  have h01 : bI (nI 0 ≤ v ∧ v ≤ nI 1) = bI (v = nI 0 ∨ v = nI 1) := bI_c (by rw [in01])
  by_cases h2 : v = nI 0 ∨ v = nI 1
  · have e4 := fun (w : x_W) (Q' : Option Value → x_W → Prop) => b4_t (L := L) (xs := xs) (d := d + 11) (w := w) (Q := Q') h2
    have e138 := fun (w : x_W) (Q' : Option Value → x_W → Prop) => b138_t (L := L) (xs := xs) (d := d + 11) (w := w) (Q := Q') h2
    obtain ⟨w1, c1, e1⟩ := S73c (L := L) (xs := xs) (d := d + 7) h.1.1
    have hX1 := h.1.1.m c1 rfl
    have e1C : x_i w1 24 = x_i w 24 := c1.i (fun _ => rfl)
    have hF1 := h.1.2.2.m c1 rfl rfl rfl
    obtain ⟨w2, u2, u2', c2, hF2, e2⟩ := S31o (L := L) (xs := xs) (d := d) hX1 (by rw [e1C]; exact h.2.2.2.1) (by rw [e1C]; exact h.2.2.2.2) v (-1, hdC (x_i w 24) (x_i w 23 1) (XL S kd td mo kt)) (hdC_le _ _ _) 20 0 rfl w1 Ch.refl hF1 x_junk x_junk rfl rfl
    have c02 : Ch (sc [25, 26, 27]) w w2 := c1.ms.trans c2
    have cA := c02.a (rfl)
    have eC : ∀ k, k < 20 → x_i w 24 k = x_i w 42 k := h.2.2.1.1
    have eT : x_i w 23 1 = x_i w 41 1 := h.2.2.1.2
    obtain ⟨w3, c3, e3⟩ := S211c (L := L) (xs := xs) (d := d + 8) (h.2.1.1.ch cA)
    have hM3 := (h.2.1.1.ch cA).m c3 rfl
    have e3C : x_i w3 42 = x_i w 42 := (c3.i (fun _ => rfl)).trans (EM.C cA)
    have e3T : x_i w3 41 1 = x_i w 41 1 := (c3.2.2 41 1 rfl).trans (cA.2.2 41 1 rfl)
    have e2C : x_i w2 42 = x_i w 42 := EM.C cA
    have e2T : x_i w2 41 1 = x_i w 41 1 := cA.2.2 41 1 rfl
    have hC42 : CdM (x_i w 42) := fun k hk => by rw [← eC k hk]; exact h.2.2.2.1 k hk
    have hS42 : Sy (x_i w 42) := fun k o hk ho => by rw [← eC k hk, ← eC o ho]; exact h.2.2.2.2 k o hk ho
    obtain ⟨w4, u4, u4', u4'', c4, e4'⟩ := S210l (L := L) (xs := xs) (d := d) hM3 (by rw [e3C]; exact hC42) (by rw [e3C]; exact hS42) v (-1, hdC (x_i w 24) (x_i w 23 1) (XL S kd td mo kt)) (hdC_le _ _ _) 400 0 rfl w3 Ch.refl x_junk x_junk x_junk rfl rfl rfl
    rw [e2C, e2T, ← eT, ← hdC_cg eC] at e3
    have efM : ∀ a b, a < 20 → b < 20 → fM w3 S kd td mo kt a b = fX w S kd td mo kt a b := by
      intro a b ha hb
      unfold fM fX
      rw [e3C, e3T, ← eT]
      refine (hdC_cg (fun k hk => ?_) _ _).symm
      unfold putC
      rw [nI_cl (by omega), nI_cl (by omega)]
      unfold upd
      by_cases hkb : k = b
      · subst hkb
        rw [if_pos rfl, if_pos rfl]
        by_cases hka : k = a
        · subst hka; rw [if_pos rfl, if_pos rfl, eC k hk]
        · rw [if_neg hka, if_neg hka, eC k hk]
      · rw [if_neg hkb, if_neg hkb]
        by_cases hka : k = a
        · subst hka; rw [if_pos rfl, if_pos rfl, eC k hk]
        · rw [if_neg hka, if_neg hka, eC k hk]
    have eRR : fo (fun k => mdG (x_i w3 42) (fM w3 S kd td mo kt) (k / 20) (k % 20)) 400 (-1, hdC (x_i w 24) (x_i w 23 1) (XL S kd td mo kt)) = fo (fun a q => fo (fun n => mdG (x_i w1 24) (fX w1 S kd td mo kt) a (a + 1 + n)) 5 q) 20 (-1, hdC (x_i w 24) (x_i w 23 1) (XL S kd td mo kt)) := by
      rw [← mdG_all]
      refine fo_cg 400 _ (fun k hk q => ?_)
      refine mdG_cg (fun i hi => ?_) (fun a b ha hb => ?_) (by omega) q
      · rw [e3C, e1C]; exact (eC i hi).symm
      · rw [efM a b ha hb, fX_m c1.ms rfl rfl]
    rw [eRR] at e4'
    have hs2 := c02.sh hs
    generalize hR : fo (fun a q => fo (fun n => mdG (x_i w1 24) (fX w1 S kd td mo kt) a (a + 1 + n)) 5 q) 20 (-1, hdC (x_i w 24) (x_i w 23 1) (XL S kd td mo kt)) = R at e2 e4'
    refine ⟨.int (if v = nI 0 then R.1 else nI R.2), w2, w4, cA.trans ((c3.trans c4).ma rfl), (hF2.m c3 rfl rfl rfl).m c4 rfl rfl rfl, fun Q => ?_, fun Q => ?_⟩
    · have e0 : X_R L xs (d + 12) 31 0 [.ref 0, .int v, x_junk, x_junk, x_junk, x_junk, x_junk] [] w Q = X_R L xs (d + 12) 31 23 [.ref 0, .int v, .int (-1), .int (nI (hdC (x_i w 24) (x_i w 23 1) (XL S kd td mo kt))), .int (nI 0), x_junk, x_junk] [] w1 Q := by
        simp only [X31_0, X31_1, X31_4, X31_10, X31_11, X31_12, X31_13, X31_16, X31_19, X31_20, X31_21, Nat.zero_le, and_true, true_and, x_nb0, x_nb1, x_nbp, x_isL_int, x_isL_ref, x_isL_junk, x_isR_ref, x_cat_nil, x_cat_int, x_cat_ref, x_cat_long, Option.toList_some, Option.toList_none, List.cons_append, List.nil_append, Nat.reduceAdd, Nat.reduceLeDiff, Nat.reduceLT, t_tag_si, t_tag_sr, t_tag_sI, x_r_si, x_i_sr, t_r_sI, x_ia_si, x_ia_sI, x_ia_sr, x_ra_si, x_ra_sI, x_ra_sr, e4, n10, if_false, g_t0 hs, g_r0_4 hs, g_t22 hs, e1]
      rw [e0]
      refine (e2 Q).trans ?_
      by_cases hv : v = nI 0
      · simp only [X31_135, X31_136, X31_139, X31_140, X31_144, Nat.zero_le, and_true, true_and, x_nb0, x_nb1, x_nbp, x_isL_int, x_isL_ref, x_isL_junk, x_isR_ref, x_cat_nil, x_cat_int, x_cat_ref, x_cat_long, Option.toList_some, Option.toList_none, List.cons_append, List.nil_append, Nat.reduceAdd, Nat.reduceLeDiff, Nat.reduceLT, t_tag_si, t_tag_sr, t_tag_sI, x_r_si, x_i_sr, t_r_sI, x_ia_si, x_ia_sI, x_ia_sr, x_ra_si, x_ra_sI, x_ra_sr, hv, if_true]
      · simp only [X31_135, X31_136, X31_143, X31_144, Nat.zero_le, and_true, true_and, x_nb0, x_nb1, x_nbp, x_isL_int, x_isL_ref, x_isL_junk, x_isR_ref, x_cat_nil, x_cat_int, x_cat_ref, x_cat_long, Option.toList_some, Option.toList_none, List.cons_append, List.nil_append, Nat.reduceAdd, Nat.reduceLeDiff, Nat.reduceLT, t_tag_si, t_tag_sr, t_tag_sI, x_r_si, x_i_sr, t_r_sI, x_ia_si, x_ia_sI, x_ia_sr, x_ra_si, x_ra_sI, x_ra_sr, hv, if_false]
    · have e0 : X_R L xs (d + 12) 210 0 [.ref 41, .int v, x_junk, x_junk, x_junk, x_junk, x_junk, x_junk] [] w2 Q = X_R L xs (d + 12) 210 22 [.ref 41, .int v, .int (-1), .int (nI (hdC (x_i w 24) (x_i w 23 1) (XL S kd td mo kt))), .int (nI 0), x_junk, x_junk, x_junk] [] w3 Q := by
        simp only [X210_0, X210_1, X210_2, X210_3, X210_6, X210_12, X210_13, X210_14, X210_15, X210_18, X210_19, X210_20, Nat.zero_le, and_true, true_and, x_nb0, x_nb1, x_nbp, x_isL_int, x_isL_ref, x_isL_junk, x_isR_ref, x_cat_nil, x_cat_int, x_cat_ref, x_cat_long, Option.toList_some, Option.toList_none, List.cons_append, List.nil_append, Nat.reduceAdd, Nat.reduceLeDiff, Nat.reduceLT, t_tag_si, t_tag_sr, t_tag_sI, x_r_si, x_i_sr, t_r_sI, x_ia_si, x_ia_sI, x_ia_sr, x_ra_si, x_ra_sI, x_ra_sr, e138, n10, if_false, g_t41 hs2, e3]
      rw [e0]
      refine (e4' Q).trans ?_
      by_cases hv : v = nI 0
      · simp only [X210_134, X210_135, X210_138, X210_139, X210_143, Nat.zero_le, and_true, true_and, x_nb0, x_nb1, x_nbp, x_isL_int, x_isL_ref, x_isL_junk, x_isR_ref, x_cat_nil, x_cat_int, x_cat_ref, x_cat_long, Option.toList_some, Option.toList_none, List.cons_append, List.nil_append, Nat.reduceAdd, Nat.reduceLeDiff, Nat.reduceLT, t_tag_si, t_tag_sr, t_tag_sI, x_r_si, x_i_sr, t_r_sI, x_ia_si, x_ia_sI, x_ia_sr, x_ra_si, x_ra_sI, x_ra_sr, hv, if_true]
      · simp only [X210_134, X210_135, X210_142, X210_143, Nat.zero_le, and_true, true_and, x_nb0, x_nb1, x_nbp, x_isL_int, x_isL_ref, x_isL_junk, x_isR_ref, x_cat_nil, x_cat_int, x_cat_ref, x_cat_long, Option.toList_some, Option.toList_none, List.cons_append, List.nil_append, Nat.reduceAdd, Nat.reduceLeDiff, Nat.reduceLT, t_tag_si, t_tag_sr, t_tag_sI, x_r_si, x_i_sr, t_r_sI, x_ia_si, x_ia_sI, x_ia_sr, x_ra_si, x_ra_sI, x_ra_sr, hv, if_false]
  · refine AQ_no (v := .int (-2)) h.1.2.2 (fun Q => ?_) (fun Q => ?_)
    · simp only [X31_0, X31_1, X31_4, X31_7, X31_9, Nat.zero_le, and_true, true_and, x_nb0, x_nb1, x_nbp, x_isL_int, x_isL_ref, x_isL_junk, x_isR_ref, x_cat_nil, x_cat_int, x_cat_ref, x_cat_long, Option.toList_some, Option.toList_none, List.cons_append, List.nil_append, Nat.reduceAdd, Nat.reduceLeDiff, Nat.reduceLT, t_tag_si, t_tag_sr, t_tag_sI, x_r_si, x_i_sr, t_r_sI, x_ia_si, x_ia_sI, x_ia_sr, x_ra_si, x_ra_sI, x_ra_sr, S4, bI_f h2, if_true]
    · simp only [X210_0, X210_1, X210_2, X210_3, X210_6, X210_9, X210_11, Nat.zero_le, and_true, true_and, x_nb0, x_nb1, x_nbp, x_isL_int, x_isL_ref, x_isL_junk, x_isR_ref, x_cat_nil, x_cat_int, x_cat_ref, x_cat_long, Option.toList_some, Option.toList_none, List.cons_append, List.nil_append, Nat.reduceAdd, Nat.reduceLeDiff, Nat.reduceLT, t_tag_si, t_tag_sr, t_tag_sI, x_r_si, x_i_sr, t_r_sI, x_ia_si, x_ia_sI, x_ia_sr, x_ra_si, x_ra_sI, x_ra_sr, S138, h01, bI_f h2, if_true]
end S94
