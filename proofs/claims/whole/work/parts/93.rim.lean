/-! ===== bits (rows of the kit's laws, BITS: starting text), which knot to tie: rim ===== -/
def bt (x : Int32) (i : Nat) : Bool := x.toBitVec.getLsbD i
theorem b_ext {x y : Int32} (h : ∀ i, i < 32 → bt x i = bt y i) : x = y := Int32.toBitVec_inj.mp (BitVec.eq_of_getLsbD_eq (fun i hi => h i hi))
theorem b_or (x y : Int32) (i : Nat) : bt (x ||| y) i = (bt x i || bt y i) := by unfold bt; rw [Int32.toBitVec_or, BitVec.getLsbD_or]
theorem b_and (x y : Int32) (i : Nat) : bt (x &&& y) i = (bt x i && bt y i) := by unfold bt; rw [Int32.toBitVec_and, BitVec.getLsbD_and]
theorem b_xor (x y : Int32) (i : Nat) : bt (x ^^^ y) i = (bt x i ^^ bt y i) := by unfold bt; rw [Int32.toBitVec_xor, BitVec.getLsbD_xor]
theorem b_m1 : ∀ i, i < 32 → bt (-1) i = true := by decide +kernel
theorem s_l : ∀ n, n < 32 → ((nI n &&& 31).toBitVec.smod 32).toNat = n := by decide +kernel
theorem b_sshr (n : Nat) (hn : n < 32) (x : Int32) {i : Nat} (hi : i < 32) : bt (x >>> (nI n &&& 31)) i = if n + i < 32 then bt x (n + i) else bt x 31 := by
  unfold bt
  rw [Int32.toBitVec_shiftRight]
  show (x.toBitVec.sshiftRight ((nI n &&& 31).toBitVec.smod 32).toNat).getLsbD i = _
  rw [s_l n hn, BitVec.getLsbD_sshiftRight, BitVec.msb_eq_getLsbD_last]
  simp [hi]
theorem bv_bt (x : Int32) {k : Nat} (hk : k < 32) : bt (bv x (nI k)) 0 = bt x k := by
  unfold bv
  rw [b_and, b_sshr k hk x (by omega), Nat.add_zero, if_pos hk]
  have e : bt (nI 1) 0 = true := rfl
  rw [e, Bool.and_true]
theorem bv0_bt {x : Int32} {k : Nat} (hk : k < 32) : bv x (nI k) = nI 0 ↔ bt x k = false := by
  have h := bv_bt x hk
  rcases bv_cases x (nI k) with q | q
  · rw [q] at h
    have e : bt (nI 0) 0 = false := rfl
    exact ⟨fun _ => h.symm.trans e, fun _ => q⟩
  · rw [q] at h
    have e : bt (nI 1) 0 = true := rfl
    rw [e] at h
    exact ⟨fun z => by rw [q] at z; exact absurd z (by decide), fun z => by rw [z] at h; exact Bool.noConfusion h⟩
theorem bt_bit : ∀ a, a < 20 → ∀ k, k < 32 → bt (nI 1 <<< (nI a &&& 31)) k = decide (k = a) := by decide +kernel
/-- a bit that was not there is put and taken away -/
theorem pc1_undo {m : Int32} {k : Nat} (hk : k < 20) (h : bv m (nI k) = nI 0) : pc1 (nI 0) (pc1 (nI 1) m (nI k)) (nI k) = m := by
  have hb := (bv0_bt (show k < 32 by omega)).mp h
  have e1 : pc1 (nI 1) m (nI k) = m ||| nI 1 <<< (nI k &&& 31) := if_neg (by decide)
  have e0 : ∀ z, pc1 (nI 0) z (nI k) = z &&& ((nI 1 <<< (nI k &&& 31)) ^^^ (-1)) := fun z => if_pos rfl
  rw [e1, e0]
  apply b_ext
  intro i hi
  rw [b_and, b_or, b_xor, bt_bit k hk i hi, b_m1 i hi]
  by_cases hik : i = k
  · subst hik
    rw [hb]
    simp
  · rw [decide_eq_false hik]
    simp
def dNC (C : Nat → Int32) (T : Int32) (l : Nat → Nat) : Nat → Nat := dpN (cbN C) (tbN T) l 12
/-- how deep it is at the deepest -/
def hdC (C : Nat → Int32) (T : Int32) (l : Nat → Nat) : Nat := dNC C T l (bestN (dNC C T l) 19)
theorem hdC_le (C : Nat → Int32) (T : Int32) (l : Nat → Nat) : hdC C T l ≤ 999 := dpN_le _ _ _ _ _
theorem dNC_cg {C C' : Nat → Int32} (h : ∀ k, k < 20 → C k = C' k) (T : Int32) (l : Nat → Nat) : ∀ k, k < 20 → dNC C T l k = dNC C' T l k := by
  intro k hk
  exact dpN_cg (fun k o hk _ => by unfold cbN; rw [h k hk]) (fun _ _ => rfl) (fun _ _ => rfl) 12 k hk
theorem hdC_cg {C C' : Nat → Int32} (h : ∀ k, k < 20 → C k = C' k) (T : Int32) (l : Nat → Nat) : hdC C T l = hdC C' T l := by
  unfold hdC
  have hb := bestN_cg 19 (p := dNC C T l) (q := dNC C' T l) (fun k hk => dNC_cg h T l k (by omega))
  have hle := bestN_le (dNC C' T l) 19
  rw [hb, dNC_cg h T l _ (by omega)]
section
variable {P : Nat → Nat → Bool} {w w' : x_W} {S : Nat} {kd td mo kt : Nat → Nat}
theorem CX.gen (h : CX w S kd td mo kt) (hc : Ch P w w') (h22 : P 22 4 = false) (h30 : ∀ k, P 30 k = false) (h35 : ∀ s, s < 6 → ∀ k, P (35 + s) k = false) (hnb : Nb (x_i w' 24)) : CX w' S kd td mo kt := by
  have h6 := h.S6
  refine ⟨hc.sh h.sh, hc.sd h.sd, by rw [hc.2.2 22 4 h22]; exact h.hS, h6, ⟨fun s hs => ?_, fun s hs => ?_⟩, h.bd, hnb⟩
  · rw [hc.i (h35 s hs), hc.i h30]; exact h.X.1 s hs
  · rw [hc.i (h35 s (by omega))]; exact h.X.2 s hs
theorem CM.gen (h : CM w S kd td mo kt) (hc : Ch P w w') (h41 : P 41 2 = false) (h43 : ∀ k, P 43 k = false ∧ P 44 k = false ∧ P 45 k = false ∧ P 46 k = false) : CM w' S kd td mo kt := by
  refine ⟨hc.sh h.sh, by rw [hc.2.2 41 2 h41]; exact h.hS, h.S6, fun s hs => ?_⟩
  rw [hc.i (fun k => (h43 k).1), hc.i (fun k => (h43 k).2.1), hc.i (fun k => (h43 k).2.2.1), hc.i (fun k => (h43 k).2.2.2)]
  exact h.M s hs
theorem six {p : Nat → Prop} (h : p 0 ∧ p 1 ∧ p 2 ∧ p 3 ∧ p 4 ∧ p 5) : ∀ s, s < 6 → p s := by
  intro s hs
  rcases (by omega : s = 0 ∨ s = 1 ∨ s = 2 ∨ s = 3 ∨ s = 4 ∨ s = 5) with rfl | rfl | rfl | rfl | rfl | rfl
  · exact h.1
  · exact h.2.1
  · exact h.2.2.1
  · exact h.2.2.2.1
  · exact h.2.2.2.2.1
  · exact h.2.2.2.2.2
end
/-- knots by knots: those that are not tied -/
def rmS (f : Nat → Nat) (T : Int32) (p : Int32 × Nat) : Nat → Int32 × Nat
  | 0 => p
  | k + 1 => if bv T (nI k) = nI 0 ∧ f k < (rmS f T p k).2 then (nI k, f k) else rmS f T p k
theorem rmS_t {f : Nat → Nat} {T : Int32} {p : Int32 × Nat} {k : Nat} (h : bv T (nI k) = nI 0 ∧ f k < (rmS f T p k).2) : rmS f T p (k + 1) = (nI k, f k) := if_pos h
theorem rmS_f {f : Nat → Nat} {T : Int32} {p : Int32 × Nat} {k : Nat} (h : ¬ (bv T (nI k) = nI 0 ∧ f k < (rmS f T p k).2)) : rmS f T p (k + 1) = rmS f T p k := if_neg h
theorem rmS_le {f : Nat → Nat} {T : Int32} {p : Int32 × Nat} {M : Nat} (hp : p.2 ≤ M) (h : ∀ k, f k ≤ M) (n : Nat) : (rmS f T p n).2 ≤ M := by
  induction n with
  | zero => exact hp
  | succ n ih => unfold rmS; split; exact h n; exact ih
theorem rmS_cg {f g : Nat → Nat} {T : Int32} {p : Int32 × Nat} (h : ∀ k, f k = g k) (n : Nat) : rmS f T p n = rmS g T p n := by rw [funext h]
section S93
variable {L : Nat} {xs : Nat → Int32} {d : Nat} {w w' : x_W} {S : Nat} {kd td mo kt tl : Nat → Nat} {tk : Nat → Nat → Nat}
theorem S73c (h : CX w S kd td mo kt) : ∃ w2, Ch (sm [25, 26, 27]) w w2 ∧ ∀ Q, X_R L xs (d + 4) 73 0 [.ref 22] [] w Q = Q (some (.int (nI (hdC (x_i w 24) (x_i w 23 1) (XL S kd td mo kt))))) w2 := ⟨_, Ch_WX, fun Q => S73 h⟩
theorem S211c (h : CM w S kd td mo kt) : ∃ w2, Ch (sm [60, 61, 62]) w w2 ∧ ∀ Q, X_R L xs (d + 3) 211 0 [.ref 41] [] w Q = Q (some (.int (nI (hdC (x_i w 42) (x_i w 41 1) (XL S kd td mo kt))))) w2 := ⟨_, Ch_WH, fun Q => S211 h⟩
/-- a knot is tied, all hangs, it is untied -/
theorem rimX (h : CX w S kd td mo kt) {k : Nat} (hk : k < 20) (hb : bv (x_i w 23 1) (nI k) = nI 0) : ∃ w3, Sh w3 ∧ Ch (sm [25, 26, 27]) w (x_si w3 23 1 (pc1 (nI 0) (x_i w3 23 1) (nI k))) ∧ ∀ Q, X_R L xs (d + 4) 73 0 [.ref 22] [] (x_si w 23 1 (pc1 (nI 1) (x_i w 23 1) (nI k))) Q = Q (some (.int (nI (hdC (x_i w 24) (pc1 (nI 1) (x_i w 23 1) (nI k)) (XL S kd td mo kt))))) w3 := by
  have hX2 : CX (x_si w 23 1 (pc1 (nI 1) (x_i w 23 1) (nI k))) S kd td mo kt := h.gen (Ch_orc (P := sm [])) rfl (fun _ => rfl) (six ⟨fun _ => rfl, fun _ => rfl, fun _ => rfl, fun _ => rfl, fun _ => rfl, fun _ => rfl⟩) (by rw [x_i_sin _ _ _ _ (by decide)]; exact h.nb)
  obtain ⟨w3, c3, e3⟩ := S73c (L := L) (xs := xs) (d := d) hX2
  have e1 : x_i (x_si w 23 1 (pc1 (nI 1) (x_i w 23 1) (nI k))) 24 = x_i w 24 := x_i_sin _ _ _ _ (by decide)
  have e2 : x_i (x_si w 23 1 (pc1 (nI 1) (x_i w 23 1) (nI k))) 23 1 = pc1 (nI 1) (x_i w 23 1) (nI k) := by rw [x_i_si, upd_s]
  rw [e1, e2] at e3
  refine ⟨w3, c3.sh hX2.sh, ((Ch_orc (P := sm [25, 26, 27])).trans (c3.orc.trans Ch_orc)).cell ?_, e3⟩
  have e23 : x_i w3 23 = upd (x_i w 23) 1 (pc1 (nI 1) (x_i w 23 1) (nI k)) := by rw [c3.i (fun _ => rfl : ∀ k, sm [25, 26, 27] 23 k = false), x_i_si]
  rw [x_i_si, e23, upd_s, pc1_undo hk hb]
  funext q
  by_cases hq : q = 1
  · subst hq; rw [upd_s]
  · rw [upd_o hq, upd_o hq]
theorem rimM (h : CM w S kd td mo kt) {k : Nat} (hk : k < 20) (hb : bv (x_i w 41 1) (nI k) = nI 0) : ∃ w3, Sh w3 ∧ Ch (sm [60, 61, 62]) w (x_si w3 41 1 (pc1 (nI 0) (x_i w3 41 1) (nI k))) ∧ ∀ Q, X_R L xs (d + 3) 211 0 [.ref 41] [] (x_si w 41 1 (pc1 (nI 1) (x_i w 41 1) (nI k))) Q = Q (some (.int (nI (hdC (x_i w 42) (pc1 (nI 1) (x_i w 41 1) (nI k)) (XL S kd td mo kt))))) w3 := by
  have hX2 : CM (x_si w 41 1 (pc1 (nI 1) (x_i w 41 1) (nI k))) S kd td mo kt := h.gen (P := fun b k => b == 41 && k == 1) (Ch_si rfl) rfl (fun _ => ⟨rfl, rfl, rfl, rfl⟩)
  obtain ⟨w3, c3, e3⟩ := S211c (L := L) (xs := xs) (d := d) hX2
  have e1 : x_i (x_si w 41 1 (pc1 (nI 1) (x_i w 41 1) (nI k))) 42 = x_i w 42 := x_i_sin _ _ _ _ (by decide)
  have e2 : x_i (x_si w 41 1 (pc1 (nI 1) (x_i w 41 1) (nI k))) 41 1 = pc1 (nI 1) (x_i w 41 1) (nI k) := by rw [x_i_si, upd_s]
  rw [e1, e2] at e3
  refine ⟨w3, c3.sh hX2.sh, ((Ch_orc (P := sm [60, 61, 62])).trans (c3.orc.trans Ch_orc)).cell ?_, e3⟩
  have e23 : x_i w3 41 = upd (x_i w 41) 1 (pc1 (nI 1) (x_i w 41 1) (nI k)) := by rw [c3.i (fun _ => rfl : ∀ k, sm [60, 61, 62] 41 k = false), x_i_si]
  rw [x_i_si, e23, upd_s, pc1_undo hk hb]
  funext q
  by_cases hq : q = 1
  · subst hq; rw [upd_s]
  · rw [upd_o hq, upd_o hq]
theorem CX.m (h : CX w S kd td mo kt) {l : List Nat} (hc : Ch (sm l) w w') (hl : (l.all fun x => SA.elem x) = true) : CX w' S kd td mo kt := h.ch (hc.ma hl)
theorem CM.m (h : CM w S kd td mo kt) {l : List Nat} (hc : Ch (sm l) w w') (hl : (l.all fun x => SA.elem x) = true) : CM w' S kd td mo kt := h.ch (hc.ma hl)
theorem S32l (h : CX w S kd td mo kt) (v : Int32) (p : Int32 × Nat) (hp : p.2 ≤ 999) : ∀ n j, j + n = 20 → ∀ w1, Ch (sm [25, 26, 27]) w w1 → ∀ u5 : Value, x_isL u5 = false → ∃ w2 u, Ch (sm [25, 26, 27]) w w2 ∧ ∀ Q, X_R L xs (d + 12) 32 23 [.ref 0, .int v, .int (rmS (fun k => hdC (x_i w 24) (pc1 (nI 1) (x_i w 23 1) (nI k)) (XL S kd td mo kt)) (x_i w 23 1) p j).1, .int (nI (rmS (fun k => hdC (x_i w 24) (pc1 (nI 1) (x_i w 23 1) (nI k)) (XL S kd td mo kt)) (x_i w 23 1) p j).2), .int (nI j), u5] [] w1 Q = X_R L xs (d + 12) 32 96 [.ref 0, .int v, .int (rmS (fun k => hdC (x_i w 24) (pc1 (nI 1) (x_i w 23 1) (nI k)) (XL S kd td mo kt)) (x_i w 23 1) p 20).1, .int (nI (rmS (fun k => hdC (x_i w 24) (pc1 (nI 1) (x_i w 23 1) (nI k)) (XL S kd td mo kt)) (x_i w 23 1) p 20).2), .int (nI 20), u] [] w2 Q := by
  have ebv : ∀ m q : Int32, m >>> (q &&& 31) &&& nI 1 = bv m q := fun _ _ => rfl
  generalize hf : (fun k => hdC (x_i w 24) (pc1 (nI 1) (x_i w 23 1) (nI k)) (XL S kd td mo kt)) = f
  have hf9 : ∀ k, f k ≤ 999 := fun k => by rw [← hf]; exact hdC_le _ _ _
  intro n
  induction n with
  | zero =>
    intro j hj w1 c1 u5 h5
    obtain rfl : j = 20 := by omega
    refine ⟨w1, u5, c1, fun Q => ?_⟩
    rw [X32_23]
    simp only [X32_25, X32_27, Nat.zero_le, and_true, true_and, x_nb0, x_nb1, x_nbp, x_isL_int, x_isL_ref, x_isL_junk, x_isR_ref, x_cat_nil, x_cat_int, x_cat_ref, x_cat_long, Option.toList_some, Option.toList_none, List.cons_append, List.nil_append, Nat.reduceAdd, Nat.reduceLeDiff, Nat.reduceLT, t_tag_si, t_tag_sr, t_tag_sI, x_r_si, x_i_sr, t_r_sI, x_ia_si, x_ia_sI, x_ia_sr, x_ra_si, x_ra_sI, x_ra_sr, nI_leT (Nat.le_refl 20) (show 20 < 2 ^ 31 by decide), if_true]
  | succ n ih =>
    intro j hj w1 c1 u5 h5
    have hX1 := h.m c1 rfl
    have hs1 := hX1.sh
    have e231 : x_i w1 23 1 = x_i w 23 1 := c1.2.2 23 1 rfl
    have e24 : x_i w1 24 = x_i w 24 := c1.i (fun _ => rfl)
    have hr9 := rmS_le (T := x_i w 23 1) hp hf9 j
    rcases bv_cases (x_i w 23 1) (nI j) with hb | hb
    · obtain ⟨w3, hs3, c3, e3⟩ := rimX (L := L) (xs := xs) (d := d + 7) hX1 (show j < 20 by omega) (by rw [e231]; exact hb)
      rw [e231, e24] at e3
      have efj : hdC (x_i w 24) (pc1 (nI 1) (x_i w 23 1) (nI j)) (XL S kd td mo kt) = f j := by rw [← hf]
      rw [efj] at e3
      have e89 := fun (v : Int32) (Q' : Option Value → x_W → Prop) => S89 (L := L) (xs := xs) (d := d + 11) (Q := Q') (a := nI j) (v := v) hs1
      have e89' := fun (v : Int32) (Q' : Option Value → x_W → Prop) => S89 (L := L) (xs := xs) (d := d + 11) (Q := Q') (a := nI j) (v := v) hs3
      rw [e231] at e89
      generalize hw4 : x_si w3 23 1 (pc1 (nI 0) (x_i w3 23 1) (nI j)) = w4 at c3
      obtain ⟨w5, u, c5, e5⟩ := ih (j + 1) (by omega) w4 (c1.trans c3) (.int (nI (f j))) rfl
      have hsT : Sh (x_si w1 23 1 (pc1 (nI 1) (x_i w 23 1) (nI j))) := hs1
      refine ⟨w5, u, c5, fun Q => ?_⟩
      rw [← e5 Q, X32_23]
      by_cases hl : f j < (rmS f (x_i w 23 1) p j).2
      · rw [rmS_t ⟨hb, hl⟩]
        simp only [X32_0, X32_1, X32_4, X32_7, X32_9, X32_10, X32_11, X32_12, X32_13, X32_16, X32_19, X32_20, X32_21, X32_25, X32_27, X32_30, X32_31, X32_34, X32_37, X32_39, X32_40, X32_41, X32_42, X32_43, X32_46, X32_49, X32_50, X32_53, X32_55, X32_56, X32_59, X32_60, X32_63, X32_66, X32_68, X32_69, X32_72, X32_74, X32_75, X32_78, X32_80, X32_81, X32_84, X32_86, X32_87, X32_89, X32_90, X32_93, X32_96, X32_97, X32_100, X32_101, X32_104, X32_105, Nat.zero_le, and_true, true_and, x_nb0, x_nb1, x_nbp, x_isL_int, x_isL_ref, x_isL_junk, x_isR_ref, x_cat_nil, x_cat_int, x_cat_ref, x_cat_long, Option.toList_some, Option.toList_none, List.cons_append, List.nil_append, Nat.reduceAdd, Nat.reduceLeDiff, Nat.reduceLT, t_tag_si, t_tag_sr, t_tag_sI, x_r_si, x_i_sr, t_r_sI, x_ia_si, x_ia_sI, x_ia_sr, x_ra_si, x_ra_sI, x_ra_sr, h5, nI_leF (show j < 20 by omega) (show 20 < 2 ^ 31 by decide), if_false, g_t0 hs1, g_r0_5 hs1, g_t23 hs1, e231, ebv, hb, n01, e89, g_t0 hsT, g_r0_4 hsT, g_t22 hsT, e3, g_t0 hs3, g_r0_5 hs3, g_t23 hs3, e89', hw4, nI_leF hl (show (rmS f (x_i w 23 1) p j).2 < 2 ^ 31 by omega), nI_add]
      · rw [rmS_f (fun q => hl q.2)]
        simp only [X32_0, X32_1, X32_4, X32_7, X32_9, X32_10, X32_11, X32_12, X32_13, X32_16, X32_19, X32_20, X32_21, X32_25, X32_27, X32_30, X32_31, X32_34, X32_37, X32_39, X32_40, X32_41, X32_42, X32_43, X32_46, X32_49, X32_50, X32_53, X32_55, X32_56, X32_59, X32_60, X32_63, X32_66, X32_68, X32_69, X32_72, X32_74, X32_75, X32_78, X32_80, X32_81, X32_84, X32_86, X32_87, X32_89, X32_90, X32_93, X32_96, X32_97, X32_100, X32_101, X32_104, X32_105, Nat.zero_le, and_true, true_and, x_nb0, x_nb1, x_nbp, x_isL_int, x_isL_ref, x_isL_junk, x_isR_ref, x_cat_nil, x_cat_int, x_cat_ref, x_cat_long, Option.toList_some, Option.toList_none, List.cons_append, List.nil_append, Nat.reduceAdd, Nat.reduceLeDiff, Nat.reduceLT, t_tag_si, t_tag_sr, t_tag_sI, x_r_si, x_i_sr, t_r_sI, x_ia_si, x_ia_sI, x_ia_sr, x_ra_si, x_ra_sI, x_ra_sr, h5, nI_leF (show j < 20 by omega) (show 20 < 2 ^ 31 by decide), if_false, g_t0 hs1, g_r0_5 hs1, g_t23 hs1, e231, ebv, hb, n01, e89, g_t0 hsT, g_r0_4 hsT, g_t22 hsT, e3, g_t0 hs3, g_r0_5 hs3, g_t23 hs3, e89', hw4, nI_leT (Nat.not_lt.mp hl) (show f j < 2 ^ 31 by have := hf9 j; omega), if_true, nI_add]
    · obtain ⟨w5, u, c5, e5⟩ := ih (j + 1) (by omega) w1 c1 u5 h5
      refine ⟨w5, u, c5, fun Q => ?_⟩
      rw [← e5 Q, X32_23, rmS_f (fun q => by rw [hb] at q; exact absurd q.1 (by decide))]
      simp only [X32_25, X32_27, X32_30, X32_31, X32_34, X32_37, X32_39, X32_40, X32_41, X32_42, X32_43, X32_46, X32_90, X32_93, Nat.zero_le, and_true, true_and, x_nb0, x_nb1, x_nbp, x_isL_int, x_isL_ref, x_isL_junk, x_isR_ref, x_cat_nil, x_cat_int, x_cat_ref, x_cat_long, Option.toList_some, Option.toList_none, List.cons_append, List.nil_append, Nat.reduceAdd, Nat.reduceLeDiff, Nat.reduceLT, t_tag_si, t_tag_sr, t_tag_sI, x_r_si, x_i_sr, t_r_sI, x_ia_si, x_ia_sI, x_ia_sr, x_ra_si, x_ra_sI, x_ra_sr, nI_leF (show j < 20 by omega) (show 20 < 2 ^ 31 by decide), if_false, if_true, g_t0 hs1, g_r0_5 hs1, g_t23 hs1, e231, ebv, hb, nI_add]
theorem S212l (h : CM w S kd td mo kt) (v : Int32) (p : Int32 × Nat) (hp : p.2 ≤ 999) : ∀ n j, j + n = 20 → ∀ w1, Ch (sm [60, 61, 62]) w w1 → ∀ u5 : Value, x_isL u5 = false → ∃ w2 u, Ch (sm [60, 61, 62]) w w2 ∧ ∀ Q, X_R L xs (d + 12) 212 22 [.ref 41, .int v, .int (rmS (fun k => hdC (x_i w 42) (pc1 (nI 1) (x_i w 41 1) (nI k)) (XL S kd td mo kt)) (x_i w 41 1) p j).1, .int (nI (rmS (fun k => hdC (x_i w 42) (pc1 (nI 1) (x_i w 41 1) (nI k)) (XL S kd td mo kt)) (x_i w 41 1) p j).2), .int (nI j), u5] [] w1 Q = X_R L xs (d + 12) 212 104 [.ref 41, .int v, .int (rmS (fun k => hdC (x_i w 42) (pc1 (nI 1) (x_i w 41 1) (nI k)) (XL S kd td mo kt)) (x_i w 41 1) p 20).1, .int (nI (rmS (fun k => hdC (x_i w 42) (pc1 (nI 1) (x_i w 41 1) (nI k)) (XL S kd td mo kt)) (x_i w 41 1) p 20).2), .int (nI 20), u] [] w2 Q := by
  generalize hf : (fun k => hdC (x_i w 42) (pc1 (nI 1) (x_i w 41 1) (nI k)) (XL S kd td mo kt)) = f
  have hf9 : ∀ k, f k ≤ 999 := fun k => by rw [← hf]; exact hdC_le _ _ _
  intro n
  induction n with
  | zero =>
    intro j hj w1 c1 u5 h5
    obtain rfl : j = 20 := by omega
    refine ⟨w1, u5, c1, fun Q => ?_⟩
    rw [X212_22]
    simp only [X212_24, X212_26, Nat.zero_le, and_true, true_and, x_nb0, x_nb1, x_nbp, x_isL_int, x_isL_ref, x_isL_junk, x_isR_ref, x_cat_nil, x_cat_int, x_cat_ref, x_cat_long, Option.toList_some, Option.toList_none, List.cons_append, List.nil_append, Nat.reduceAdd, Nat.reduceLeDiff, Nat.reduceLT, t_tag_si, t_tag_sr, t_tag_sI, x_r_si, x_i_sr, t_r_sI, x_ia_si, x_ia_sI, x_ia_sr, x_ra_si, x_ra_sI, x_ra_sr, nI_leT (Nat.le_refl 20) (show 20 < 2 ^ 31 by decide), if_true]
  | succ n ih =>
    intro j hj w1 c1 u5 h5
    have hX1 := h.m c1 rfl
    have hs1 := hX1.sh
    have e231 : x_i w1 41 1 = x_i w 41 1 := c1.2.2 41 1 rfl
    have e24 : x_i w1 42 = x_i w 42 := c1.i (fun _ => rfl)
    have hr9 := rmS_le (T := x_i w 41 1) hp hf9 j
    have e177 := fun (Q' : Option Value → x_W → Prop) => S177 (L := L) (xs := xs) (d := d + 11) (Q := Q') (k := j) hs1
    rw [e231] at e177
    rcases bv_cases (x_i w 41 1) (nI j) with hb | hb
    · obtain ⟨w3, hs3, c3, e3⟩ := rimM (L := L) (xs := xs) (d := d + 8) hX1 (show j < 20 by omega) (by rw [e231]; exact hb)
      rw [e231, e24] at e3
      have efj : hdC (x_i w 42) (pc1 (nI 1) (x_i w 41 1) (nI j)) (XL S kd td mo kt) = f j := by rw [← hf]
      rw [efj] at e3
      have ep1 : x_i w 41 1 ||| nI 1 <<< (nI j &&& 31) = pc1 (nI 1) (x_i w 41 1) (nI j) := (if_neg (by decide)).symm
      have ep0 : x_i w3 41 1 &&& (nI 1 <<< (nI j &&& 31) ^^^ -1) = pc1 (nI 0) (x_i w3 41 1) (nI j) := (if_pos rfl).symm
      generalize hw4 : x_si w3 41 1 (pc1 (nI 0) (x_i w3 41 1) (nI j)) = w4 at c3
      obtain ⟨w5, u, c5, e5⟩ := ih (j + 1) (by omega) w4 (c1.trans c3) (.int (nI (f j))) rfl
      have hsT : Sh (x_si w1 41 1 (pc1 (nI 1) (x_i w 41 1) (nI j))) := hs1
      refine ⟨w5, u, c5, fun Q => ?_⟩
      rw [← e5 Q, X212_22]
      by_cases hl : f j < (rmS f (x_i w 41 1) p j).2
      · rw [rmS_t ⟨hb, hl⟩]
        simp only [X212_0, X212_1, X212_2, X212_3, X212_6, X212_9, X212_11, X212_12, X212_13, X212_14, X212_15, X212_18, X212_19, X212_20, X212_24, X212_26, X212_29, X212_30, X212_32, X212_35, X212_38, X212_39i, X212_39, X212_40, X212_43, X212_44, X212_46, X212_47, X212_48, X212_51, X212_52, X212_55, X212_57, X212_58i, X212_58, X212_59, X212_62, X212_63, X212_65, X212_66, X212_67, X212_68, X212_69, X212_72, X212_74, X212_75, X212_78, X212_80, X212_83, X212_84, X212_85, X212_87, X212_88, X212_91, X212_93, X212_96, X212_97, X212_98, X212_101, X212_104, X212_105, X212_108, X212_109, X212_112, X212_113, Nat.zero_le, and_true, true_and, x_nb0, x_nb1, x_nbp, x_isL_int, x_isL_ref, x_isL_junk, x_isR_ref, x_cat_nil, x_cat_int, x_cat_ref, x_cat_long, Option.toList_some, Option.toList_none, List.cons_append, List.nil_append, Nat.reduceAdd, Nat.reduceLeDiff, Nat.reduceLT, t_tag_si, t_tag_sr, t_tag_sI, x_r_si, x_i_sr, t_r_sI, x_ia_si, x_ia_sI, x_ia_sr, x_ra_si, x_ra_sI, x_ra_sr, h5, nI_leF (show j < 20 by omega) (show 20 < 2 ^ 31 by decide), if_false, g_t41 hs1, e177, hb, if_true, e231, ep1, g_t41 hsT, e3, g_t41 hs3, ep0, hw4, nI_leF hl (show (rmS f (x_i w 41 1) p j).2 < 2 ^ 31 by omega), nI_add]
      · rw [rmS_f (fun q => hl q.2)]
        simp only [X212_0, X212_1, X212_2, X212_3, X212_6, X212_9, X212_11, X212_12, X212_13, X212_14, X212_15, X212_18, X212_19, X212_20, X212_24, X212_26, X212_29, X212_30, X212_32, X212_35, X212_38, X212_39i, X212_39, X212_40, X212_43, X212_44, X212_46, X212_47, X212_48, X212_51, X212_52, X212_55, X212_57, X212_58i, X212_58, X212_59, X212_62, X212_63, X212_65, X212_66, X212_67, X212_68, X212_69, X212_72, X212_74, X212_75, X212_78, X212_80, X212_83, X212_84, X212_85, X212_87, X212_88, X212_91, X212_93, X212_96, X212_97, X212_98, X212_101, X212_104, X212_105, X212_108, X212_109, X212_112, X212_113, Nat.zero_le, and_true, true_and, x_nb0, x_nb1, x_nbp, x_isL_int, x_isL_ref, x_isL_junk, x_isR_ref, x_cat_nil, x_cat_int, x_cat_ref, x_cat_long, Option.toList_some, Option.toList_none, List.cons_append, List.nil_append, Nat.reduceAdd, Nat.reduceLeDiff, Nat.reduceLT, t_tag_si, t_tag_sr, t_tag_sI, x_r_si, x_i_sr, t_r_sI, x_ia_si, x_ia_sI, x_ia_sr, x_ra_si, x_ra_sI, x_ra_sr, h5, nI_leF (show j < 20 by omega) (show 20 < 2 ^ 31 by decide), if_false, g_t41 hs1, e177, hb, if_true, e231, ep1, g_t41 hsT, e3, g_t41 hs3, ep0, hw4, nI_leT (Nat.not_lt.mp hl) (show f j < 2 ^ 31 by have := hf9 j; omega), nI_add]
    · obtain ⟨w5, u, c5, e5⟩ := ih (j + 1) (by omega) w1 c1 u5 h5
      refine ⟨w5, u, c5, fun Q => ?_⟩
      rw [← e5 Q, X212_22, rmS_f (fun q => by rw [hb] at q; exact absurd q.1 (by decide))]
      simp only [X212_24, X212_26, X212_29, X212_30, X212_32, X212_35, X212_98, X212_101, Nat.zero_le, and_true, true_and, x_nb0, x_nb1, x_nbp, x_isL_int, x_isL_ref, x_isL_junk, x_isR_ref, x_cat_nil, x_cat_int, x_cat_ref, x_cat_long, Option.toList_some, Option.toList_none, List.cons_append, List.nil_append, Nat.reduceAdd, Nat.reduceLeDiff, Nat.reduceLT, t_tag_si, t_tag_sr, t_tag_sI, x_r_si, x_i_sr, t_r_sI, x_ia_si, x_ia_sI, x_ia_sr, x_ra_si, x_ra_sI, x_ra_sr, nI_leF (show j < 20 by omega) (show 20 < 2 ^ 31 by decide), if_false, g_t41 hs1, e177, hb, n10, nI_add]
theorem AQ_rim (h : AG w S kd td mo kt tl tk) (v : Int32) : AQ L xs (d + 12) 32 212 [.ref 0, .int v, x_junk, x_junk, x_junk, x_junk] [.ref 41, .int v, x_junk, x_junk, x_junk, x_junk] w := by
  have hs := h.1.sh
  have h01 : bI (nI 0 ≤ v ∧ v ≤ nI 1) = bI (v = nI 0 ∨ v = nI 1) := bI_c (by rw [in01])
  by_cases h2 : v = nI 0 ∨ v = nI 1
  · have e4 := fun (w : x_W) (Q' : Option Value → x_W → Prop) => b4_t (L := L) (xs := xs) (d := d + 11) (w := w) (Q := Q') h2
    have e138 := fun (w : x_W) (Q' : Option Value → x_W → Prop) => b138_t (L := L) (xs := xs) (d := d + 11) (w := w) (Q := Q') h2
    obtain ⟨w1, c1, e1⟩ := S73c (L := L) (xs := xs) (d := d + 7) h.1.1
    have hX1 := h.1.1.m c1 rfl
    obtain ⟨w2, u2, c2, e2⟩ := S32l (L := L) (xs := xs) (d := d) hX1 v (-1, hdC (x_i w 24) (x_i w 23 1) (XL S kd td mo kt)) (hdC_le _ _ _) 20 0 rfl w1 Ch.refl x_junk rfl
    have c02 := c1.trans c2
    have cA := c02.ma (rfl)
    obtain ⟨w3, c3, e3⟩ := S211c (L := L) (xs := xs) (d := d + 8) (h.2.1.1.ch cA)
    have hM3 := (h.2.1.1.ch cA).m c3 rfl
    obtain ⟨w4, u4, c4, e4'⟩ := S212l (L := L) (xs := xs) (d := d) hM3 v (-1, hdC (x_i w 24) (x_i w 23 1) (XL S kd td mo kt)) (hdC_le _ _ _) 20 0 rfl w3 Ch.refl x_junk rfl
    have eC : ∀ k, k < 20 → x_i w 24 k = x_i w 42 k := h.2.2.1.1
    have eT : x_i w 23 1 = x_i w 41 1 := h.2.2.1.2
    have e3C : x_i w3 42 = x_i w 42 := (c3.i (fun _ => rfl)).trans (EM.C cA)
    have e3T : x_i w3 41 1 = x_i w 41 1 := (c3.2.2 41 1 rfl).trans (cA.2.2 41 1 rfl)
    have e1C : x_i w1 24 = x_i w 24 := c1.i (fun _ => rfl)
    have e1T : x_i w1 23 1 = x_i w 23 1 := c1.2.2 23 1 rfl
    have e2C : x_i w2 42 = x_i w 42 := EM.C cA
    have e2T : x_i w2 41 1 = x_i w 41 1 := cA.2.2 41 1 rfl
    rw [e2C, e2T, ← eT, ← hdC_cg eC] at e3
    have eF : (fun k => hdC (x_i w 42) (pc1 (nI 1) (x_i w 23 1) (nI k)) (XL S kd td mo kt)) = fun k => hdC (x_i w 24) (pc1 (nI 1) (x_i w 23 1) (nI k)) (XL S kd td mo kt) := funext fun k => (hdC_cg eC _ _).symm
    rw [e3C, e3T, ← eT, eF] at e4'
    rw [e1C, e1T] at e2
    have hs2 := c02.sh hs
    generalize hR : rmS (fun k => hdC (x_i w 24) (pc1 (nI 1) (x_i w 23 1) (nI k)) (XL S kd td mo kt)) (x_i w 23 1) (-1, hdC (x_i w 24) (x_i w 23 1) (XL S kd td mo kt)) 20 = R at e2 e4'
    refine ⟨.int (if v = nI 0 then R.1 else nI R.2), w2, w4, cA.trans ((c3.trans c4).ma rfl), ((h.1.2.2.m c02 rfl rfl rfl).m c3 rfl rfl rfl).m c4 rfl rfl rfl, fun Q => ?_, fun Q => ?_⟩
    · have e0 : X_R L xs (d + 12) 32 0 [.ref 0, .int v, x_junk, x_junk, x_junk, x_junk] [] w Q = X_R L xs (d + 12) 32 23 [.ref 0, .int v, .int (-1), .int (nI (hdC (x_i w 24) (x_i w 23 1) (XL S kd td mo kt))), .int (nI 0), x_junk] [] w1 Q := by
        simp only [X32_0, X32_1, X32_4, X32_10, X32_11, X32_12, X32_13, X32_16, X32_19, X32_20, X32_21, Nat.zero_le, and_true, true_and, x_nb0, x_nb1, x_nbp, x_isL_int, x_isL_ref, x_isL_junk, x_isR_ref, x_cat_nil, x_cat_int, x_cat_ref, x_cat_long, Option.toList_some, Option.toList_none, List.cons_append, List.nil_append, Nat.reduceAdd, Nat.reduceLeDiff, Nat.reduceLT, t_tag_si, t_tag_sr, t_tag_sI, x_r_si, x_i_sr, t_r_sI, x_ia_si, x_ia_sI, x_ia_sr, x_ra_si, x_ra_sI, x_ra_sr, e4, n10, if_false, g_t0 hs, g_r0_4 hs, g_t22 hs, e1]
      rw [e0]
      refine (e2 Q).trans ?_
      by_cases hv : v = nI 0
      · simp only [X32_96, X32_97, X32_100, X32_101, X32_105, Nat.zero_le, and_true, true_and, x_nb0, x_nb1, x_nbp, x_isL_int, x_isL_ref, x_isL_junk, x_isR_ref, x_cat_nil, x_cat_int, x_cat_ref, x_cat_long, Option.toList_some, Option.toList_none, List.cons_append, List.nil_append, Nat.reduceAdd, Nat.reduceLeDiff, Nat.reduceLT, t_tag_si, t_tag_sr, t_tag_sI, x_r_si, x_i_sr, t_r_sI, x_ia_si, x_ia_sI, x_ia_sr, x_ra_si, x_ra_sI, x_ra_sr, hv, if_true]
      · simp only [X32_96, X32_97, X32_104, X32_105, Nat.zero_le, and_true, true_and, x_nb0, x_nb1, x_nbp, x_isL_int, x_isL_ref, x_isL_junk, x_isR_ref, x_cat_nil, x_cat_int, x_cat_ref, x_cat_long, Option.toList_some, Option.toList_none, List.cons_append, List.nil_append, Nat.reduceAdd, Nat.reduceLeDiff, Nat.reduceLT, t_tag_si, t_tag_sr, t_tag_sI, x_r_si, x_i_sr, t_r_sI, x_ia_si, x_ia_sI, x_ia_sr, x_ra_si, x_ra_sI, x_ra_sr, hv, if_false]
    · have e0 : X_R L xs (d + 12) 212 0 [.ref 41, .int v, x_junk, x_junk, x_junk, x_junk] [] w2 Q = X_R L xs (d + 12) 212 22 [.ref 41, .int v, .int (-1), .int (nI (hdC (x_i w 24) (x_i w 23 1) (XL S kd td mo kt))), .int (nI 0), x_junk] [] w3 Q := by
        simp only [X212_0, X212_1, X212_2, X212_3, X212_6, X212_12, X212_13, X212_14, X212_15, X212_18, X212_19, X212_20, Nat.zero_le, and_true, true_and, x_nb0, x_nb1, x_nbp, x_isL_int, x_isL_ref, x_isL_junk, x_isR_ref, x_cat_nil, x_cat_int, x_cat_ref, x_cat_long, Option.toList_some, Option.toList_none, List.cons_append, List.nil_append, Nat.reduceAdd, Nat.reduceLeDiff, Nat.reduceLT, t_tag_si, t_tag_sr, t_tag_sI, x_r_si, x_i_sr, t_r_sI, x_ia_si, x_ia_sI, x_ia_sr, x_ra_si, x_ra_sI, x_ra_sr, e138, n10, if_false, g_t41 hs2, e3]
      rw [e0]
      refine (e4' Q).trans ?_
      by_cases hv : v = nI 0
      · simp only [X212_104, X212_105, X212_108, X212_109, X212_113, Nat.zero_le, and_true, true_and, x_nb0, x_nb1, x_nbp, x_isL_int, x_isL_ref, x_isL_junk, x_isR_ref, x_cat_nil, x_cat_int, x_cat_ref, x_cat_long, Option.toList_some, Option.toList_none, List.cons_append, List.nil_append, Nat.reduceAdd, Nat.reduceLeDiff, Nat.reduceLT, t_tag_si, t_tag_sr, t_tag_sI, x_r_si, x_i_sr, t_r_sI, x_ia_si, x_ia_sI, x_ia_sr, x_ra_si, x_ra_sI, x_ra_sr, hv, if_true]
      · simp only [X212_104, X212_105, X212_112, X212_113, Nat.zero_le, and_true, true_and, x_nb0, x_nb1, x_nbp, x_isL_int, x_isL_ref, x_isL_junk, x_isR_ref, x_cat_nil, x_cat_int, x_cat_ref, x_cat_long, Option.toList_some, Option.toList_none, List.cons_append, List.nil_append, Nat.reduceAdd, Nat.reduceLeDiff, Nat.reduceLT, t_tag_si, t_tag_sr, t_tag_sI, x_r_si, x_i_sr, t_r_sI, x_ia_si, x_ia_sI, x_ia_sr, x_ra_si, x_ra_sI, x_ra_sr, hv, if_false]
  · refine AQ_no (v := .int (-2)) h.1.2.2 (fun Q => ?_) (fun Q => ?_)
    · simp only [X32_0, X32_1, X32_4, X32_7, X32_9, Nat.zero_le, and_true, true_and, x_nb0, x_nb1, x_nbp, x_isL_int, x_isL_ref, x_isL_junk, x_isR_ref, x_cat_nil, x_cat_int, x_cat_ref, x_cat_long, Option.toList_some, Option.toList_none, List.cons_append, List.nil_append, Nat.reduceAdd, Nat.reduceLeDiff, Nat.reduceLT, t_tag_si, t_tag_sr, t_tag_sI, x_r_si, x_i_sr, t_r_sI, x_ia_si, x_ia_sI, x_ia_sr, x_ra_si, x_ra_sI, x_ra_sr, S4, bI_f h2, if_true]
    · simp only [X212_0, X212_1, X212_2, X212_3, X212_6, X212_9, X212_11, Nat.zero_le, and_true, true_and, x_nb0, x_nb1, x_nbp, x_isL_int, x_isL_ref, x_isL_junk, x_isR_ref, x_cat_nil, x_cat_int, x_cat_ref, x_cat_long, Option.toList_some, Option.toList_none, List.cons_append, List.nil_append, Nat.reduceAdd, Nat.reduceLeDiff, Nat.reduceLT, t_tag_si, t_tag_sr, t_tag_sI, x_r_si, x_i_sr, t_r_sI, x_ia_si, x_ia_sI, x_ia_sr, x_ra_si, x_ra_sI, x_ra_sr, S138, h01, bI_f h2, if_true]
end S93
