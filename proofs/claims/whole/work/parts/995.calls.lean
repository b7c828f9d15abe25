/-! ===== the calls cord, corded, tie, count, asks, depth, pull, hang, force, lie, told ===== -/
theorem meB_pc1 {m : Int32} {k o : Nat} (hk : k < 20) (ho : o < 20) : meB (pc1 (nI 1) m (nI k)) o = (meB m o || decide (o = k)) ∧ meB (pc1 (nI 0) m (nI k)) o = (meB m o && !decide (o = k)) := by
  have e1 : pc1 (nI 1) m (nI k) = m ||| nI 1 <<< (nI k &&& 31) := if_neg (by decide)
  have e0 : pc1 (nI 0) m (nI k) = m &&& ((nI 1 <<< (nI k &&& 31)) ^^^ (-1)) := if_pos rfl
  rw [e1, e0, meB_or, meB_and, meB_not _ (by omega), meB_one k hk o ho]
  exact ⟨rfl, rfl⟩
theorem meB_put {C : Nat → Int32} {i j k o : Nat} (hi : i < 20) (hj : j < 20) (hij : i ≠ j) (ho : o < 20) {v : Int32} (hv : v = nI 0 ∨ v = nI 1) : meB (putC C (nI i) (nI j) v k) o = if (k = i ∧ o = j) ∨ (k = j ∧ o = i) then decide (v = nI 1) else meB (C k) o := by
  unfold putC
  rw [nI_cl (by omega), nI_cl (by omega)]
  have ej : upd C i (pc1 v (C i) (nI j)) j = C j := upd_o (Ne.symm hij)
  rw [ej]
  by_cases hkj : k = j
  · subst hkj
    rw [upd_s]
    have hp := meB_pc1 (m := C k) hi ho
    by_cases hoi : o = i
    · subst hoi
      rw [if_pos (Or.inr ⟨rfl, rfl⟩)]
      rcases hv with rfl | rfl
      · rw [hp.2]; simp
        decide
      · rw [hp.1]; simp
    · rw [if_neg (fun q => q.elim (fun z => hij z.1.symm) (fun z => hoi z.2))]
      rcases hv with rfl | rfl
      · rw [hp.2, decide_eq_false hoi]; simp
      · rw [hp.1, decide_eq_false hoi]; simp
  · rw [upd_o hkj]
    by_cases hki : k = i
    · subst hki
      rw [upd_s]
      have hp := meB_pc1 (m := C k) hj ho
      by_cases hoj : o = j
      · subst hoj
        rw [if_pos (Or.inl ⟨rfl, rfl⟩)]
        rcases hv with rfl | rfl
        · rw [hp.2]; simp
          decide
        · rw [hp.1]; simp
      · rw [if_neg (fun q => q.elim (fun z => hoj z.2) (fun z => hkj z.1))]
        rcases hv with rfl | rfl
        · rw [hp.2, decide_eq_false hoj]; simp
        · rw [hp.1, decide_eq_false hoj]; simp
    · rw [upd_o hki, if_neg (fun q => q.elim (fun z => hki z.1) (fun z => hkj z.1))]
theorem Sy_put {C : Nat → Int32} (h : Sy C) {i j : Nat} (hi : i < 20) (hj : j < 20) (hij : i ≠ j) {v : Int32} (hv : v = nI 0 ∨ v = nI 1) : Sy (putC C (nI i) (nI j) v) := by
  intro k o hk ho
  rw [meB_put hi hj hij ho hv, meB_put hi hj hij hk hv, h k o hk ho]
  by_cases h1 : (k = i ∧ o = j) ∨ (k = j ∧ o = i)
  · rw [if_pos h1, if_pos (h1.elim (fun z => Or.inr ⟨z.2, z.1⟩) (fun z => Or.inl ⟨z.2, z.1⟩))]
  · rw [if_neg h1, if_neg (fun z => h1 (z.elim (fun z => Or.inr ⟨z.2, z.1⟩) (fun z => Or.inl ⟨z.2, z.1⟩)))]
theorem putC_cg {C C' : Nat → Int32} (h : ∀ k, k < 20 → C k = C' k) {i j : Nat} (hi : i < 20) (hj : j < 20) (v : Int32) : ∀ k, k < 20 → putC C (nI i) (nI j) v k = putC C' (nI i) (nI j) v k := by
  intro k hk
  unfold putC
  rw [nI_cl (by omega), nI_cl (by omega)]
  unfold upd
  by_cases hkb : k = j
  · subst hkb
    rw [if_pos rfl, if_pos rfl]
    by_cases hka : k = i
    · subst hka; rw [if_pos rfl, if_pos rfl, h k hk]
    · rw [if_neg hka, if_neg hka, h k hk]
  · rw [if_neg hkb, if_neg hkb]
    by_cases hka : k = i
    · subst hka; rw [if_pos rfl, if_pos rfl, h k hk]
    · rw [if_neg hka, if_neg hka, h k hk]
theorem bI_01 (p : Prop) [Decidable p] : bI p = nI 0 ∨ bI p = nI 1 := by
  by_cases h : p
  · exact Or.inr (bI_t h)
  · exact Or.inl (bI_f h)
section S995
variable {L : Nat} {xs : Nat → Int32} {d : Nat} {w w' : x_W} {S nt r : Nat} {kd td mo kt : Nat → Nat} {tls : Nat → Nat → Nat} {tks : Nat → Nat → Nat → Nat} {so : Nat → Int32} {sz : Nat → Nat}
def pCord : Nat → Nat → Bool := gp [24, 42] [(23, 6)]
theorem KO_cord : KO pCord := ⟨four ⟨fun _ => ⟨rfl, rfl⟩, fun _ => ⟨rfl, rfl⟩, fun _ => ⟨rfl, rfl⟩, fun _ => ⟨rfl, rfl⟩⟩, fun _ => ⟨rfl, rfl, rfl, rfl, rfl, rfl, rfl, rfl, rfl, rfl, rfl⟩, rfl, rfl, rfl, rfl, rfl, rfl⟩
theorem CA_cord (hJ : J w S kd td mo kt nt r tls tks so sz) (a b v : Int32) : CA L xs (d + 12) 3 151 [.ref 0, .int a, .int b, .int v, x_junk] [.ref 41, .int a, .int b, .int v, x_junk] w := by
  have hs := hJ.sh
  have e3 := fun (Q' : Option Value → x_W → Prop) => @S3 L xs (d + 10) w Q' a b v (bes_dec a b) hs
  by_cases h : bes a b
  · by_cases hv : v = nI 0 ∨ v = nI 1
    · obtain ⟨i, hi, rfl⟩ := kn_of h.1
      obtain ⟨j, hj, rfl⟩ := kn_of h.2.1
      have hb : besN i j = true := by have := h.2.2; rw [nI_cl (by omega), nI_cl (by omega)] at this; exact this
      have hij := (bes_sym i hi j hj hb).2
      have hbv := bI_01 (v = nI 1)
      obtain ⟨hG, hT, hTM, hR, hRM, hr⟩ := hJ.1
      have c1 : Ch pCord w (W3 w (nI i) (nI j) (bI (v = nI 1))) := (Ch_sI (fun _ => rfl)).trans (Ch_si rfl)
      have hs1 := c1.sh hs
      have e24 : x_i (W3 w (nI i) (nI j) (bI (v = nI 1))) 24 = putC (x_i w 24) (nI i) (nI j) (bI (v = nI 1)) := by unfold W3; rw [x_i_sin _ _ _ _ (by decide), x_i_sI]
      have e42 : x_i (W3 w (nI i) (nI j) (bI (v = nI 1))) 42 = x_i w 42 := by unfold W3; rw [x_i_sin _ _ _ _ (by decide), x_i_sIn _ _ _ (by decide)]
      have e236 : x_i (W3 w (nI i) (nI j) (bI (v = nI 1))) 23 6 = nI 0 := by unfold W3; rw [x_i_si, upd_s]
      have e151 := fun (Q' : Option Value → x_W → Prop) => @S151 L xs (d + 9) (W3 w (nI i) (nI j) (bI (v = nI 1))) Q' (nI i) (nI j) v (bes_dec _ _) hs1
      generalize hw1 : W3 w (nI i) (nI j) (bI (v = nI 1)) = w1 at *
      have c2 : Ch pCord w1 (x_sI w1 42 (putC (x_i w1 42) (nI i) (nI j) (bI (v = nI 1)))) := Ch_sI (fun _ => rfl)
      have f24 : x_i (x_sI w1 42 (putC (x_i w1 42) (nI i) (nI j) (bI (v = nI 1)))) 24 = putC (x_i w 24) (nI i) (nI j) (bI (v = nI 1)) := by rw [x_i_sIn _ _ _ (by decide), e24]
      have f42 : x_i (x_sI w1 42 (putC (x_i w1 42) (nI i) (nI j) (bI (v = nI 1)))) 42 = putC (x_i w 42) (nI i) (nI j) (bI (v = nI 1)) := by rw [x_i_sI, e42]
      have f236 : x_i (x_sI w1 42 (putC (x_i w1 42) (nI i) (nI j) (bI (v = nI 1)))) 23 6 = nI 0 := by rw [x_i_sIn _ _ _ (by decide), e236]
      generalize hw2 : x_sI w1 42 (putC (x_i w1 42) (nI i) (nI j) (bI (v = nI 1))) = w2 at *
      have cc := c1.trans c2
      have hC2 := CdM_put hG.2.2.2.1 hi hj hb hbv
      have eans : bv (x_i w1 42 i) (nI j) = bv (x_i w 24 i) (nI j) := by rw [e42, ← hG.2.2.1.1 i hi]
      refine ⟨.int (bv (x_i w 24 i) (nI j)), w1, w2, (hJ.of cc KO_cord (Nat.le_refl _) (kd2 := kd) (td2 := td) (mo2 := mo) (kt2 := kt) (r2 := r) ?_).jj, fun Q => ?_, fun Q => ?_⟩
      · exact AGT.mk' (hG.1.1.gen cc rfl (fun _ => rfl) (six ⟨fun _ => rfl, fun _ => rfl, fun _ => rfl, fun _ => rfl, fun _ => rfl, fun _ => rfl⟩) (by rw [f24]; exact CdM_nb hC2)) (hG.2.1.1.gen cc rfl (fun _ => ⟨rfl, rfl, rfl, rfl⟩)) (Or.inl f236) ⟨by rw [f24, f42]; exact putC_cg hG.2.2.1.1 hi hj _, by rw [cc.2.2 23 1 rfl, cc.2.2 41 1 rfl]; exact hG.2.2.1.2⟩ (by rw [f24]; exact hC2) (by rw [f24]; exact Sy_put hG.2.2.2.2 hi hj hij hbv) (hT.gen cc rfl (KL_gp rfl rfl)) (hTM.ch cc rfl (fun _ => ⟨rfl, rfl⟩)) (hR.gen cc rfl) (hRM.gen cc rfl) hr
      · rw [e3 Q, if_pos h, if_pos hv, nI_cl (by omega)]
      · rw [e151 Q, if_pos h, if_pos hv, nI_cl (by omega), eans]
    · have e151 := fun (Q' : Option Value → x_W → Prop) => @S151 L xs (d + 9) w Q' a b v (bes_dec a b) hs
      refine CA_no (v := .int (-7)) hJ (fun Q => ?_) (fun Q => ?_)
      · rw [e3 Q, if_pos h, if_neg hv]
      · rw [e151 Q, if_pos h, if_neg hv]
  · have e151 := fun (Q' : Option Value → x_W → Prop) => @S151 L xs (d + 9) w Q' a b v (bes_dec a b) hs
    refine CA_no (v := .int (-5)) hJ (fun Q => ?_) (fun Q => ?_)
    · rw [e3 Q, if_neg h]
    · rw [e151 Q, if_neg h]
theorem CA_corded (hJ : J w S kd td mo kt nt r tls tks so sz) (a b : Int32) : CA L xs (d + 12) 5 154 [.ref 0, .int a, .int b] [.ref 41, .int a, .int b] w := by
  have hs := hJ.sh
  have e5 := fun (Q' : Option Value → x_W → Prop) => @S5 L xs (d + 10) w Q' a b (bes_dec a b) hs
  have e154 := fun (Q' : Option Value → x_W → Prop) => @S154 L xs (d + 9) w Q' a b (bes_dec a b) hs
  by_cases h : bes a b
  · obtain ⟨i, hi, rfl⟩ := kn_of h.1
    refine CA_no (v := .int (bv (x_i w 24 i) b)) hJ (fun Q => ?_) (fun Q => ?_)
    · rw [e5 Q, if_pos h, nI_cl (by omega)]
    · rw [e154 Q, if_pos h, nI_cl (by omega), hJ.ag.2.2.1.1 i hi]
  · refine CA_no (v := .int (-5)) hJ (fun Q => ?_) (fun Q => ?_)
    · rw [e5 Q, if_neg h]
    · rw [e154 Q, if_neg h]
def pTie : Nat → Nat → Bool := gp [] [(23, 1), (41, 1)]
theorem KO_tie : KO pTie := ⟨four ⟨fun _ => ⟨rfl, rfl⟩, fun _ => ⟨rfl, rfl⟩, fun _ => ⟨rfl, rfl⟩, fun _ => ⟨rfl, rfl⟩⟩, fun _ => ⟨rfl, rfl, rfl, rfl, rfl, rfl, rfl, rfl, rfl, rfl, rfl⟩, rfl, rfl, rfl, rfl, rfl, rfl⟩
theorem CA_tie (hJ : J w S kd td mo kt nt r tls tks so sz) (a v : Int32) : CA L xs (d + 12) 6 155 [.ref 0, .int a, .int v, x_junk] [.ref 41, .int a, .int v, x_junk] w := by
  have hs := hJ.sh
  have e6 := fun (Q' : Option Value → x_W → Prop) => S6 (L := L) (xs := xs) (d := d + 10) (w := w) (Q := Q') (a := a) (v := v) hs
  by_cases h : kn a
  · by_cases hv : v = nI 0 ∨ v = nI 1
    · obtain ⟨hG, hT, hTM, hR, hRM, hr⟩ := hJ.1
      have c1 : Ch pTie w (x_si w 23 1 (pc1 (bI (v = nI 1)) (x_i w 23 1) a)) := Ch_si rfl
      have hs1 := c1.sh hs
      have e155 := fun (Q' : Option Value → x_W → Prop) => S155 (L := L) (xs := xs) (d := d + 10) (w := x_si w 23 1 (pc1 (bI (v = nI 1)) (x_i w 23 1) a)) (Q := Q') (a := a) (v := v) hs1
      have e231 : x_i (x_si w 23 1 (pc1 (bI (v = nI 1)) (x_i w 23 1) a)) 23 1 = pc1 (bI (v = nI 1)) (x_i w 23 1) a := by rw [x_i_si, upd_s]
      have e236 : x_i (x_si w 23 1 (pc1 (bI (v = nI 1)) (x_i w 23 1) a)) 23 6 = x_i w 23 6 := by rw [x_i_si, upd_o (by decide)]
      have e411 : x_i (x_si w 23 1 (pc1 (bI (v = nI 1)) (x_i w 23 1) a)) 41 1 = x_i w 41 1 := by rw [x_i_sin _ _ _ _ (by decide)]
      generalize x_si w 23 1 (pc1 (bI (v = nI 1)) (x_i w 23 1) a) = w1 at *
      have c2 : Ch pTie w1 (x_si w1 41 1 (pc1 (bI (v = nI 1)) (x_i w1 41 1) a)) := Ch_si rfl
      have f411 : x_i (x_si w1 41 1 (pc1 (bI (v = nI 1)) (x_i w1 41 1) a)) 41 1 = pc1 (bI (v = nI 1)) (x_i w 41 1) a := by rw [x_i_si, upd_s, e411]
      have f231 : x_i (x_si w1 41 1 (pc1 (bI (v = nI 1)) (x_i w1 41 1) a)) 23 1 = pc1 (bI (v = nI 1)) (x_i w 23 1) a := by rw [x_i_sin _ _ _ _ (by decide), e231]
      have f236 : x_i (x_si w1 41 1 (pc1 (bI (v = nI 1)) (x_i w1 41 1) a)) 23 6 = x_i w 23 6 := by rw [x_i_sin _ _ _ _ (by decide), e236]
      rw [e411] at e155
      generalize hw2 : x_si w1 41 1 (pc1 (bI (v = nI 1)) (x_i w1 41 1) a) = w2 at *
      rw [e411] at hw2
      rw [hw2] at e155
      have cc := c1.trans c2
      have f24 : x_i w2 24 = x_i w 24 := cc.i (fun _ => rfl)
      refine ⟨.int (bv (x_i w 23 1) a), w1, w2, (hJ.of cc KO_tie (Nat.le_refl _) (kd2 := kd) (td2 := td) (mo2 := mo) (kt2 := kt) (r2 := r) ?_).jj, fun Q => ?_, fun Q => ?_⟩
      · exact AGT.mk' (hG.1.1.gen cc rfl (fun _ => rfl) (six ⟨fun _ => rfl, fun _ => rfl, fun _ => rfl, fun _ => rfl, fun _ => rfl, fun _ => rfl⟩) (by rw [f24]; exact hG.1.1.nb)) (hG.2.1.1.gen cc rfl (fun _ => ⟨rfl, rfl, rfl, rfl⟩)) (hG.1.2.2.of f236 (cc.i (fun _ => rfl)) f24) ⟨by rw [f24, cc.i (fun _ => rfl : ∀ k, pTie 42 k = false)]; exact hG.2.2.1.1, by rw [f231, f411, hG.2.2.1.2]⟩ (by rw [f24]; exact hG.2.2.2.1) (by rw [f24]; exact hG.2.2.2.2) (hT.gen cc rfl (KL_gp rfl rfl)) (hTM.ch cc rfl (fun _ => ⟨rfl, rfl⟩)) (hR.gen cc rfl) (hRM.gen cc rfl) hr
      · rw [e6 Q, if_pos h, if_pos hv]
      · rw [e155 Q, if_pos h, if_pos hv, hG.2.2.1.2]
    · have e155 := fun (Q' : Option Value → x_W → Prop) => S155 (L := L) (xs := xs) (d := d + 10) (w := w) (Q := Q') (a := a) (v := v) hs
      refine CA_no (v := .int (-7)) hJ (fun Q => ?_) (fun Q => ?_)
      · rw [e6 Q, if_pos h, if_neg hv]
      · rw [e155 Q, if_pos h, if_neg hv]
  · have e155 := fun (Q' : Option Value → x_W → Prop) => S155 (L := L) (xs := xs) (d := d + 10) (w := w) (Q := Q') (a := a) (v := v) hs
    refine CA_no (v := .int (-5)) hJ (fun Q => ?_) (fun Q => ?_)
    · rw [e6 Q, if_neg h]
    · rw [e155 Q, if_neg h]
theorem sw_5 {v : Int32} (h : ¬ (nI 0 ≤ v ∧ v ≤ nI 5)) : v.toInt < 0 ∨ 5 < v.toInt := by
  have h0 : (nI 0).toInt = 0 := rfl
  have h5 : (nI 5).toInt = 5 := rfl
  rw [Int32.le_iff_toInt_le, Int32.le_iff_toInt_le, h0, h5] at h
  omega
theorem CA_count (hJ : J w S kd td mo kt nt r tls tks so sz) (v : Int32) : CA L xs (d + 12) 7 156 [.ref 0, .int v] [.ref 41, .int v] w := by
  have hs := hJ.sh
  by_cases h : nI 0 ≤ v ∧ v ≤ nI 5
  · obtain ⟨j, hj, rfl⟩ := in_of (n := 5) rfl h
    obtain ⟨hG, hT, hTM, hR, hRM, hr⟩ := hJ.1
    obtain ⟨n, hn, t1, t2, _⟩ := hJ.2.2.1
    have eq : [x_i w 41 2, sumI (fun k => bitsF (x_i w 42 k) 20) 20 / nI 2, x_i w 41 1, x_i w 41 11, x_i w 41 12, x_i w 41 8] = [x_i w 22 4, sumI (fun k => bcF (x_i w 24 k)) 20 / nI 2, x_i w 23 1, x_i w 0 2, x_i w 0 3, x_i w 1 1] := by
      have hRM' : x_i w 41 12 = nI r := hRM
      rw [hG.1.1.hS, hG.2.1.1.hS, cords_eq hG.2.2.2.1 hG.2.2.1.1, hG.2.2.1.2, hTM.1, hT.2.2.1, hRM', hR.1, t1, t2]
    refine CA_no (v := .int ([x_i w 22 4, sumI (fun k => bcF (x_i w 24 k)) 20 / nI 2, x_i w 23 1, x_i w 0 2, x_i w 0 3, x_i w 1 1].getD j (nI 0))) hJ (fun Q => ?_) (fun Q => ?_)
    · exact S7 (d := d + 10) hs (show j < 6 by omega)
    · rw [S156 (d := d + 10) hs (show j < 6 by omega), eq]
  · refine CA_no (v := .int (-2)) hJ (fun Q => ?_) (fun Q => ?_)
    · exact S7n (d := d + 10) (sw_5 h)
    · exact S156n (d := d + 10) (sw_5 h)
theorem AQ_depth {tl : Nat → Nat} {tk : Nat → Nat → Nat} (h : AG w S kd td mo kt tl tk) (a : Int32) : AQ L xs (d + 12) 18 173 [.ref 0, .int a] [.ref 41, .int a] w := by
  have hs := h.1.sh
  have e18 := fun (Q' : Option Value → x_W → Prop) => S18 (L := L) (xs := xs) (d := d + 8) (Q := Q') (a := a) h.1.1
  by_cases hk : kn a
  · have c1 : Ch (sm [25, 26, 27]) w (WXs w (XL S kd td mo kt)) := Ch_WX
    have cA := c1.ma rfl
    have e173 := fun (Q' : Option Value → x_W → Prop) => S173 (L := L) (xs := xs) (d := d + 9) (Q := Q') (a := a) (h.2.1.1.ch cA)
    have c2 : Ch (sm [60, 61, 62]) (WXs w (XL S kd td mo kt)) (WHs (WXs w (XL S kd td mo kt)) (XL S kd td mo kt)) := Ch_WH
    obtain ⟨i, hi, rfl⟩ := kn_of hk
    have eD : MD (WXs w (XL S kd td mo kt)) (XL S kd td mo kt) 12 i = XD w (XL S kd td mo kt) 12 i := by
      rw [XD_MD h.2.2.1 _ _ i hi]
      unfold MD
      rw [EM.C cA, cA.2.2 41 1 rfl]
    refine ⟨.int (nI (XD w (XL S kd td mo kt) 12 i)), WXs w (XL S kd td mo kt), WHs (WXs w (XL S kd td mo kt)) (XL S kd td mo kt), cA.trans (c2.ma rfl), (h.1.2.2.m c1 rfl rfl rfl).m c2 rfl rfl rfl, fun Q => ?_, fun Q => ?_⟩
    · rw [e18 Q, if_pos hk, nI_cl (by omega)]
    · rw [e173 Q, if_pos hk, nI_cl (by omega), eD]
  · have e173 := fun (Q' : Option Value → x_W → Prop) => S173 (L := L) (xs := xs) (d := d + 9) (Q := Q') (a := a) h.2.1.1
    refine AQ_no (v := .int (-5)) h.1.2.2 (fun Q => ?_) (fun Q => ?_)
    · rw [e18 Q, if_neg hk]
    · rw [e173 Q, if_neg hk]
theorem AQ_pull {tl : Nat → Nat} {tk : Nat → Nat → Nat} (h : AG w S kd td mo kt tl tk) (a b : Int32) : AQ L xs (d + 12) 19 178 [.ref 0, .int a, .int b] [.ref 41, .int a, .int b] w := by
  have hs := h.1.sh
  have e19 := fun (Q' : Option Value → x_W → Prop) => @S19 L xs (d + 8) w Q' S kd td mo kt a b (bes_dec a b) h.1.1
  by_cases hk : bes a b
  · have c1 : Ch (sm [25, 26, 27]) w (WXs w (XL S kd td mo kt)) := Ch_WX
    have cA := c1.ma rfl
    have e178 := fun (Q' : Option Value → x_W → Prop) => @S178 L xs (d + 9) (WXs w (XL S kd td mo kt)) Q' S kd td mo kt a b (bes_dec a b) (h.2.1.1.ch cA)
    have c2 : Ch (sm [60, 61, 62]) (WXs w (XL S kd td mo kt)) (WHs (WXs w (XL S kd td mo kt)) (XL S kd td mo kt)) := Ch_WH
    obtain ⟨i, hi, rfl⟩ := kn_of hk.1
    obtain ⟨j, hj, rfl⟩ := kn_of hk.2.1
    have eD : plN (cbN (x_i (WXs w (XL S kd td mo kt)) 42)) (MD (WXs w (XL S kd td mo kt)) (XL S kd td mo kt) 12) i j = plN (cbN (x_i w 24)) (XD w (XL S kd td mo kt) 12) i j := by
      rw [pl_eq h.2.2.1 _ hi hj]
      unfold MD
      rw [EM.C cA, cA.2.2 41 1 rfl]
    refine ⟨.int (nI (plN (cbN (x_i w 24)) (XD w (XL S kd td mo kt) 12) i j)), WXs w (XL S kd td mo kt), WHs (WXs w (XL S kd td mo kt)) (XL S kd td mo kt), cA.trans (c2.ma rfl), (h.1.2.2.m c1 rfl rfl rfl).m c2 rfl rfl rfl, fun Q => ?_, fun Q => ?_⟩
    · rw [e19 Q, if_pos hk, nI_cl (by omega), nI_cl (by omega)]
    · rw [e178 Q, if_pos hk, nI_cl (by omega), nI_cl (by omega), eD]
  · have e178 := fun (Q' : Option Value → x_W → Prop) => @S178 L xs (d + 9) w Q' S kd td mo kt a b (bes_dec a b) h.2.1.1
    refine AQ_no (v := .int (-5)) h.1.2.2 (fun Q => ?_) (fun Q => ?_)
    · rw [e19 Q, if_neg hk]
    · rw [e178 Q, if_neg hk]
theorem CA_force (hJ : J w S kd td mo kt nt r tls tks so sz) (v : Int32) : CA L xs (d + 12) 12 161 [.ref 0, .int v, x_junk] [.ref 41, .int v, x_junk] w := by
  have hs := hJ.sh
  obtain ⟨hG, hT, hTM, hR, hRM, hr⟩ := hJ.1
  have e12 := fun (Q' : Option Value → x_W → Prop) => S12 (L := L) (xs := xs) (d := d + 10) (Q := Q') (v := v) hs hT hR
  have hn6 := hT.2.1
  by_cases h : slp nt v
  · obtain ⟨t, ht, rfl⟩ := slp_of hn6 h
    have c1 := ChR_obey (w := w) (l := []) t
    have hX2 := EX_obey hG.1.1 hT hG.1.2.2 ht
    have hs1 := hX2.sh
    have hl : ∀ a, lawC a → ∀ k, p03 [] (a + 1) k = false ∧ p03 [] (a + 2) k = false := fun a ha k => p03_law rfl ha k
    have hT1 := hT.chR c1 rfl hl
    have o03 := obey_03 (w := w) t
    have o22 := obey_22 (w := w) t
    have ei : ∀ b, b ≠ 0 → x_i (obeyW w t) b = x_i w b := fun b hb => by unfold obeyW; rw [x_i_sr, x_i_sin _ _ _ _ hb]
    have er : ∀ b, b ≠ 22 → x_r (obeyW w t) b = x_r w b := fun b hb => by funext k; exact c1.rr hb k
    have hlen : (obeyW w t).1 = w.1 := c1.1
    have hTM1 : TM (obeyW w t) nt tls tks := by
      refine ⟨by rw [ei 41 (by decide)]; exact hTM.1, fun t tn p p3 => ?_⟩
      unfold PartM
      rw [ei 49 (by decide), ei 48 (by decide)]
      exact hTM.2 t tn p p3
    have hRM1 : RM (obeyW w t) r := by
      have h' : x_i w 41 12 = nI r := hRM
      show x_i (obeyW w t) 41 12 = nI r
      rw [ei 41 (by decide)]; exact h'
    have e161 := fun (Q' : Option Value → x_W → Prop) => S161 (L := L) (xs := xs) (d := d + 10) (Q := Q') (v := nI t) hs1 hTM1 hn6 hRM1
    have hM1 : CM (obeyW w t) S kd td mo kt := ⟨hs1, by rw [ei 41 (by decide)]; exact hG.2.1.1.hS, hG.1.1.S6, fun s hs' => by rw [ei 43 (by decide), ei 44 (by decide), ei 45 (by decide), ei 46 (by decide)]; exact hG.2.1.1.M s hs'⟩
    have hA1 : AgC (obeyW w t) := by unfold AgC; rw [ei 24 (by decide), ei 42 (by decide), ei 23 (by decide), ei 41 (by decide)]; exact hG.2.2.1
    have hC1 : CdM (x_i (obeyW w t) 24) := by rw [ei 24 (by decide)]; exact hG.2.2.2.1
    have hS1 : Sy (x_i (obeyW w t) 24) := by rw [ei 24 (by decide)]; exact hG.2.2.2.2
    have hSH1 : SHT (obeyW w t) so sz := by
      intro s h4
      rw [ei (14 + 2 * s) (by omega), ei (15 + 2 * s) (by omega), ei 52 (by decide), ei 53 (by decide), ei 54 (by decide)]
      exact hJ.2.1 s h4
    have hTP1 : TPE (obeyW w t) := by unfold TPE WD; rw [ei 1 (by decide), ei 41 (by decide), ei 2 (by decide), ei 47 (by decide), ei 56 (by decide)]; exact hJ.2.2.1
    have hI1 : IMG (obeyW w t) S nt := by unfold IMG; rw [ei 7 (by decide), ei 41 (by decide), ei 8 (by decide), ei 9 (by decide), ei 50 (by decide), ei 51 (by decide)]; exact hJ.2.2.2.1
    have hlen1 : (obeyW w t).1.length = 62 + 4 * nt := by rw [hlen]; exact hJ.2.2.2.2
    have e12' := e12
    rw [nI_cl (show t < 2 ^ 31 by omega)] at e12'
    generalize obeyW w t = w1 at *
    have c2 : Ch (gp [] [(41, 12)]) w1 (x_si w1 41 12 (nI t)) := Ch_si rfl
    have f12 : RM (x_si w1 41 12 (nI t)) t := by
      show x_i (x_si w1 41 12 (nI t)) 41 12 = nI t
      rw [x_i_si, upd_s]
    generalize hw2 : x_si w1 41 12 (nI t) = w2 at *
    have f24 : x_i w2 24 = x_i w1 24 := c2.i (fun _ => rfl)
    refine ⟨.int (nI r), w1, w2, ⟨S, kd, td, mo, kt, nt, t, tls, tks, so, sz, ?_⟩, fun Q => ?_, fun Q => ?_⟩
    · refine ⟨AGT.mk' (hX2.1.gen c2 rfl (fun _ => rfl) (six ⟨fun _ => rfl, fun _ => rfl, fun _ => rfl, fun _ => rfl, fun _ => rfl, fun _ => rfl⟩) (by rw [f24]; exact hX2.1.nb)) (hM1.gen c2 rfl (fun _ => ⟨rfl, rfl, rfl, rfl⟩)) (hX2.2.2.of (c2.2.2 23 6 rfl) (c2.i (fun _ => rfl)) f24) (hA1.gen c2 (fun _ => ⟨rfl, rfl⟩) rfl rfl) (by rw [f24]; exact hC1) (by rw [f24]; exact hS1) (hT1.gen c2 rfl (KL_gp rfl rfl)) (hTM1.ch c2 rfl (fun _ => ⟨rfl, rfl⟩)) ⟨by rw [c2.2.2 0 3 rfl]; exact o03, by rw [c2.r]; exact o22⟩ f12 ht, hSH1.gen c2 (four ⟨fun _ => ⟨rfl, rfl⟩, fun _ => ⟨rfl, rfl⟩, fun _ => ⟨rfl, rfl⟩, fun _ => ⟨rfl, rfl⟩⟩) (fun _ => ⟨rfl, rfl, rfl⟩), hTP1.gen c2 rfl rfl (fun _ => ⟨rfl, rfl, rfl⟩), hI1.gen c2 (fun _ => ⟨rfl, rfl, rfl, rfl, rfl⟩) ⟨rfl, rfl, rfl, rfl⟩, c2.len hlen1⟩
    · rw [e12' Q, if_pos h]
    · rw [e161 Q, if_pos h]
  · have e161 := fun (Q' : Option Value → x_W → Prop) => S161 (L := L) (xs := xs) (d := d + 10) (Q := Q') (v := v) hs hTM hn6 hRM
    refine CA_no (v := .int (-2)) hJ (fun Q => ?_) (fun Q => ?_)
    · rw [e12 Q, if_neg h]
    · rw [e161 Q, if_neg h]
end S995
