/-! ===== the texts; obeying another; force, laws ===== -/
def lawA (t : Nat) : Nat := if t = 0 then 10 else 62 + 4 * t
theorem lawA_C {t : Nat} (h : t < 6) : lawC (lawA t) := by
  unfold lawA lawC
  split
  · exact Or.inl rfl
  · exact Or.inr (by omega)
theorem lawA_ne {t : Nat} (h : t < 6) : lawA t ≠ 22 ∧ lawA t + 1 ≠ 34 ∧ lawA t + 2 ≠ 34 := by
  unfold lawA
  split <;> omega
/-- the class's texts -/
def TX (w : x_W) (nt : Nat) (tls : Nat → Nat → Nat) (tks : Nat → Nat → Nat → Nat) : Prop := 1 ≤ nt ∧ nt ≤ 6 ∧ x_i w 0 2 = nI nt ∧ ∀ t, t < nt → x_r w 5 t = .ref (lawA t) ∧ ∃ n, LawX w (lawA t) (lawA t + 1) (lawA t + 2) (lawA t + 3) n ∧ ∀ p, p < 3 → PartX w (lawA t + 1) (lawA t + 2) n p (offT (tls t) p) (offT (tls t) p + tls t p) (tks t p) ∧ WfP (tks t p) (tls t p)
/-- the reference's -/
def TM (w : x_W) (nt : Nat) (tls : Nat → Nat → Nat) (tks : Nat → Nat → Nat → Nat) : Prop := x_i w 41 11 = nI nt ∧ ∀ t, t < nt → ∀ p, p < 3 → PartM w t p (offT (tls t) p) (offT (tls t) p + tls t p) (tks t p) ∧ WfP (tks t p) (tls t p)
def RX (w : x_W) (r : Nat) : Prop := x_i w 0 3 = nI r ∧ x_r w 22 1 = .ref (lawA r)
def RM (w : x_W) (r : Nat) : Prop := x_i w 41 12 = nI r
/-- as Ch, but for the law in force -/
def ChR (P : Nat → Nat → Bool) (w w' : x_W) : Prop := w'.1 = w.1 ∧ (∀ b k, ¬ (b = 22 ∧ k = 1) → x_r w' b k = x_r w b k) ∧ ∀ b k, P b k = false → x_i w' b k = x_i w b k
section
variable {P : Nat → Nat → Bool} {w w' w'' : x_W} {S nt r : Nat} {kd td mo kt : Nat → Nat} {tls : Nat → Nat → Nat} {tks : Nat → Nat → Nat → Nat}
theorem ChR.of (h : Ch P w w') : ChR P w w' := ⟨h.1, fun b k _ => by rw [h.r b], h.2.2⟩
theorem ChR.refl : ChR P w w := ⟨rfl, fun _ _ _ => rfl, fun _ _ _ => rfl⟩
theorem ChR.trans (h : ChR P w w') (h' : ChR P w' w'') : ChR P w w'' := ⟨h'.1.trans h.1, fun b k hb => (h'.2.1 b k hb).trans (h.2.1 b k hb), fun b k hb => (h'.2.2 b k hb).trans (h.2.2 b k hb)⟩
theorem ChR.mono {P' : Nat → Nat → Bool} (h : ChR P w w') (hp : ∀ b k, P' b k = false → P b k = false) : ChR P' w w' := ⟨h.1, h.2.1, fun b k hb => h.2.2 b k (hp b k hb)⟩
theorem ChR.t (h : ChR P w w') (b : Nat) : x_tag w' b = x_tag w b := by unfold x_tag; rw [h.1]
theorem ChR.rr (h : ChR P w w') {b : Nat} (hb : b ≠ 22) (k : Nat) : x_r w' b k = x_r w b k := h.2.1 b k (fun q => hb q.1)
theorem ChR.i (h : ChR P w w') {b : Nat} (hb : ∀ k, P b k = false) : x_i w' b = x_i w b := funext fun k => h.2.2 b k (hb k)
theorem R0_22_1 : ∀ q ∈ R0, ¬ (q.1 = 22 ∧ q.2.1 = 1) := by decide
theorem ChR.sh (h : ChR P w w') (hs : Sh w) : Sh w' := ⟨fun a t ht => by rw [h.1]; exact hs.1 a t ht, fun q hq => (h.2.1 q.1 q.2.1 (R0_22_1 q hq)).trans (hs.2 q hq)⟩
theorem ChR.sd (h : ChR P w w') (hd : Sd w) : Sd w' := ⟨(h.rr (by decide) 3).trans hd.1, (h.rr (by decide) 4).trans hd.2⟩
theorem CX.genR (h : CX w S kd td mo kt) (hc : ChR P w w') (h22 : P 22 4 = false) (h30 : ∀ k, P 30 k = false) (h35 : ∀ s, s < 6 → ∀ k, P (35 + s) k = false) (h24 : ∀ k, P 24 k = false) : CX w' S kd td mo kt := by
  have h6 := h.S6
  refine ⟨hc.sh h.sh, hc.sd h.sd, by rw [hc.2.2 22 4 h22]; exact h.hS, h6, ⟨fun s hs => ?_, fun s hs => ?_⟩, h.bd, by rw [hc.i h24]; exact h.nb⟩
  · rw [hc.i (h35 s hs), hc.i h30]; exact h.X.1 s hs
  · rw [hc.i (h35 s (by omega))]; exact h.X.2 s hs
theorem LawX.chR {a A E K n : Nat} (h : LawX w a A E K n) (ha : a ≠ 22) (hc : ChR P w w') : LawX w' a A E K n := by
  unfold LawX at *
  rw [hc.t, hc.t, hc.t, hc.t, hc.rr ha, hc.rr ha, hc.rr ha]
  exact h
theorem TX.chR (h : TX w nt tls tks) (hc : ChR P w w') (h2 : P 0 2 = false) (hl : ∀ a, lawC a → ∀ k, P (a + 1) k = false ∧ P (a + 2) k = false) : TX w' nt tls tks := by
  obtain ⟨h1, h6, hn, ht⟩ := h
  refine ⟨h1, h6, by rw [hc.2.2 0 2 h2]; exact hn, fun t tn => ?_⟩
  obtain ⟨hr, n, hL, hp⟩ := ht t tn
  have hC := lawA_C (show t < 6 by omega)
  refine ⟨(hc.rr (by decide) t).trans hr, n, hL.chR (lawA_ne (by omega)).1 hc, fun p p3 => ?_⟩
  unfold PartX
  rw [hc.i (fun k => (hl _ hC k).1), hc.i (fun k => (hl _ hC k).2)]
  exact hp p p3
theorem TX.lw (h : TX w nt tls tks) (hr : r < nt) (hR : x_r w 22 1 = .ref (lawA r)) : LwX w (tls r) (tks r) := by
  obtain ⟨_, h6, _, ht⟩ := h
  obtain ⟨_, n, hL, hp⟩ := ht r hr
  have hne := lawA_ne (show r < 6 by omega)
  exact ⟨lawA r, n, lawA_C (by omega), ⟨hL, hne.2.1, hne.2.2, hR⟩, hp⟩
theorem TM.lw (h : TM w nt tls tks) (h6 : nt ≤ 6) (hr : r < nt) (hR : x_i w 41 12 = nI r) : LwM w (tls r) (tks r) := ⟨r, by omega, hR, h.2 r hr⟩
theorem TM.ch (h : TM w nt tls tks) (hc : Ch P w w') (h41 : P 41 11 = false) (h49 : ∀ k, P 49 k = false ∧ P 48 k = false) : TM w' nt tls tks := by
  refine ⟨by rw [hc.2.2 41 11 h41]; exact h.1, fun t tn p p3 => ?_⟩
  unfold PartM
  rw [hc.i (fun k => (h49 k).1), hc.i (fun k => (h49 k).2)]
  exact h.2 t tn p p3
def obeyW (w : x_W) (t : Nat) : x_W := x_sr (x_si w 0 3 (nI t)) 22 1 (.ref (lawA t))
def p03 (l : List Nat) (b k : Nat) : Bool := sc l b k || (b == 0 && k == 3)
theorem ChR_obey {l : List Nat} (t : Nat) : ChR (p03 l) w (obeyW w t) := by
  refine ⟨rfl, fun b k hb => ?_, fun b k hb => ?_⟩
  · unfold obeyW
    by_cases h1 : b = 22
    · subst h1
      rw [x_r_srk _ _ _ _ (fun q => hb ⟨rfl, q⟩)]
      rfl
    · rw [x_r_srn _ _ _ _ h1]
      rfl
  · unfold p03 at hb
    rw [Bool.or_eq_false_iff] at hb
    unfold obeyW
    rw [x_i_sr]
    by_cases h1 : b = 0
    · subst h1
      rw [x_i_si, upd_o (fun q => by subst q; exact absurd hb.2 (by decide))]
    · rw [x_i_sin _ _ _ _ h1]
theorem obey_03 (t : Nat) : x_i (obeyW w t) 0 3 = nI t := by
  unfold obeyW
  rw [x_i_sr, x_i_si, upd_s]
theorem obey_22 (t : Nat) : x_r (obeyW w t) 22 1 = .ref (lawA t) := by
  unfold obeyW
  rw [x_r_sr]
theorem p03_law {l : List Nat} (hl : (l.all fun x => SA.elem x) = true) {a : Nat} (ha : lawC a) (k : Nat) : p03 l (a + 1) k = false ∧ p03 l (a + 2) k = false := by
  have h1 := sc_law ha k
  have e1 : (a + 1 == 0) = false := beq_false_of_ne (by omega)
  have e2 : (a + 2 == 0) = false := beq_false_of_ne (by omega)
  unfold p03
  rw [sc_sub (elem_sub hl) h1.1, sc_sub (elem_sub hl) h1.2.1, e1, e2]
  exact ⟨rfl, rfl⟩
end
section S96
variable {L : Nat} {xs : Nat → Int32} {d : Nat} {w w' : x_W} {S nt r : Nat} {kd td mo kt : Nat → Nat} {tls : Nat → Nat → Nat} {tks : Nat → Nat → Nat → Nat}
theorem S13 {Q : Option Value → x_W → Prop} (hs : Sh w) (hT : TX w nt tls tks) {t : Nat} (ht : t < nt) : X_R L xs d 13 0 [.ref 0, .int (nI t)] [] w Q = Q none (obeyW w t) := by
  obtain ⟨_, h6, _, h⟩ := hT
  have hr := (h t ht).1
  have tx := x_ix_nI (show t < 6 by omega) (show 6 < 2 ^ 31 by decide)
  have tc := nI_cl (show t < 2 ^ 31 by omega)
  have hs1 : Sh (x_si w 0 3 (nI t)) := hs
  simp only [X13_0, X13_1, X13_2, X13_5, X13_6, X13_9, X13_10, X13_13, X13_14, X13_15, X13_18, Nat.zero_le, and_true, true_and, x_nb0, x_nb1, x_nbp, x_isL_int, x_isL_ref, x_isL_junk, x_isR_ref, x_cat_nil, x_cat_int, x_cat_ref, x_cat_long, Option.toList_some, Option.toList_none, List.cons_append, List.nil_append, Nat.reduceAdd, Nat.reduceLeDiff, Nat.reduceLT, t_tag_si, t_tag_sr, t_tag_sI, x_r_si, x_i_sr, t_r_sI, x_ia_si, x_ia_sI, x_ia_sr, x_ra_si, x_ra_sI, x_ra_sr, g_t0 hs, g_t0 hs1, g_r0_4 hs1, g_r0_1 hs1, g_t22 hs1, g_a5 hs1, g_r0_4 hs, g_r0_1 hs, g_t22 hs, g_a5 hs, tx, tc, hr]
  rfl
theorem EX_obey (h : CX w S kd td mo kt) (hT : TX w nt tls tks) (hF : FarOk w) {t : Nat} (ht : t < nt) : EX (obeyW w t) S kd td mo kt (tls t) (tks t) := by
  have hc := ChR_obey (w := w) (l := []) t
  refine ⟨h.genR hc rfl (fun _ => rfl) (six ⟨fun _ => rfl, fun _ => rfl, fun _ => rfl, fun _ => rfl, fun _ => rfl, fun _ => rfl⟩) (fun _ => rfl), (hT.chR hc rfl (fun a ha k => p03_law rfl ha k)).lw ht (obey_22 t), ?_⟩
  refine hF.of ?_ ?_ ?_
  · unfold obeyW; rw [x_i_sr, x_i_sin _ _ _ _ (by decide)]
  · unfold obeyW; rw [x_i_sr, x_i_sin _ _ _ _ (by decide)]
  · unfold obeyW; rw [x_i_sr, x_i_sin _ _ _ _ (by decide)]
/-- both sides with their texts -/
def AGT (w : x_W) (S : Nat) (kd td mo kt : Nat → Nat) (nt r : Nat) (tls : Nat → Nat → Nat) (tks : Nat → Nat → Nat → Nat) : Prop := AG w S kd td mo kt (tls r) (tks r) ∧ TX w nt tls tks ∧ TM w nt tls tks ∧ RX w r ∧ RM w r ∧ r < nt
theorem S34l (h : CX w S kd td mo kt) (hT : TX w nt tls tks) {b : Nat} (hb : b < S) (v v3 : Int32) : ∀ n j, j + n = nt → ∀ w1, ChR (p03 [28, 34]) w w1 → FarOk w1 → ∃ w2, ChR (p03 [28, 34]) w w2 ∧ FarOk w2 ∧ ∀ Q, X_R L xs (d + 12) 34 39 [.ref 0, .int (nI b), .int v, .int v3, .int (wkM (fun t => decide (wkM (fun s => wkB kd td mo kt (tls t) (tks t) (farX w kt) s b) S = v)) j), .int (nI j)] [] w1 Q = X_R L xs (d + 12) 34 81 [.ref 0, .int (nI b), .int v, .int v3, .int (wkM (fun t => decide (wkM (fun s => wkB kd td mo kt (tls t) (tks t) (farX w kt) s b) S = v)) nt), .int (nI nt)] [] w2 Q := by
  intro n
  induction n with
  | zero =>
    intro j hj w1 c1 hF1
    obtain rfl : j = nt := by omega
    have hT1 := hT.chR c1 rfl (fun a ha k => p03_law rfl ha k)
    have hs1 := c1.sh h.sh
    refine ⟨w1, c1, hF1, fun Q => ?_⟩
    rw [X34_39]
    simp only [X34_41, X34_42, X34_45, Nat.zero_le, and_true, true_and, x_nb0, x_nb1, x_nbp, x_isL_int, x_isL_ref, x_isL_junk, x_isR_ref, x_cat_nil, x_cat_int, x_cat_ref, x_cat_long, Option.toList_some, Option.toList_none, List.cons_append, List.nil_append, Nat.reduceAdd, Nat.reduceLeDiff, Nat.reduceLT, t_tag_si, t_tag_sr, t_tag_sI, x_r_si, x_i_sr, t_r_sI, x_ia_si, x_ia_sI, x_ia_sr, x_ra_si, x_ra_sI, x_ra_sr, g_t0 hs1, hT1.2.2.1, nI_leT (Nat.le_refl j) (show j < 2 ^ 31 by have := hT1.2.1; omega), if_true]
  | succ n ih =>
    intro j hj w1 c1 hF1
    have hT1 := hT.chR c1 rfl (fun a ha k => p03_law rfl ha k)
    have hX1 := h.genR c1 rfl (fun _ => rfl) (six ⟨fun _ => rfl, fun _ => rfl, fun _ => rfl, fun _ => rfl, fun _ => rfl, fun _ => rfl⟩) (fun _ => rfl)
    have hs1 := hX1.sh
    have hE2 := EX_obey hX1 hT1 hF1 (show j < nt by omega)
    obtain ⟨w3, c3, hF3, e65⟩ := S65 (L := L) (xs := xs) (d := d + 6) hE2 hb
    have hs2 := hE2.sh
    have e13 := fun (Q' : Option Value → x_W → Prop) => S13 (L := L) (xs := xs) (d := d + 11) (Q := Q') hs1 hT1 (show j < nt by omega)
    have eC : farX (obeyW w1 j) kt = farX w kt := by
      funext p q
      unfold farX
      have e1 : x_i (obeyW w1 j) 24 = x_i w1 24 := by unfold obeyW; rw [x_i_sr, x_i_sin _ _ _ _ (by decide)]
      rw [e1, c1.i (fun _ => rfl : ∀ k, p03 [28, 34] 24 k = false)]
    rw [eC] at e65
    have c13 : ChR (p03 [28, 34]) w w3 := (c1.trans (ChR_obey j)).trans ((ChR.of c3).mono (fun b k hb => by
      unfold p03 at hb
      rw [Bool.or_eq_false_iff] at hb
      exact hb.1))
    obtain ⟨w4, c4, hF4, e4⟩ := ih (j + 1) (by omega) w3 c13 hF3
    refine ⟨w4, c4, hF4, fun Q => ?_⟩
    rw [← e4 Q, X34_39]
    by_cases hv : wkM (fun s => wkB kd td mo kt (tls j) (tks j) (farX w kt) s b) S = v
    · rw [wkM_t (W := fun t => decide (wkM (fun s => wkB kd td mo kt (tls t) (tks t) (farX w kt) s b) S = v)) (decide_eq_true hv)]
      simp only [X34_0, X34_1, X34_4, X34_5, X34_8, X34_11, X34_13, X34_14, X34_15, X34_18, X34_19, X34_22, X34_25, X34_27, X34_28, X34_29, X34_32, X34_33, X34_34, X34_36, X34_37, X34_41, X34_42, X34_45, X34_48, X34_49, X34_51, X34_54, X34_55, X34_58, X34_59, X34_62, X34_63, X34_66, X34_68, X34_69, X34_71, X34_72, X34_73, X34_75, X34_78, X34_81, X34_82, X34_83, X34_86, X34_88, Nat.zero_le, and_true, true_and, x_nb0, x_nb1, x_nbp, x_isL_int, x_isL_ref, x_isL_junk, x_isR_ref, x_cat_nil, x_cat_int, x_cat_ref, x_cat_long, Option.toList_some, Option.toList_none, List.cons_append, List.nil_append, Nat.reduceAdd, Nat.reduceLeDiff, Nat.reduceLT, t_tag_si, t_tag_sr, t_tag_sI, x_r_si, x_i_sr, t_r_sI, x_ia_si, x_ia_sI, x_ia_sr, x_ra_si, x_ra_sI, x_ra_sr, g_t0 hs1, hT1.2.2.1, nI_leF (show j < nt by omega) (show nt < 2 ^ 31 by have := hT1.2.1; omega), if_false, e13, g_t0 hs2, g_r0_4 hs2, g_t22 hs2, e65, eq_true hv, if_true, nI_add]
    · rw [wkM_f (W := fun t => decide (wkM (fun s => wkB kd td mo kt (tls t) (tks t) (farX w kt) s b) S = v)) (by rw [decide_eq_false hv]; decide)]
      simp only [X34_0, X34_1, X34_4, X34_5, X34_8, X34_11, X34_13, X34_14, X34_15, X34_18, X34_19, X34_22, X34_25, X34_27, X34_28, X34_29, X34_32, X34_33, X34_34, X34_36, X34_37, X34_41, X34_42, X34_45, X34_48, X34_49, X34_51, X34_54, X34_55, X34_58, X34_59, X34_62, X34_63, X34_66, X34_68, X34_69, X34_71, X34_72, X34_73, X34_75, X34_78, X34_81, X34_82, X34_83, X34_86, X34_88, Nat.zero_le, and_true, true_and, x_nb0, x_nb1, x_nbp, x_isL_int, x_isL_ref, x_isL_junk, x_isR_ref, x_cat_nil, x_cat_int, x_cat_ref, x_cat_long, Option.toList_some, Option.toList_none, List.cons_append, List.nil_append, Nat.reduceAdd, Nat.reduceLeDiff, Nat.reduceLT, t_tag_si, t_tag_sr, t_tag_sI, x_r_si, x_i_sr, t_r_sI, x_ia_si, x_ia_sI, x_ia_sr, x_ra_si, x_ra_sI, x_ra_sr, g_t0 hs1, hT1.2.2.1, nI_leF (show j < nt by omega) (show nt < 2 ^ 31 by have := hT1.2.1; omega), if_false, e13, g_t0 hs2, g_r0_4 hs2, g_t22 hs2, e65, eq_false hv, nI_add]
def p412 (l : List Nat) (b k : Nat) : Bool := sm l b k || (b == 41 && k == 12)
theorem S214l (h : CM w S kd td mo kt) (hT : TM w nt tls tks) (h6 : nt ≤ 6) {b : Nat} (hb : b < S) (v v3 : Int32) : ∀ n j, j + n = nt → ∀ w1, Ch (p412 [58, 59]) w w1 → ∃ w2, Ch (p412 [58, 59]) w w2 ∧ ∀ Q, X_R L xs (d + 12) 214 37 [.ref 41, .int (nI b), .int v, .int v3, .int (wkM (fun t => decide (wkM (fun s => wkB kd td mo kt (tls t) (tks t) (farM w kt) s b) S = v)) j), .int (nI j)] [] w1 Q = X_R L xs (d + 12) 214 80 [.ref 41, .int (nI b), .int v, .int v3, .int (wkM (fun t => decide (wkM (fun s => wkB kd td mo kt (tls t) (tks t) (farM w kt) s b) S = v)) nt), .int (nI nt)] [] w2 Q := by
  intro n
  induction n with
  | zero =>
    intro j hj w1 c1
    obtain rfl : j = nt := by omega
    have hT1 := hT.ch c1 rfl (fun _ => ⟨rfl, rfl⟩)
    have hs1 := c1.sh h.sh
    refine ⟨w1, c1, fun Q => ?_⟩
    rw [X214_37]
    simp only [X214_39, X214_40, X214_43, Nat.zero_le, and_true, true_and, x_nb0, x_nb1, x_nbp, x_isL_int, x_isL_ref, x_isL_junk, x_isR_ref, x_cat_nil, x_cat_int, x_cat_ref, x_cat_long, Option.toList_some, Option.toList_none, List.cons_append, List.nil_append, Nat.reduceAdd, Nat.reduceLeDiff, Nat.reduceLT, t_tag_si, t_tag_sr, t_tag_sI, x_r_si, x_i_sr, t_r_sI, x_ia_si, x_ia_sI, x_ia_sr, x_ra_si, x_ra_sI, x_ra_sr, g_t41 hs1, hT1.1, nI_leT (Nat.le_refl j) (show j < 2 ^ 31 by omega), if_true]
  | succ n ih =>
    intro j hj w1 c1
    have hT1 := hT.ch c1 rfl (fun _ => ⟨rfl, rfl⟩)
    have hM1 := h.gen c1 rfl (fun _ => ⟨rfl, rfl, rfl, rfl⟩)
    have hs1 := hM1.sh
    have cA : Ch (p412 [58, 59]) w1 (x_si w1 41 12 (nI j)) := Ch_si rfl
    have hE2 : EM (x_si w1 41 12 (nI j)) S kd td mo kt (tls j) (tks j) := ⟨hM1.gen cA rfl (fun _ => ⟨rfl, rfl, rfl, rfl⟩), (hT1.ch cA rfl (fun _ => ⟨rfl, rfl⟩)).lw h6 (by omega) (by rw [x_i_si, upd_s])⟩
    obtain ⟨w3, c3, e65⟩ := S196 (L := L) (xs := xs) (d := d + 6) hE2 hb
    have hs2 := hE2.sh
    have eC : farM (x_si w1 41 12 (nI j)) kt = farM w kt := by
      funext p q
      unfold farM
      rw [x_i_sin _ _ _ _ (by decide), c1.i (fun _ => rfl : ∀ k, p412 [58, 59] 42 k = false)]
    rw [eC] at e65
    have c13 : Ch (p412 [58, 59]) w w3 := (c1.trans cA).trans (c3.mono (fun b k hb => by
      unfold p412 at hb
      rw [Bool.or_eq_false_iff] at hb
      exact hb.1))
    obtain ⟨w4, c4, e4⟩ := ih (j + 1) (by omega) w3 c13
    refine ⟨w4, c4, fun Q => ?_⟩
    rw [← e4 Q, X214_37]
    by_cases hv : wkM (fun s => wkB kd td mo kt (tls j) (tks j) (farM w kt) s b) S = v
    · rw [wkM_t (W := fun t => decide (wkM (fun s => wkB kd td mo kt (tls t) (tks t) (farM w kt) s b) S = v)) (decide_eq_true hv)]
      simp only [X214_0, X214_1, X214_2, X214_5, X214_8, X214_10, X214_11, X214_12, X214_13, X214_14, X214_17, X214_20, X214_23, X214_25, X214_26, X214_27, X214_30, X214_31, X214_32, X214_34, X214_35, X214_39, X214_40, X214_43, X214_46, X214_47, X214_49, X214_52, X214_54, X214_55, X214_56, X214_59, X214_60, X214_63, X214_64, X214_66, X214_67, X214_70, X214_71, X214_72, X214_74, X214_77, X214_80, X214_81, X214_82, X214_85, X214_87, Nat.zero_le, and_true, true_and, x_nb0, x_nb1, x_nbp, x_isL_int, x_isL_ref, x_isL_junk, x_isR_ref, x_cat_nil, x_cat_int, x_cat_ref, x_cat_long, Option.toList_some, Option.toList_none, List.cons_append, List.nil_append, Nat.reduceAdd, Nat.reduceLeDiff, Nat.reduceLT, t_tag_si, t_tag_sr, t_tag_sI, x_r_si, x_i_sr, t_r_sI, x_ia_si, x_ia_sI, x_ia_sr, x_ra_si, x_ra_sI, x_ra_sr, g_t41 hs1, hT1.1, nI_leF (show j < nt by omega) (show nt < 2 ^ 31 by omega), if_false, g_t41 hs2, e65, eq_true hv, if_true, nI_add]
    · rw [wkM_f (W := fun t => decide (wkM (fun s => wkB kd td mo kt (tls t) (tks t) (farM w kt) s b) S = v)) (by rw [decide_eq_false hv]; decide)]
      simp only [X214_0, X214_1, X214_2, X214_5, X214_8, X214_10, X214_11, X214_12, X214_13, X214_14, X214_17, X214_20, X214_23, X214_25, X214_26, X214_27, X214_30, X214_31, X214_32, X214_34, X214_35, X214_39, X214_40, X214_43, X214_46, X214_47, X214_49, X214_52, X214_54, X214_55, X214_56, X214_59, X214_60, X214_63, X214_64, X214_66, X214_67, X214_70, X214_71, X214_72, X214_74, X214_77, X214_80, X214_81, X214_82, X214_85, X214_87, Nat.zero_le, and_true, true_and, x_nb0, x_nb1, x_nbp, x_isL_int, x_isL_ref, x_isL_junk, x_isR_ref, x_cat_nil, x_cat_int, x_cat_ref, x_cat_long, Option.toList_some, Option.toList_none, List.cons_append, List.nil_append, Nat.reduceAdd, Nat.reduceLeDiff, Nat.reduceLT, t_tag_si, t_tag_sr, t_tag_sI, x_r_si, x_i_sr, t_r_sI, x_ia_si, x_ia_sI, x_ia_sr, x_ra_si, x_ra_sI, x_ra_sr, g_t41 hs1, hT1.1, nI_leF (show j < nt by omega) (show nt < 2 ^ 31 by omega), if_false, g_t41 hs2, e65, eq_false hv, or_0, nI_add]
theorem AQ_laws (h : AGT w S kd td mo kt nt r tls tks) (u v : Int32) : AQ L xs (d + 12) 34 214 [.ref 0, .int u, .int v, x_junk, x_junk, x_junk] [.ref 41, .int u, .int v, x_junk, x_junk, x_junk] w := by
  obtain ⟨hG, hT, hTM, hRX, hRM, hrn⟩ := h
  have hs := hG.1.sh
  have h6 := hG.1.1.S6
  have hn6 := hT.2.1
  have h55 := fun (v : Int32) (Q' : Option Value → x_W → Prop) => S55 (L := L) (xs := xs) (d := d + 11) (v := v) (Q := Q') hG.1.1
  have e74 := fun (Q' : Option Value → x_W → Prop) => S74 (L := L) (xs := xs) (d := d + 11) (v := v) (Q := Q') hG.1.1
  have eall : bI (nI 0 ≤ v ∧ v ≤ nI (2 ^ S - 1)) = bI (nI 0 ≤ v ∧ v < nI (2 ^ S)) := bI_c (all_lt h6)
  by_cases h1 : slp S u
  · by_cases h2 : nI 0 ≤ v ∧ v < nI (2 ^ S)
    · obtain ⟨b, hb, rfl⟩ := slp_of h6 h1
      obtain ⟨w1, c1, hF1, e1⟩ := S34l (L := L) (xs := xs) (d := d) hG.1.1 hT hb v (nI r) nt 0 (by omega) w ChR.refl hG.1.2.2
      have hT1 := hT.chR c1 rfl (fun a ha k => p03_law rfl ha k)
      have hs1 := c1.sh hs
      have e13 := fun (Q' : Option Value → x_W → Prop) => S13 (L := L) (xs := xs) (d := d + 11) (Q := Q') hs1 hT1 hrn
      have cB := c1.trans (ChR_obey (l := [28, 34]) r)
      have c1' : Ch (sc [28, 34]) w (obeyW w1 r) := by
        refine ⟨cB.1, ?_, fun q k hq => ?_⟩
        · funext q k
          by_cases hqk : q = 22 ∧ k = 1
          · obtain ⟨rfl, rfl⟩ := hqk
            exact (obey_22 r).trans hRX.2.symm
          · exact cB.2.1 q k hqk
        · by_cases hqk : q = 0 ∧ k = 3
          · obtain ⟨rfl, rfl⟩ := hqk
            rw [obey_03, hRX.1]
          · refine cB.2.2 q k ?_
            unfold p03
            rw [hq, Bool.false_or, Bool.and_eq_false_iff]
            by_cases hq0 : q = 0
            · exact Or.inr (beq_false_of_ne (fun z => hqk ⟨hq0, z⟩))
            · exact Or.inl (beq_false_of_ne hq0)
      have hF1' : FarOk (obeyW w1 r) := hF1.of (by unfold obeyW; rw [x_i_sr, x_i_sin _ _ _ _ (by decide)]) (by unfold obeyW; rw [x_i_sr, x_i_sin _ _ _ _ (by decide)]) (by unfold obeyW; rw [x_i_sr, x_i_sin _ _ _ _ (by decide)])
      generalize hw1' : obeyW w1 r = w1' at c1' hF1' e13
      have cA := c1'.a rfl
      have hM1 := hG.2.1.1.ch cA
      have hTM1 : TM w1' nt tls tks := hTM.ch cA rfl (fun _ => ⟨rfl, rfl⟩)
      obtain ⟨w2, c2, e2⟩ := S214l (L := L) (xs := xs) (d := d) hM1 hTM1 hn6 hb v (nI r) nt 0 (by omega) w1' Ch.refl
      have hR1 : x_i w1' 41 12 = nI r := (cA.2.2 41 12 rfl).trans hRM
      have hs1' := cA.sh hs
      have hs2 := c2.sh hs1'
      have c2' : Ch (sm [58, 59]) w1' (x_si w2 41 12 (nI r)) := by
        have c2B : Ch (p412 [58, 59]) w1' (x_si w2 41 12 (nI r)) := c2.trans (Ch_si rfl)
        refine ⟨c2B.1, c2B.2.1, fun q k hq => ?_⟩
        by_cases hqk : q = 41 ∧ k = 12
        · obtain ⟨rfl, rfl⟩ := hqk
          rw [x_i_si, upd_s, hR1]
        · refine c2B.2.2 q k ?_
          unfold p412
          rw [hq, Bool.false_or, Bool.and_eq_false_iff]
          by_cases hq0 : q = 41
          · exact Or.inr (beq_false_of_ne (fun z => hqk ⟨hq0, z⟩))
          · exact Or.inl (beq_false_of_ne hq0)
      have eW : (fun t => decide (wkM (fun s => wkB kd td mo kt (tls t) (tks t) (farM w1' kt) s b) S = v)) = (fun t => decide (wkM (fun s => wkB kd td mo kt (tls t) (tks t) (farX w kt) s b) S = v)) := by
        funext t
        have : wkM (fun s => wkB kd td mo kt (tls t) (tks t) (farM w1' kt) s b) S = wkM (fun s => wkB kd td mo kt (tls t) (tks t) (farX w kt) s b) S := by
          rw [farM_ch cA]
          refine wkM_cg (fun s hs => ?_)
          unfold wkB
          rw [hG.far (show s < 6 by omega) (show b < 6 by omega)]
        rw [this]
      rw [eW] at e2
      have h169' := fun (v : Int32) (Q' : Option Value → x_W → Prop) => S169 (L := L) (xs := xs) (d := d + 10) (v := v) (Q := Q') hM1
      have e174 := fun (Q' : Option Value → x_W → Prop) => S174 (L := L) (xs := xs) (d := d + 11) (Q := Q') hs1' hM1.hS h6
      generalize hR : wkM (fun t => decide (wkM (fun s => wkB kd td mo kt (tls t) (tks t) (farX w kt) s b) S = v)) nt = R at e1 e2
      refine ⟨.int R, w1', x_si w2 41 12 (nI r), cA.trans (c2'.ma rfl), hF1'.m c2' rfl rfl rfl, fun Q => ?_, fun Q => ?_⟩
      · have e0 : X_R L xs (d + 12) 34 0 [.ref 0, .int (nI b), .int v, x_junk, x_junk, x_junk] [] w Q = X_R L xs (d + 12) 34 39 [.ref 0, .int (nI b), .int v, .int (nI r), .int (nI 0), .int (nI 0)] [] w Q := by
          simp only [X34_0, X34_1, X34_4, X34_5, X34_8, X34_14, X34_15, X34_18, X34_19, X34_22, X34_28, X34_29, X34_32, X34_33, X34_34, X34_36, X34_37, Nat.zero_le, and_true, true_and, x_nb0, x_nb1, x_nbp, x_isL_int, x_isL_ref, x_isL_junk, x_isR_ref, x_cat_nil, x_cat_int, x_cat_ref, x_cat_long, Option.toList_some, Option.toList_none, List.cons_append, List.nil_append, Nat.reduceAdd, Nat.reduceLeDiff, Nat.reduceLT, t_tag_si, t_tag_sr, t_tag_sI, x_r_si, x_i_sr, t_r_sI, x_ia_si, x_ia_sI, x_ia_sr, x_ra_si, x_ra_sI, x_ra_sr, g_t0 hs, g_r0_4 hs, g_t22 hs, h55, bI_t h1, n10, if_false, e74, bI_t h2, hRX.1]
        rw [e0]
        refine (e1 Q).trans ?_
        simp only [X34_81, X34_82, X34_83, X34_86, X34_88, Nat.zero_le, and_true, true_and, x_nb0, x_nb1, x_nbp, x_isL_int, x_isL_ref, x_isL_junk, x_isR_ref, x_cat_nil, x_cat_int, x_cat_ref, x_cat_long, Option.toList_some, Option.toList_none, List.cons_append, List.nil_append, Nat.reduceAdd, Nat.reduceLeDiff, Nat.reduceLT, t_tag_si, t_tag_sr, t_tag_sI, x_r_si, x_i_sr, t_r_sI, x_ia_si, x_ia_sI, x_ia_sr, x_ra_si, x_ra_sI, x_ra_sr, g_t0 hs1, e13]
      · have e0 : X_R L xs (d + 12) 214 0 [.ref 41, .int (nI b), .int v, x_junk, x_junk, x_junk] [] w1' Q = X_R L xs (d + 12) 214 37 [.ref 41, .int (nI b), .int v, .int (nI r), .int (nI 0), .int (nI 0)] [] w1' Q := by
          simp only [X214_0, X214_1, X214_2, X214_5, X214_11, X214_12, X214_13, X214_14, X214_17, X214_20, X214_26, X214_27, X214_30, X214_31, X214_32, X214_34, X214_35, Nat.zero_le, and_true, true_and, x_nb0, x_nb1, x_nbp, x_isL_int, x_isL_ref, x_isL_junk, x_isR_ref, x_cat_nil, x_cat_int, x_cat_ref, x_cat_long, Option.toList_some, Option.toList_none, List.cons_append, List.nil_append, Nat.reduceAdd, Nat.reduceLeDiff, Nat.reduceLT, t_tag_si, t_tag_sr, t_tag_sI, x_r_si, x_i_sr, t_r_sI, x_ia_si, x_ia_sI, x_ia_sr, x_ra_si, x_ra_sI, x_ra_sr, g_t41 hs1', h169', bI_t h1, n10, if_false, e174, S138, eall, bI_t h2, hR1]
        rw [e0]
        refine (e2 Q).trans ?_
        simp only [X214_80, X214_81, X214_82, X214_85, X214_87, Nat.zero_le, and_true, true_and, x_nb0, x_nb1, x_nbp, x_isL_int, x_isL_ref, x_isL_junk, x_isR_ref, x_cat_nil, x_cat_int, x_cat_ref, x_cat_long, Option.toList_some, Option.toList_none, List.cons_append, List.nil_append, Nat.reduceAdd, Nat.reduceLeDiff, Nat.reduceLT, t_tag_si, t_tag_sr, t_tag_sI, x_r_si, x_i_sr, t_r_sI, x_ia_si, x_ia_sI, x_ia_sr, x_ra_si, x_ra_sI, x_ra_sr, g_t41 hs2]
    · have h169 := fun (v : Int32) (Q' : Option Value → x_W → Prop) => S169 (L := L) (xs := xs) (d := d + 10) (v := v) (Q := Q') hG.2.1.1
      have e174 := fun (Q' : Option Value → x_W → Prop) => S174 (L := L) (xs := xs) (d := d + 11) (Q := Q') hs hG.2.1.1.hS h6
      refine AQ_no (v := .int (-7)) hG.1.2.2 (fun Q => ?_) (fun Q => ?_)
      · simp only [X34_0, X34_1, X34_4, X34_5, X34_8, X34_14, X34_15, X34_18, X34_19, X34_22, X34_25, X34_27, Nat.zero_le, and_true, true_and, x_nb0, x_nb1, x_nbp, x_isL_int, x_isL_ref, x_isL_junk, x_isR_ref, x_cat_nil, x_cat_int, x_cat_ref, x_cat_long, Option.toList_some, Option.toList_none, List.cons_append, List.nil_append, Nat.reduceAdd, Nat.reduceLeDiff, Nat.reduceLT, t_tag_si, t_tag_sr, t_tag_sI, x_r_si, x_i_sr, t_r_sI, x_ia_si, x_ia_sI, x_ia_sr, x_ra_si, x_ra_sI, x_ra_sr, g_t0 hs, g_r0_4 hs, g_t22 hs, h55, bI_t h1, n10, if_false, e74, bI_f h2, if_true]
      · simp only [X214_0, X214_1, X214_2, X214_5, X214_11, X214_12, X214_13, X214_14, X214_17, X214_20, X214_23, X214_25, Nat.zero_le, and_true, true_and, x_nb0, x_nb1, x_nbp, x_isL_int, x_isL_ref, x_isL_junk, x_isR_ref, x_cat_nil, x_cat_int, x_cat_ref, x_cat_long, Option.toList_some, Option.toList_none, List.cons_append, List.nil_append, Nat.reduceAdd, Nat.reduceLeDiff, Nat.reduceLT, t_tag_si, t_tag_sr, t_tag_sI, x_r_si, x_i_sr, t_r_sI, x_ia_si, x_ia_sI, x_ia_sr, x_ra_si, x_ra_sI, x_ra_sr, g_t41 hs, h169, bI_t h1, n10, if_false, e174, S138, eall, bI_f h2, if_true]
  · have h169 := fun (v : Int32) (Q' : Option Value → x_W → Prop) => S169 (L := L) (xs := xs) (d := d + 10) (v := v) (Q := Q') hG.2.1.1
    refine AQ_no (v := .int (-5)) hG.1.2.2 (fun Q => ?_) (fun Q => ?_)
    · simp only [X34_0, X34_1, X34_4, X34_5, X34_8, X34_11, X34_13, Nat.zero_le, and_true, true_and, x_nb0, x_nb1, x_nbp, x_isL_int, x_isL_ref, x_isL_junk, x_isR_ref, x_cat_nil, x_cat_int, x_cat_ref, x_cat_long, Option.toList_some, Option.toList_none, List.cons_append, List.nil_append, Nat.reduceAdd, Nat.reduceLeDiff, Nat.reduceLT, t_tag_si, t_tag_sr, t_tag_sI, x_r_si, x_i_sr, t_r_sI, x_ia_si, x_ia_sI, x_ia_sr, x_ra_si, x_ra_sI, x_ra_sr, g_t0 hs, g_r0_4 hs, g_t22 hs, h55, bI_f h1, if_true]
    · simp only [X214_0, X214_1, X214_2, X214_5, X214_8, X214_10, Nat.zero_le, and_true, true_and, x_nb0, x_nb1, x_nbp, x_isL_int, x_isL_ref, x_isL_junk, x_isR_ref, x_cat_nil, x_cat_int, x_cat_ref, x_cat_long, Option.toList_some, Option.toList_none, List.cons_append, List.nil_append, Nat.reduceAdd, Nat.reduceLeDiff, Nat.reduceLT, t_tag_si, t_tag_sr, t_tag_sI, x_r_si, x_i_sr, t_r_sI, x_ia_si, x_ia_sI, x_ia_sr, x_ra_si, x_ra_sI, x_ra_sr, g_t41 hs, h169, bI_f h1, if_true]
theorem S12 (hs : Sh w) (hT : TX w nt tls tks) (hR : RX w r) {v : Int32} {Q : Option Value → x_W → Prop} : X_R L xs (d + 2) 12 0 [.ref 0, .int v, x_junk] [] w Q = if slp nt v then Q (some (.int (nI r))) (obeyW w v.toNatClampNeg) else Q (some (.int (-2))) w := by
  have hn := hT.2.2.1
  by_cases h : slp nt v
  · rw [if_pos h]
    obtain ⟨t, ht, rfl⟩ := slp_of hT.2.1 h
    have e13 := fun (Q' : Option Value → x_W → Prop) => S13 (L := L) (xs := xs) (d := d + 1) (Q := Q') hs hT ht
    rw [nI_cl (show t < 2 ^ 31 by have := hT.2.1; omega)]
    simp only [X12_0, X12_1, X12_4, X12_5, X12_6, X12_9, X12_12, X12_14, X12_15, X12_16, X12_19, X12_20, X12_21, X12_22, X12_25, X12_26, Nat.zero_le, and_true, true_and, x_nb0, x_nb1, x_nbp, x_isL_int, x_isL_ref, x_isL_junk, x_isR_ref, x_cat_nil, x_cat_int, x_cat_ref, x_cat_long, Option.toList_some, Option.toList_none, List.cons_append, List.nil_append, Nat.reduceAdd, Nat.reduceLeDiff, Nat.reduceLT, t_tag_si, t_tag_sr, t_tag_sI, x_r_si, x_i_sr, t_r_sI, x_ia_si, x_ia_sI, x_ia_sr, x_ra_si, x_ra_sI, x_ra_sr, nI_nlt0 (show t < 2 ^ 31 by have := hT.2.1; omega), if_false, g_t0 hs, hn, nI_ltT ht (show nt < 2 ^ 31 by have := hT.2.1; omega), if_true, hR.1, e13]
  · rw [if_neg h]
    by_cases h1 : v < nI 0
    · simp only [X12_0, X12_1, X12_4, X12_5, X12_6, X12_9, X12_12, X12_14, X12_15, X12_16, X12_19, X12_20, X12_21, X12_22, X12_25, X12_26, Nat.zero_le, and_true, true_and, x_nb0, x_nb1, x_nbp, x_isL_int, x_isL_ref, x_isL_junk, x_isR_ref, x_cat_nil, x_cat_int, x_cat_ref, x_cat_long, Option.toList_some, Option.toList_none, List.cons_append, List.nil_append, Nat.reduceAdd, Nat.reduceLeDiff, Nat.reduceLT, t_tag_si, t_tag_sr, t_tag_sI, x_r_si, x_i_sr, t_r_sI, x_ia_si, x_ia_sI, x_ia_sr, x_ra_si, x_ra_sI, x_ra_sr, h1, if_true]
    · have h2 : ¬ v < nI nt := fun q => h ⟨Int32.not_lt.mp h1, q⟩
      simp only [X12_0, X12_1, X12_4, X12_5, X12_6, X12_9, X12_12, X12_14, X12_15, X12_16, X12_19, X12_20, X12_21, X12_22, X12_25, X12_26, Nat.zero_le, and_true, true_and, x_nb0, x_nb1, x_nbp, x_isL_int, x_isL_ref, x_isL_junk, x_isR_ref, x_cat_nil, x_cat_int, x_cat_ref, x_cat_long, Option.toList_some, Option.toList_none, List.cons_append, List.nil_append, Nat.reduceAdd, Nat.reduceLeDiff, Nat.reduceLT, t_tag_si, t_tag_sr, t_tag_sI, x_r_si, x_i_sr, t_r_sI, x_ia_si, x_ia_sI, x_ia_sr, x_ra_si, x_ra_sI, x_ra_sr, h1, if_false, g_t0 hs, hn, h2]
theorem S161 (hs : Sh w) (hT : TM w nt tls tks) (h6 : nt ≤ 6) (hR : RM w r) {v : Int32} {Q : Option Value → x_W → Prop} : X_R L xs (d + 2) 161 0 [.ref 41, .int v, x_junk] [] w Q = if slp nt v then Q (some (.int (nI r))) (x_si w 41 12 v) else Q (some (.int (-2))) w := by
  have hn := hT.1
  have e : bI (nI 0 ≤ v ∧ v ≤ nI nt - nI 1) = bI (slp nt v) := bI_c (slp_m1 h6)
  have hR' : x_i w 41 12 = nI r := hR
  by_cases h : slp nt v
  · rw [if_pos h]
    simp only [X161_0, X161_1, X161_2, X161_3, X161_6, X161_7, X161_8, X161_11, X161_14, X161_16, X161_17, X161_18, X161_21, X161_22, X161_23, X161_24, X161_27, X161_28, Nat.zero_le, and_true, true_and, x_nb0, x_nb1, x_nbp, x_isL_int, x_isL_ref, x_isL_junk, x_isR_ref, x_cat_nil, x_cat_int, x_cat_ref, x_cat_long, Option.toList_some, Option.toList_none, List.cons_append, List.nil_append, Nat.reduceAdd, Nat.reduceLeDiff, Nat.reduceLT, t_tag_si, t_tag_sr, t_tag_sI, x_r_si, x_i_sr, t_r_sI, x_ia_si, x_ia_sI, x_ia_sr, x_ra_si, x_ra_sI, x_ra_sr, g_t41 hs, hn, S138, e, bI_t h, n10, if_false, hR']
  · rw [if_neg h]
    simp only [X161_0, X161_1, X161_2, X161_3, X161_6, X161_7, X161_8, X161_11, X161_14, X161_16, X161_17, X161_18, X161_21, X161_22, X161_23, X161_24, X161_27, X161_28, Nat.zero_le, and_true, true_and, x_nb0, x_nb1, x_nbp, x_isL_int, x_isL_ref, x_isL_junk, x_isR_ref, x_cat_nil, x_cat_int, x_cat_ref, x_cat_long, Option.toList_some, Option.toList_none, List.cons_append, List.nil_append, Nat.reduceAdd, Nat.reduceLeDiff, Nat.reduceLT, t_tag_si, t_tag_sr, t_tag_sI, x_r_si, x_i_sr, t_r_sI, x_ia_si, x_ia_sI, x_ia_sr, x_ra_si, x_ra_sI, x_ra_sr, g_t41 hs, hn, S138, e, bI_f h, if_true]
end S96
