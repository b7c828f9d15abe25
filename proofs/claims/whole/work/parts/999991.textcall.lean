/-! ===== the call text ===== -/
def xl (x0 x1 x2 : List Nat) (p : Nat) : List Nat := if p = 0 then x0 else if p = 1 then x1 else x2
theorem xl_off (x0 x1 x2 : List Nat) : offT (fun p => (xl x0 x1 x2 p).length) 0 = 0 ∧ offT (fun p => (xl x0 x1 x2 p).length) 1 = x0.length ∧ offT (fun p => (xl x0 x1 x2 p).length) 2 = (x0 ++ x1).length := by
  refine ⟨rfl, Nat.zero_add _, ?_⟩
  rw [List.length_append]
  show 0 + x0.length + x1.length = _
  rw [Nat.zero_add]
theorem xl_get (x0 x1 x2 : List Nat) {p m : Nat} (hp : p < 3) (hm : m < (xl x0 x1 x2 p).length) : offT (fun p => (xl x0 x1 x2 p).length) p + m < (x0 ++ x1 ++ x2).length ∧ (x0 ++ x1 ++ x2).getD (offT (fun p => (xl x0 x1 x2 p).length) p + m) 0 = (xl x0 x1 x2 p).getD m 0 := by
  obtain ⟨o0, o1, o2⟩ := xl_off x0 x1 x2
  rcases p3 hp with rfl | rfl | rfl
  · have hm' : m < x0.length := hm
    rw [o0, Nat.zero_add, getD_apl (by rw [List.length_append]; omega), getD_apl hm']
    exact ⟨by rw [List.length_append, List.length_append]; omega, rfl⟩
  · have hm' : m < x1.length := hm
    rw [o1, getD_apl (by rw [List.length_append]; omega), getD_apr (Nat.le_add_right _ _), Nat.add_sub_cancel_left]
    exact ⟨by rw [List.length_append, List.length_append]; omega, rfl⟩
  · have hm' : m < x2.length := hm
    rw [o2, getD_apr (Nat.le_add_right _ _), Nat.add_sub_cancel_left]
    exact ⟨by simp only [List.length_append]; omega, rfl⟩
theorem xl_wf {b : Nat → Nat} {n : Nat} {x0 x1 x2 : List Nat} (hO : TxO b n x0 x1 x2) (p : Nat) : WfP (fun m => (xl x0 x1 x2 p).getD m 0) (xl x0 x1 x2 p).length := by
  obtain ⟨s1, s2, s3, h0, h1, h2, _⟩ := hO
  unfold xl
  by_cases h : p = 0
  · rw [if_pos h]; exact WfP_of h0.2.1
  · rw [if_neg h]
    by_cases h' : p = 1
    · rw [if_pos h']; exact WfP_of h1.2.1
    · rw [if_neg h']; exact WfP_of h2.2.1
/-- what text() may change; cells from 62 + 4 * nt on are new -/
def pX (nt b k : Nat) : Bool := (gp [3, 4] [(0, 2), (1, 1), (1, 3), (1, 5), (1, 6), (1, 7), (1, 8), (1, 9), (1, 10)] b k || pT nt b k) || decide (62 + 4 * nt ≤ b)
theorem pX_f {nt b k : Nat} (hn : 1 ≤ nt) (h : (gp [3, 4] [(0, 2), (1, 1), (1, 3), (1, 5), (1, 6), (1, 7), (1, 8), (1, 9), (1, 10)] b k || pT nt b k) = false) (hb : b < 66) : pX nt b k = false := by
  unfold pX
  rw [h, decide_eq_false (by omega)]
  rfl
theorem pX_R {nt : Nat} {w w' : x_W} (h : Ch pR w w') : Ch (pX nt) w w' := h.mono fun b k hb => by
  unfold pX at hb
  rw [Bool.or_eq_false_iff, Bool.or_eq_false_iff] at hb
  exact gp_sub rfl rfl hb.1.1
theorem pX_T {nt : Nat} {w w' : x_W} (h : Ch (pT nt) w w') : Ch (pX nt) w w' := h.mono fun b k hb => by
  unfold pX at hb
  rw [Bool.or_eq_false_iff, Bool.or_eq_false_iff] at hb
  exact hb.1.2
theorem pT48 {nt i : Nat} (h : i < 200 * nt) : pT nt 48 i = false := by
  unfold pT pV pQ
  rw [decide_eq_false (show ¬ 200 * nt ≤ i by omega)]
  rfl
theorem pT49 {nt i : Nat} (h : i < 4 * nt) : pT nt 49 i = false := by
  unfold pT pV
  rw [decide_eq_false (show ¬ 4 * nt ≤ i by omega)]
  rfl
section S999991
variable {L : Nat} {xs : Nat → Int32} {d : Nat} {w w' : x_W} {S nt r : Nat} {kd td mo kt : Nat → Nat} {tls : Nat → Nat → Nat} {tks : Nat → Nat → Nat → Nat} {so : Nat → Int32} {sz : Nat → Nat}
/-- what text() leaves as it was, of the cells that were -/
def Lft (w' : x_W) (S nt r : Nat) (kd td mo kt : Nat → Nat) (tls : Nat → Nat → Nat) (tks : Nat → Nat → Nat → Nat) (so : Nat → Int32) (sz : Nat → Nat) : Prop := CX w' S kd td mo kt ∧ CM w' S kd td mo kt ∧ FarOk w' ∧ AgC w' ∧ CdM (x_i w' 24) ∧ Sy (x_i w' 24) ∧ RX w' r ∧ RM w' r ∧ SHT w' so sz ∧ IMG w' S nt ∧ WD w' ∧ (∀ t, t < nt → ∀ p, p < 3 → PartM w' t p (offT (tls t) p) (offT (tls t) p + tls t p) (tks t p) ∧ WfP (tks t p) (tls t p)) ∧ ∀ t, t < nt → x_r w' 5 t = .ref (lawA t) ∧ ∃ n, LawX w' (lawA t) (lawA t + 1) (lawA t + 2) (lawA t + 3) n ∧ ∀ p, p < 3 → PartX w' (lawA t + 1) (lawA t + 2) n p (offT (tls t) p) (offT (tls t) p + tls t p) (tks t p) ∧ WfP (tks t p) (tls t p)
theorem J.left (h : J w S kd td mo kt nt r tls tks so sz) (hc : Ch (pX nt) w w') : Lft w' S nt r kd td mo kt tls tks so sz := by
  obtain ⟨⟨hG, hT, hTM, hR, hRM, hr⟩, hSH, ⟨n, h160, e11, e418, hb, hWD⟩, hI, hlen⟩ := h
  have h1 := hT.1
  have z : ∀ {b k : Nat}, (gp [3, 4] [(0, 2), (1, 1), (1, 3), (1, 5), (1, 6), (1, 7), (1, 8), (1, 9), (1, 10)] b k || pT nt b k) = false → b < 66 → pX nt b k = false := fun h2 h3 => pX_f h1 h2 h3
  have e24 : x_i w' 24 = x_i w 24 := hc.i (fun _ => z rfl (by decide))
  refine ⟨hG.1.1.gen hc (z rfl (by decide)) (fun _ => z rfl (by decide)) (six ⟨fun _ => z rfl (by decide), fun _ => z rfl (by decide), fun _ => z rfl (by decide), fun _ => z rfl (by decide), fun _ => z rfl (by decide), fun _ => z rfl (by decide)⟩) (by rw [e24]; exact hG.1.1.nb), hG.2.1.1.gen hc (z rfl (by decide)) (fun _ => ⟨z rfl (by decide), z rfl (by decide), z rfl (by decide), z rfl (by decide)⟩), hG.1.2.2.of (hc.2.2 23 6 (z rfl (by decide))) (hc.i (fun _ => z rfl (by decide))) e24, hG.2.2.1.gen hc (fun _ => ⟨z rfl (by decide), z rfl (by decide)⟩) (z rfl (by decide)) (z rfl (by decide)), by rw [e24]; exact hG.2.2.2.1, by rw [e24]; exact hG.2.2.2.2, hR.gen hc (z rfl (by decide)), hRM.gen hc (z rfl (by decide)), hSH.gen hc (four ⟨fun _ => ⟨z rfl (by decide), z rfl (by decide)⟩, fun _ => ⟨z rfl (by decide), z rfl (by decide)⟩, fun _ => ⟨z rfl (by decide), z rfl (by decide)⟩, fun _ => ⟨z rfl (by decide), z rfl (by decide)⟩⟩) (fun _ => ⟨z rfl (by decide), z rfl (by decide), z rfl (by decide)⟩), hI.gen hc (fun _ => ⟨z rfl (by decide), z rfl (by decide), z rfl (by decide), z rfl (by decide), z rfl (by decide)⟩) ⟨z rfl (by decide), z rfl (by decide), z rfl (by decide), z rfl (by decide)⟩, by unfold WD; rw [hc.i (fun _ => z rfl (by decide) : ∀ k, pX nt 56 k = false)]; exact hWD, fun t ht p hp => ?_, fun t ht => ?_⟩
  · obtain ⟨⟨q1, q2, q3, q4, q5⟩, q6⟩ := hTM.2 t ht p hp
    have f49 : ∀ i, i < 4 * nt → x_i w' 49 i = x_i w 49 i := fun i hi => hc.2.2 49 i (z (by rw [pT49 hi]; rfl) (by decide))
    have f48 : ∀ i, i < 200 * nt → x_i w' 48 i = x_i w 48 i := fun i hi => hc.2.2 48 i (z (by rw [pT48 hi]; rfl) (by decide))
    exact ⟨⟨by rw [f49 _ (by omega)]; exact q1, by rw [f49 _ (by omega)]; exact q2, q3, q4, fun m hm => by rw [f48 _ (by omega)]; exact q5 m hm⟩, q6⟩
  · obtain ⟨q1, n', q2, q3⟩ := hT.2.2.2 t ht
    have h6 := hT.2.1
    have hla : lawA t + 2 < 62 + 4 * nt ∧ (lawA t = 10 ∨ 66 ≤ lawA t) := by unfold lawA; split <;> omega
    have big : ∀ a, (a = 11 ∨ a = 12 ∨ 66 ≤ a) → a < 62 + 4 * nt → ∀ k, pX nt a k = false := by
      intro a h2 h3 k
      rcases h2 with rfl | rfl | h2
      · exact z rfl (by decide)
      · exact z rfl (by decide)
      · have n1 : ∀ j, j < 66 → (a == j) = false := fun j hj => beq_false_of_ne (by omega)
        have n2 : ∀ j, j < 66 → (j == a) = false := fun j hj => beq_false_of_ne (by omega)
        unfold pX pT pV pQ gp
        simp only [List.elem, List.any, n1 3 (by decide), n1 4 (by decide), n1 0 (by decide), n1 1 (by decide), n1 57 (by decide), n1 41 (by decide), n1 48 (by decide), n1 49 (by decide), Bool.false_and, Bool.or_false, decide_eq_false (show ¬ 62 + 4 * nt ≤ a by omega)]
    have hC : ∀ j, (j = 1 ∨ j = 2) → ∀ k, pX nt (lawA t + j) k = false := fun j hj k => big _ (by omega) (by omega) k
    refine ⟨by rw [hc.r]; exact q1, n', ?_, fun p hp => ?_⟩
    · unfold LawX at *
      rw [hc.t, hc.t, hc.t, hc.t, hc.r]
      exact q2
    · unfold PartX
      rw [hc.i (hC 1 (Or.inl rfl)), hc.i (hC 2 (Or.inr rfl))]
      exact q3 p hp
end S999991
