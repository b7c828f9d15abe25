/-! ===== both sides hang alike ===== -/
theorem cntN_cg {c c' : Nat → Bool} {n : Nat} (h : ∀ o, o < n → c o = c' o) : cntN c n = cntN c' n := by
  induction n with
  | zero => rfl
  | succ n ih =>
    unfold cntN
    rw [ih (fun o ho => h o (by omega)), h n (Nat.lt_succ_self _)]
theorem sumN_cg {c c' : Nat → Bool} {p p' : Nat → Nat} {n : Nat} (h : ∀ o, o < n → c o = c' o) (hp : ∀ o, o < n → p o = p' o) : sumN c p n = sumN c' p' n := by
  induction n with
  | zero => rfl
  | succ n ih =>
    unfold sumN
    rw [ih (fun o ho => h o (by omega)) (fun o ho => hp o (by omega)), h n (Nat.lt_succ_self _), hp n (Nat.lt_succ_self _)]
theorem snkN_cg {c c' : Nat → Bool} {t t' : Bool} {l l' : Nat} {p p' : Nat → Nat} (h : ∀ o, o < 20 → c o = c' o) (ht : t = t') (hl : l = l') (hp : ∀ o, o < 20 → p o = p' o) : snkN c t l p = snkN c' t' l' p' := by
  unfold snkN
  rw [cntN_cg h, sumN_cg h hp, ht, hl]
theorem dpN_cg {c c' : Nat → Nat → Bool} {t t' : Nat → Bool} {l l' : Nat → Nat} (h : ∀ k o, k < 20 → o < 20 → c k o = c' k o) (ht : ∀ k, k < 20 → t k = t' k) (hl : ∀ k, k < 20 → l k = l' k) (r : Nat) : ∀ k, k < 20 → dpN c t l r k = dpN c' t' l' r k := by
  induction r with
  | zero => intro k hk; rfl
  | succ r ih =>
    intro k hk
    exact snkN_cg (fun o ho => h k o hk ho) (ht k hk) (hl k hk) ih
theorem bestN_cg {p q : Nat → Nat} (n : Nat) (h : ∀ k, k ≤ n → p k = q k) : bestN p n = bestN q n := by
  induction n with
  | zero => rfl
  | succ n ih =>
    unfold bestN
    have hb := bestN_le q n
    rw [ih (fun k hk => h k (by omega)), h (bestN q n) (by omega), h (n + 1) (Nat.le_refl _)]
/-- the cords and the ties are alike on both sides -/
def AgC (w : x_W) : Prop := (∀ k, k < 20 → x_i w 24 k = x_i w 42 k) ∧ x_i w 23 1 = x_i w 41 1
theorem AgC_cb {w : x_W} (h : AgC w) : ∀ k o, k < 20 → o < 20 → cbN (x_i w 24) k o = cbN (x_i w 42) k o := by
  intro k o hk ho
  unfold cbN
  rw [h.1 k hk]
theorem XD_MD {w : x_W} (h : AgC w) (l : Nat → Nat) (n : Nat) : ∀ k, k < 20 → XD w l n k = MD w l n k := by
  intro k hk
  unfold XD MD
  rw [h.2]
  exact dpN_cg (AgC_cb h) (fun _ _ => rfl) (fun _ _ => rfl) n k hk
theorem best_eq {w : x_W} (h : AgC w) (l : Nat → Nat) : bestN (XD w l 12) 19 = bestN (MD w l 12) 19 := bestN_cg 19 (fun k hk => XD_MD h l 12 k (by omega))
theorem bestV_eq {w : x_W} (h : AgC w) (l : Nat → Nat) : XD w l 12 (bestN (XD w l 12) 19) = MD w l 12 (bestN (MD w l 12) 19) := by
  have hb := bestN_le (MD w l 12) 19
  rw [best_eq h, XD_MD h l 12 _ (by omega)]
theorem sumD_eq {w : x_W} (h : AgC w) (l : Nat → Nat) : sumT (XD w l 12) 20 = sumT (MD w l 12) 20 := sumT_cg (XD_MD h l 12)
theorem pl_eq {w : x_W} (h : AgC w) (l : Nat → Nat) {i j : Nat} (hi : i < 20) (hj : j < 20) : plN (cbN (x_i w 24)) (XD w l 12) i j = plN (cbN (x_i w 42)) (MD w l 12) i j := by
  unfold plN
  rw [AgC_cb h i j hi hj, XD_MD h l 12 i hi, XD_MD h l 12 j hj]
theorem tc_cg {c c' : Nat → Nat → Bool} {p p' : Nat → Nat} {br : Nat → Nat → Int32} (h : ∀ k o, k < 20 → o < 20 → c k o = c' k o) (hp : ∀ k, k < 20 → p k = p' k) {k o : Nat} (hk : k < 20) : tc c p br k o = tc c' p' br k o := by
  unfold tc
  by_cases ho : o < 20
  · rw [h k o hk ho, hp k hk, hp o ho]
  · rw [if_neg (fun z => ho z.1), if_neg (fun z => ho z.1)]
/-- as many cords would tear on both sides -/
theorem tears_eq {w : x_W} (h : AgC w) (hn : Nb (x_i w 24)) (l : Nat → Nat) (br : Nat → Nat → Int32) : sumT (tcK (cbN (x_i w 24)) (XD w l 12) br) 20 = sumT (fun q => tm (cbN (x_i w 42)) (MD w l 12) br (q / 20) (q % 20)) 400 := by
  rw [tear_eq (c := cbN (x_i w 42)) (fun k o hk ho hb => by rw [← AgC_cb h k o hk ho]; exact hn k o hk ho hb)]
  apply sumT_cg
  intro k hk
  unfold tcK
  apply sumT_cg
  intro n _
  exact tc_cg (AgC_cb h) (XD_MD h l 12) hk
/-- who lies how, on both sides: S sleepers of kinds kd, tellings td, marks mo, at knots kt -/
def AgS (w : x_W) (S : Nat) (kd td mo kt : Nat → Nat) : Prop := CX w S kd td mo kt ∧ CM w S kd td mo kt ∧ AgC w ∧ CdM (x_i w 24)
