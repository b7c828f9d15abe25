/-! ===== what would tear: both sides ===== -/
def tcK (c : Nat → Nat → Bool) (p : Nat → Nat) (br : Nat → Nat → Int32) (k : Nat) : Nat := sumT (fun n => tc c p br k (k + 1 + n)) 5
theorem K_ne {K b : Nat} (h : K = 13 ∨ 66 ≤ K) (hb : b < 66) (hb' : b ≠ 13) : b ≠ K := by omega
theorem nI_ltT {a b : Nat} (h : a < b) (hb : b < 2 ^ 31) : (nI a < nI b) = True := eq_true (nI_lt h hb)
section S60
variable {L : Nat} {xs : Nat → Int32} {d : Nat} {w : x_W} {Q : Option Value → x_W → Prop}
theorem S57 {A0 A E K n e0 e : Nat} {st l p : Nat → Nat} (hs : Sh w) (hd : Sd w) (hl : LawW w A0 A E K n) (hK : K = 13 ∨ 66 ≤ K) (hP : PartX w A E n 2 e0 e st) (hW : WfP st (e - e0)) (hld : ∀ k, k < 20 → x_i w 25 k = nI (l k)) (hp : ∀ k, k < 20 → x_i w 26 k = nI (p k) ∧ p k ≤ 999) :
    ∃ f g, ∀ Q, X_R L xs (d + 3) 57 0 [.ref 22, x_junk, x_junk, x_junk] [] w Q = Q (some (.int (nI (sumT (tcK (cbN (x_i w 24)) p (brF st (e - e0) l)) 20)))) (UK w K f g) := by
  have h34 := hl.1.2.2.2.2.2.2.2.2.2.2
  have nA := hl.1.2.2.2.2.2.2.2.2.1
  have nE := hl.1.2.2.2.2.2.2.2.2.2.1
  generalize hbr : brF st (e - e0) l = br
  generalize hcc : cbN (x_i w 24) = c
  have step : ∀ (f g : Nat → Int32) (M k o : Nat), k < 20 → o ≤ k + 5 → ∃ f' g', ∀ Q, X_R L xs (d + 3) 57 14 [.ref 22, .int (nI M), .int (nI k), .int (nI o)] [] (UK w K f g) Q = X_R L xs (d + 3) 57 14 [.ref 22, .int (nI (M + tc c p br k o)), .int (nI k), .int (nI (o + 1))] [] (UK w K f' g') Q := by
    intro f g M k o hk ho
    have hP' : PartX (UK w K f g) A E n 2 e0 e st := by
      unfold PartX
      rw [UK_o hl.2.2.1 nE, UK_o hl.2.1 nA]
      exact hP
    obtain ⟨f', g', h⟩ := S57s (L := L) (xs := xs) (d := d) (w := UK w K f g) (M := M) (k := k) (o := o) (l := l) (p := p) hs hd hl hK hP' hW (fun q hq => by rw [UK_o (by decide) (K_ne hK (by decide) (by decide))]; exact hld q hq) (fun q hq => by rw [UK_o (by decide) (K_ne hK (by decide) (by decide))]; exact hp q hq) hk ho
    refine ⟨f', g', fun Q => ?_⟩
    rw [h, UK_UK h34, UK_o (by decide) (K_ne hK (by decide) (by decide)), hbr, hcc]
  have inner : ∀ r q, q + r = 5 → ∀ (f g : Nat → Int32) (M k : Nat), k < 20 → ∃ f' g', ∀ Q, X_R L xs (d + 3) 57 14 [.ref 22, .int (nI (M + sumT (fun n => tc c p br k (k + 1 + n)) q)), .int (nI k), .int (nI (k + 1 + q))] [] (UK w K f g) Q = X_R L xs (d + 3) 57 4 [.ref 22, .int (nI (M + tcK c p br k)), .int (nI (k + 1)), .int (nI (k + 1 + 5))] [] (UK w K f' g') Q := by
    intro r
    induction r with
    | zero =>
      intro q hq f g M k hk
      obtain rfl : q = 5 := by omega
      refine ⟨f, g, fun Q => ?_⟩
      have hsu : Sh (UK w K f g) := hs
      rw [X57_14]
      simp only [X57_15, X57_16, X57_17, X57_18, X57_60, X57_63, Nat.zero_le, and_true, true_and, x_nb0, x_nb1, x_nbp, x_isL_int, x_isL_ref, x_isL_junk, x_isR_ref, x_cat_nil, x_cat_int, x_cat_ref, x_cat_long, Option.toList_some, Option.toList_none, List.cons_append, List.nil_append, Nat.reduceAdd, Nat.reduceLeDiff, Nat.reduceLT, t_tag_si, t_tag_sr, t_tag_sI, x_r_si, x_i_sr, t_r_sI, x_ia_si, x_ia_sI, x_ia_sr, x_ra_si, x_ra_sI, x_ra_sr, nI_add, nI_ltT (show k + 5 < k + 1 + 5 by omega) (show k + 1 + 5 < 2 ^ 31 by omega), if_true]
      rfl
    | succ r ih =>
      intro q hq f g M k hk
      obtain ⟨f1, g1, h1⟩ := step f g (M + sumT (fun n => tc c p br k (k + 1 + n)) q) k (k + 1 + q) hk (by omega)
      obtain ⟨f2, g2, h2⟩ := ih (q + 1) (by omega) f1 g1 M k hk
      refine ⟨f2, g2, fun Q => ?_⟩
      rw [h1, ← h2]
      have e1 : M + sumT (fun n => tc c p br k (k + 1 + n)) q + tc c p br k (k + 1 + q) = M + sumT (fun n => tc c p br k (k + 1 + n)) (q + 1) := Nat.add_assoc _ _ _
      rw [e1]
      rfl
  have outer : ∀ r k, k + r = 20 → ∀ (f g : Nat → Int32) (v : Value), x_isL v = false → ∃ f' g', ∀ Q, X_R L xs (d + 3) 57 4 [.ref 22, .int (nI (sumT (tcK c p br) k)), .int (nI k), v] [] (UK w K f g) Q = Q (some (.int (nI (sumT (tcK c p br) 20)))) (UK w K f' g') := by
    intro r
    induction r with
    | zero =>
      intro k hk f g v hv
      obtain rfl : k = 20 := by omega
      refine ⟨f, g, fun Q => ?_⟩
      rw [X57_4]
      simp only [X57_5, X57_7, X57_66, X57_67, Nat.zero_le, and_true, true_and, x_nb0, x_nb1, x_nbp, x_isL_int, x_isL_ref, x_isL_junk, x_isR_ref, x_cat_nil, x_cat_int, x_cat_ref, x_cat_long, Option.toList_some, Option.toList_none, List.cons_append, List.nil_append, Nat.reduceAdd, Nat.reduceLeDiff, Nat.reduceLT, t_tag_si, t_tag_sr, t_tag_sI, x_r_si, x_i_sr, t_r_sI, x_ia_si, x_ia_sI, x_ia_sr, x_ra_si, x_ra_sI, x_ra_sr, nI_leT (Nat.le_refl 20) (show 20 < 2 ^ 31 by decide), if_true]
    | succ r ih =>
      intro k hk f g v hv
      obtain ⟨f1, g1, h1⟩ := inner 5 0 rfl f g (sumT (tcK c p br) k) k (by omega)
      obtain ⟨f2, g2, h2⟩ := ih (k + 1) (by omega) f1 g1 (.int (nI (k + 1 + 5))) rfl
      refine ⟨f2, g2, fun Q => ?_⟩
      have e1 : sumT (tcK c p br) k + tcK c p br k = sumT (tcK c p br) (k + 1) := rfl
      rw [e1] at h1
      rw [← h2 Q, ← h1 Q, X57_4]
      simp only [X57_5, X57_7, X57_10, X57_11, X57_12, X57_13, Nat.zero_le, and_true, true_and, x_nb0, x_nb1, x_nbp, x_isL_int, x_isL_ref, x_isL_junk, x_isR_ref, x_cat_nil, x_cat_int, x_cat_ref, x_cat_long, Option.toList_some, Option.toList_none, List.cons_append, List.nil_append, Nat.reduceAdd, Nat.reduceLeDiff, Nat.reduceLT, t_tag_si, t_tag_sr, t_tag_sI, x_r_si, x_i_sr, t_r_sI, x_ia_si, x_ia_sI, x_ia_sr, x_ra_si, x_ra_sI, x_ra_sr, nI_leF (show k < 20 by omega) (show 20 < 2 ^ 31 by decide), if_false, nI_add, hv]
      rfl
  obtain ⟨f, g, h⟩ := outer 20 0 rfl (x_i w 34) (x_i w K) x_junk rfl
  refine ⟨f, g, fun Q => ?_⟩
  rw [← h Q, UK_id h34]
  simp only [X57_0, X57_1, X57_2, X57_3, Nat.zero_le, and_true, true_and, x_nb0, x_nb1, x_nbp, x_isL_int, x_isL_ref, x_isL_junk, x_isR_ref, x_cat_nil, x_cat_int, x_cat_ref, x_cat_long, Option.toList_some, Option.toList_none, List.cons_append, List.nil_append, Nat.reduceAdd, Nat.reduceLeDiff, Nat.reduceLT, t_tag_si, t_tag_sr, t_tag_sI, x_r_si, x_i_sr, t_r_sI, x_ia_si, x_ia_sI, x_ia_sr, x_ra_si, x_ra_sI, x_ra_sr]
  rfl
end S60
