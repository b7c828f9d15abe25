/-! ===== how it hangs: the rounds, on both sides ===== -/
def dpN (c : Nat → Nat → Bool) (t : Nat → Bool) (l : Nat → Nat) : Nat → Nat → Nat
  | 0, _ => 0
  | r + 1, k => snkN (c k) (t k) (l k) (dpN c t l r)
theorem snkN_le (c : Nat → Bool) (t : Bool) (l : Nat) (p : Nat → Nat) : snkN c t l p ≤ 999 := by
  unfold snkN
  split
  · exact Nat.zero_le _
  · split
    · exact Nat.le_refl _
    · exact Nat.min_le_left _ _
theorem dpN_le (c : Nat → Nat → Bool) (t : Nat → Bool) (l : Nat → Nat) (r k : Nat) : dpN c t l r k ≤ 999 := by
  cases r with
  | zero => exact Nat.zero_le _
  | succ r => exact snkN_le _ _ _ _
def loadN (some : Nat → Bool) (kt wg : Nat → Nat) : Nat → Nat → Nat
  | 0, _ => 0
  | n + 1, k => loadN some kt wg n k + (if some n = true ∧ kt n = k then wg n else 0)
theorem loadN_le (some : Nat → Bool) (kt wg : Nat → Nat) (M : Nat) (n k : Nat) (h : ∀ s, s < n → wg s ≤ M) : loadN some kt wg n k ≤ n * M := by
  induction n with
  | zero => exact Nat.zero_le _
  | succ n ih =>
    have h1 := ih (fun s hs => h s (by omega))
    have h2 := h n (by omega)
    unfold loadN
    rw [Nat.succ_mul]
    split <;> omega
theorem x_fn_fn (n : Nat) (f g h : Nat → Int32) : x_fn n f (x_fn n g h) = x_fn n f h := by
  funext k
  unfold x_fn
  by_cases hk : k < n <;> simp [hk]
theorem x_fn_cg {n : Nat} {f f' g : Nat → Int32} (h : ∀ k, k < n → f k = f' k) : x_fn n f g = x_fn n f' g := by
  funext k
  unfold x_fn
  by_cases hk : k < n
  · rw [if_pos hk, if_pos hk, h k hk]
  · rw [if_neg hk, if_neg hk]
theorem x_fn_upd {n q : Nat} (hq : q < n) (f g : Nat → Int32) (v : Int32) : upd (x_fn n f g) q v = x_fn n (upd f q v) g := by
  funext k
  unfold upd x_fn
  by_cases hk : k = q
  · subst hk; simp [hq]
  · by_cases h2 : k < n <;> simp [hk, h2]
theorem loadN_s (some : Nat → Bool) (kt wg : Nat → Nat) (n q : Nat) (hq : kt n = q) : upd (fun k => nI (loadN some kt wg n k)) q (nI (loadN some kt wg n q + (if some n = true then wg n else 0))) = fun k => nI (loadN some kt wg (n + 1) k) := by
  funext k
  unfold upd
  by_cases hk : k = q
  · subst hk
    rw [if_pos rfl]
    show _ = nI (loadN some kt wg n k + (if some n = true ∧ kt n = k then wg n else 0))
    by_cases hs : some n = true <;> simp [hs, hq]
  · rw [if_neg hk]
    show _ = nI (loadN some kt wg n k + (if some n = true ∧ kt n = k then wg n else 0))
    have : ¬ (some n = true ∧ kt n = k) := fun z => hk (z.2.symm.trans hq)
    rw [if_neg this, Nat.add_zero]
/-- what the reference's rows say of its sleepers -/
def MSl (w : x_W) (kd td mo kt : Nat → Nat) : Prop := ∀ s, s < 6 → (x_i w 43 s = nI (kd s) ∧ kd s ≤ 5) ∧ (x_i w 44 s = nI (td s) ∧ td s ≤ 30) ∧ (x_i w 45 s = nI (mo s) ∧ mo s ≤ 9) ∧ (x_i w 46 s = nI (kt s) ∧ kt s < 20)
def wgF (kd td mo : Nat → Nat) (s : Nat) : Nat := wgN (kd s) (td s) (mo s)
/-- behind hangs(): what the three rows hold -/
def WH (w : x_W) (LD DP AH : Nat → Nat) : x_W := x_sI (x_sI (x_sI w 60 (x_fn 20 (fun k => nI (LD k)) (x_i w 60))) 61 (x_fn 20 (fun k => nI (DP k)) (x_i w 61))) 62 (x_fn 20 (fun k => nI (AH k)) (x_i w 62))
section S48
variable {L : Nat} {xs : Nat → Int32} {d : Nat} {w : x_W} {Q : Option Value → x_W → Prop}
theorem S175 {S : Nat} {sm : Int32} {kd td mo kt : Nat → Nat} (hs : Sh w) (hS : x_i w 41 2 = nI S) (hS6 : S ≤ 6) (hM : MSl w kd td mo kt) :
    X_R L xs (d + 2) 175 0 [.ref 41, .int sm, x_junk, x_junk] [] w Q = Q none (WH w (loadN (fun s => decide (bv sm (nI s) = nI 1)) kt (wgF kd td mo) S) (dpN (cbN (x_i w 42)) (tbN (x_i w 41 1)) (loadN (fun s => decide (bv sm (nI s) = nI 1)) kt (wgF kd td mo) S) 12) (dpN (cbN (x_i w 42)) (tbN (x_i w 41 1)) (loadN (fun s => decide (bv sm (nI s) = nI 1)) kt (wgF kd td mo) S) 11)) := by
  generalize hsome : (fun s => decide (bv sm (nI s) = nI 1)) = some
  generalize hLD : loadN some kt (wgF kd td mo) S = LD
  have hwg : ∀ s, s < 6 → wgF kd td mo s ≤ 132 := fun s h => wgN_le (hM s h).2.1.2 (hM s h).2.2.1.2
  have hLD9 : ∀ k, LD k ≤ 9000 := fun k => by
    rw [← hLD]
    have := loadN_le some kt (wgF kd td mo) 132 S k (fun s h => hwg s (by omega))
    omega
  generalize hc : cbN (x_i w 42) = c
  generalize ht : tbN (x_i w 41 1) = t
  -- a world of the loops
  let V := fun (f60 f61 f62 : Nat → Int32) => x_sI (x_sI (x_sI w 60 (x_fn 20 f60 (x_i w 60))) 61 (x_fn 20 f61 (x_i w 61))) 62 (x_fn 20 f62 (x_i w 62))
  have e60 : ∀ f60 f61 f62, x_i (V f60 f61 f62) 60 = x_fn 20 f60 (x_i w 60) := fun f60 f61 f62 => by
    show x_i (x_sI (x_sI (x_sI w 60 _) 61 _) 62 _) 60 = _
    rw [x_i_sIn _ _ _ (by decide), x_i_sIn _ _ _ (by decide), x_i_sI]
  have e61 : ∀ f60 f61 f62, x_i (V f60 f61 f62) 61 = x_fn 20 f61 (x_i w 61) := fun f60 f61 f62 => by
    show x_i (x_sI (x_sI (x_sI w 60 _) 61 _) 62 _) 61 = _
    rw [x_i_sIn _ _ _ (by decide), x_i_sI]
  have e62 : ∀ f60 f61 f62, x_i (V f60 f61 f62) 62 = x_fn 20 f62 (x_i w 62) := fun f60 f61 f62 => by
    show x_i (x_sI (x_sI (x_sI w 60 _) 61 _) 62 _) 62 = _
    rw [x_i_sI]
  have eo : ∀ f60 f61 f62 (b : Nat), b ≠ 60 → b ≠ 61 → b ≠ 62 → x_i (V f60 f61 f62) b = x_i w b := fun f60 f61 f62 b h1 h2 h3 => by
    show x_i (x_sI (x_sI (x_sI w 60 _) 61 _) 62 _) b = _
    rw [x_i_sIn _ _ _ h3, x_i_sIn _ _ _ h2, x_i_sIn _ _ _ h1]
  have hsV : ∀ f60 f61 f62, Sh (V f60 f61 f62) := fun _ _ _ => hs
  have s60 : ∀ f60 f61 f62 (q : Nat) (v : Int32), q < 20 → x_si (V f60 f61 f62) 60 q v = V (upd f60 q v) f61 f62 := by
    intro f60 f61 f62 q v hq
    unfold x_si
    rw [e60, x_fn_upd hq]
    show x_sI (x_sI (x_sI (x_sI w 60 _) 61 _) 62 _) 60 _ = x_sI (x_sI (x_sI w 60 _) 61 _) 62 _
    rw [x_sI_comm _ (show 62 ≠ 60 by decide), x_sI_comm _ (show 61 ≠ 60 by decide), x_sI_sI]
  have s61 : ∀ f60 f61 f62 (q : Nat) (v : Int32), q < 20 → x_si (V f60 f61 f62) 61 q v = V f60 (upd f61 q v) f62 := by
    intro f60 f61 f62 q v hq
    unfold x_si
    rw [e61, x_fn_upd hq]
    show x_sI (x_sI (x_sI (x_sI w 60 _) 61 _) 62 _) 61 _ = x_sI (x_sI (x_sI w 60 _) 61 _) 62 _
    rw [x_sI_comm _ (show 62 ≠ 61 by decide), x_sI_sI]
  have s62 : ∀ f60 f61 f62 (q : Nat) (v : Int32), q < 20 → x_si (V f60 f61 f62) 62 q v = V f60 f61 (upd f62 q v) := by
    intro f60 f61 f62 q v hq
    unfold x_si
    rw [e62, x_fn_upd hq]
    show x_sI (x_sI (x_sI (x_sI w 60 _) 61 _) 62 _) 62 _ = x_sI (x_sI (x_sI w 60 _) 61 _) 62 _
    rw [x_sI_sI]
  have cgV : ∀ {f60 g60 f61 g61 f62 g62 : Nat → Int32}, (∀ k, k < 20 → f60 k = g60 k) → (∀ k, k < 20 → f61 k = g61 k) → (∀ k, k < 20 → f62 k = g62 k) → V f60 f61 f62 = V g60 g61 g62 := by
    intro f60 g60 f61 g61 f62 g62 h1 h2 h3
    show x_sI (x_sI (x_sI w 60 _) 61 _) 62 _ = x_sI (x_sI (x_sI w 60 _) 61 _) 62 _
    rw [x_fn_cg h1, x_fn_cg h2, x_fn_cg h3]
  have hV0 : V (x_i w 60) (x_i w 61) (x_i w 62) = w := by
    show x_sI (x_sI (x_sI w 60 _) 61 _) 62 _ = w
    have hself : ∀ f : Nat → Int32, x_fn 20 f f = f := fun f => by funext k; unfold x_fn; simp
    rw [hself, hself, hself, x_sI_id, x_sI_id, x_sI_id]
  -- the last loops: twelve rounds
  have sinkL : ∀ (r : Nat) (v3 : Value) (K : Prop), (X_R L xs (d + 2) 175 135 [.ref 41, .int sm, .int (nI r), .int (nI 20)] [] (V (fun k => nI (LD k)) (fun k => nI (dpN c t LD (r + 1) k)) (fun k => nI (dpN c t LD r k))) Q = K) → ∀ n j, j + n = 20 → ∀ g, X_R L xs (d + 2) 175 112 [.ref 41, .int sm, .int (nI r), .int (nI j)] [] (V (fun k => nI (LD k)) (x_fn j (fun k => nI (dpN c t LD (r + 1) k)) g) (fun k => nI (dpN c t LD r k))) Q = K := by
    intro r v3 K hK n
    induction n with
    | zero =>
      intro j hj g
      obtain rfl : j = 20 := by omega
      rw [X175_112]
      simp only [X175_113, X175_115, Nat.zero_le, and_true, true_and, x_nb0, x_nb1, x_nbp, x_isL_int, x_isL_ref, x_isL_junk, x_isR_ref, x_cat_nil, x_cat_int, x_cat_ref, x_cat_long, Option.toList_some, Option.toList_none, List.cons_append, List.nil_append, Nat.reduceAdd, Nat.reduceLeDiff, Nat.reduceLT, t_tag_si, t_tag_sr, t_tag_sI, x_r_si, x_i_sr, t_r_sI, x_ia_si, x_ia_sI, x_ia_sr, x_ra_si, x_ra_sI, x_ra_sr, nI_leT (Nat.le_refl 20) (by decide), if_true]
      rw [← hK]
      congr 1
      exact cgV (fun _ _ => rfl) (fun k hk => x_fn_in hk) (fun _ _ => rfl)
    | succ n ih =>
      intro j hj g
      have hjx := x_ix_nI (show j < 20 by omega) (show 20 < 2 ^ 31 by decide)
      have hjc := nI_cl (show j < 2 ^ 31 by omega)
      have hsi := fun (Q' : Option Value → x_W → Prop) => S176 (L := L) (xs := xs) (d := d) (Q := Q') (w := V (fun k => nI (LD k)) (x_fn j (fun k => nI (dpN c t LD (r + 1) k)) g) (fun k => nI (dpN c t LD r k))) (k := j) (l := LD j) (p := dpN c t LD r) (hsV _ _ _) (by omega) (by rw [e60, x_fn_in (show j < 20 by omega)]) (hLD9 j) (fun o ho => ⟨by rw [e62, x_fn_in ho], dpN_le _ _ _ _ _⟩)
      rw [eo _ _ _ 42 (by decide) (by decide) (by decide), eo _ _ _ 41 (by decide) (by decide) (by decide), hc, ht] at hsi
      have e := ih (j + 1) (by omega) g
      rw [← x_fn_s j (fun k => nI (dpN c t LD (r + 1) k)) g] at e
      rw [X175_112]
      simp only [X175_113, X175_115, X175_118, X175_119, X175_122, X175_123, X175_124, X175_125, X175_128, X175_129, X175_132, Nat.zero_le, and_true, true_and, x_nb0, x_nb1, x_nbp, x_isL_int, x_isL_ref, x_isL_junk, x_isR_ref, x_cat_nil, x_cat_int, x_cat_ref, x_cat_long, Option.toList_some, Option.toList_none, List.cons_append, List.nil_append, Nat.reduceAdd, Nat.reduceLeDiff, Nat.reduceLT, t_tag_si, t_tag_sr, t_tag_sI, x_r_si, x_i_sr, t_r_sI, x_ia_si, x_ia_sI, x_ia_sr, x_ra_si, x_ra_sI, x_ra_sr, nI_leF (show j < 20 by omega) (by decide), if_false, g_t41 (hsV _ _ _), g_r41_35 (hsV _ _ _), g_a61 (hsV _ _ _), hjx, hsi, hjc, s61 _ _ _ j _ (show j < 20 by omega), nI_add]
      exact e
  have copyL : ∀ (r : Nat) (D : Nat → Nat) (K : Prop) (v3 : Value), (X_R L xs (d + 2) 175 110 [.ref 41, .int sm, .int (nI r), .int (nI 20)] [] (V (fun k => nI (LD k)) (fun k => nI (D k)) (fun k => nI (D k))) Q = K) → ∀ n j, j + n = 20 → ∀ g, X_R L xs (d + 2) 175 86 [.ref 41, .int sm, .int (nI r), .int (nI j)] [] (V (fun k => nI (LD k)) (fun k => nI (D k)) (x_fn j (fun k => nI (D k)) g)) Q = K := by
    intro r D K v3 hK n
    induction n with
    | zero =>
      intro j hj g
      obtain rfl : j = 20 := by omega
      rw [X175_86]
      simp only [X175_87, X175_89, Nat.zero_le, and_true, true_and, x_nb0, x_nb1, x_nbp, x_isL_int, x_isL_ref, x_isL_junk, x_isR_ref, x_cat_nil, x_cat_int, x_cat_ref, x_cat_long, Option.toList_some, Option.toList_none, List.cons_append, List.nil_append, Nat.reduceAdd, Nat.reduceLeDiff, Nat.reduceLT, t_tag_si, t_tag_sr, t_tag_sI, x_r_si, x_i_sr, t_r_sI, x_ia_si, x_ia_sI, x_ia_sr, x_ra_si, x_ra_sI, x_ra_sr, nI_leT (Nat.le_refl 20) (by decide), if_true]
      rw [← hK]
      congr 1
      exact cgV (fun _ _ => rfl) (fun _ _ => rfl) (fun k hk => x_fn_in hk)
    | succ n ih =>
      intro j hj g
      have hjx := x_ix_nI (show j < 20 by omega) (show 20 < 2 ^ 31 by decide)
      have hjc := nI_cl (show j < 2 ^ 31 by omega)
      have e := ih (j + 1) (by omega) g
      rw [← x_fn_s j (fun k => nI (D k)) g] at e
      rw [X175_86]
      simp only [X175_87, X175_89, X175_92, X175_93, X175_96, X175_97, X175_98, X175_101, X175_102, X175_103, X175_104, X175_107, Nat.zero_le, and_true, true_and, x_nb0, x_nb1, x_nbp, x_isL_int, x_isL_ref, x_isL_junk, x_isR_ref, x_cat_nil, x_cat_int, x_cat_ref, x_cat_long, Option.toList_some, Option.toList_none, List.cons_append, List.nil_append, Nat.reduceAdd, Nat.reduceLeDiff, Nat.reduceLT, t_tag_si, t_tag_sr, t_tag_sI, x_r_si, x_i_sr, t_r_sI, x_ia_si, x_ia_sI, x_ia_sr, x_ra_si, x_ra_sI, x_ra_sr, nI_leF (show j < 20 by omega) (by decide), if_false, g_t41 (hsV _ _ _), g_r41_35 (hsV _ _ _), g_r41_36 (hsV _ _ _), g_a61 (hsV _ _ _), g_a62 (hsV _ _ _), hjx, hjc, e61, x_fn_in (show j < 20 by omega), s62 _ _ _ j _ (show j < 20 by omega), nI_add]
      exact e
  have roundL : ∀ n r, r + n = 12 → ∀ (v3 : Value) (g : Nat → Int32), (v3 = x_junk ∨ ∃ z, v3 = .int z) → (r = 0 → True) → (∀ k, k < 20 → 0 < r → g k = nI (dpN c t LD (r - 1) k)) → X_R L xs (d + 2) 175 78 [.ref 41, .int sm, .int (nI r), v3] [] (V (fun k => nI (LD k)) (fun k => nI (dpN c t LD r k)) g) Q = Q none (V (fun k => nI (LD k)) (fun k => nI (dpN c t LD 12 k)) (fun k => nI (dpN c t LD 11 k))) := by
    intro n
    induction n with
    | zero =>
      intro r hr v3 g hv _ hg
      obtain rfl : r = 12 := by omega
      rw [X175_78]
      simp only [X175_79, X175_81, X175_141, Nat.zero_le, and_true, true_and, x_nb0, x_nb1, x_nbp, x_isL_int, x_isL_ref, x_isL_junk, x_isR_ref, x_cat_nil, x_cat_int, x_cat_ref, x_cat_long, Option.toList_some, Option.toList_none, List.cons_append, List.nil_append, Nat.reduceAdd, Nat.reduceLeDiff, Nat.reduceLT, t_tag_si, t_tag_sr, t_tag_sI, x_r_si, x_i_sr, t_r_sI, x_ia_si, x_ia_sI, x_ia_sr, x_ra_si, x_ra_sI, x_ra_sr, nI_leT (Nat.le_refl 12) (by decide), if_true]
      congr 1
      exact cgV (fun _ _ => rfl) (fun _ _ => rfl) (fun k hk => hg k hk (by decide))
    | succ n ih =>
      intro r hr v3 g hv _ hg
      have e := ih (r + 1) (by omega) (.int (nI 20)) (fun k => nI (dpN c t LD r k)) (Or.inr ⟨_, rfl⟩) (fun _ => trivial) (fun k _ _ => rfl)
      have e1 : X_R L xs (d + 2) 175 135 [.ref 41, .int sm, .int (nI r), .int (nI 20)] [] (V (fun k => nI (LD k)) (fun k => nI (dpN c t LD (r + 1) k)) (fun k => nI (dpN c t LD r k))) Q = Q none (V (fun k => nI (LD k)) (fun k => nI (dpN c t LD 12 k)) (fun k => nI (dpN c t LD 11 k))) := by
        rw [← e]
        simp only [X175_135, X175_138, Nat.zero_le, and_true, true_and, x_nb0, x_nb1, x_nbp, x_isL_int, x_isL_ref, x_isL_junk, x_isR_ref, x_cat_nil, x_cat_int, x_cat_ref, x_cat_long, Option.toList_some, Option.toList_none, List.cons_append, List.nil_append, Nat.reduceAdd, Nat.reduceLeDiff, Nat.reduceLT, t_tag_si, t_tag_sr, t_tag_sI, x_r_si, x_i_sr, t_r_sI, x_ia_si, x_ia_sI, x_ia_sr, x_ra_si, x_ra_sI, x_ra_sr, nI_add]
      have e2 := sinkL r v3 _ e1 20 0 rfl (fun k => nI (dpN c t LD r k))
      rw [x_fn_0] at e2
      have e3 : X_R L xs (d + 2) 175 110 [.ref 41, .int sm, .int (nI r), .int (nI 20)] [] (V (fun k => nI (LD k)) (fun k => nI (dpN c t LD r k)) (fun k => nI (dpN c t LD r k))) Q = Q none (V (fun k => nI (LD k)) (fun k => nI (dpN c t LD 12 k)) (fun k => nI (dpN c t LD 11 k))) := by
        rw [← e2]
        simp only [X175_110, X175_111, Nat.zero_le, and_true, true_and, x_nb0, x_nb1, x_nbp, x_isL_int, x_isL_ref, x_isL_junk, x_isR_ref, x_cat_nil, x_cat_int, x_cat_ref, x_cat_long, Option.toList_some, Option.toList_none, List.cons_append, List.nil_append, Nat.reduceAdd, Nat.reduceLeDiff, Nat.reduceLT, t_tag_si, t_tag_sr, t_tag_sI, x_r_si, x_i_sr, t_r_sI, x_ia_si, x_ia_sI, x_ia_sr, x_ra_si, x_ra_sI, x_ra_sr]
      have e4 := copyL r (dpN c t LD r) _ v3 e3 20 0 rfl g
      rw [x_fn_0] at e4
      rw [X175_78, ← e4]
      simp only [X175_79, X175_81, X175_84, X175_85, Nat.zero_le, and_true, true_and, x_nb0, x_nb1, x_nbp, x_isL_int, x_isL_ref, x_isL_junk, x_isR_ref, x_cat_nil, x_cat_int, x_cat_ref, x_cat_long, Option.toList_some, Option.toList_none, List.cons_append, List.nil_append, Nat.reduceAdd, Nat.reduceLeDiff, Nat.reduceLT, t_tag_si, t_tag_sr, t_tag_sI, x_r_si, x_i_sr, t_r_sI, x_ia_si, x_ia_sI, x_ia_sr, x_ra_si, x_ra_sI, x_ra_sr, nI_leF (show r < 12 by omega) (by decide), if_false]
  -- the loads
  have loadL : ∀ n j, j + n = S → X_R L xs (d + 2) 175 30 [.ref 41, .int sm, .int (nI j), x_junk] [] (V (fun k => nI (loadN some kt (wgF kd td mo) j k)) (fun k => nI (dpN c t LD 0 k)) (x_i w 62)) Q = Q none (V (fun k => nI (LD k)) (fun k => nI (dpN c t LD 12 k)) (fun k => nI (dpN c t LD 11 k))) := by
    intro n
    induction n with
    | zero =>
      intro j hj
      obtain rfl : j = S := by omega
      have e := roundL 12 0 rfl x_junk (x_i w 62) (Or.inl rfl) (fun _ => trivial) (fun k _ h => absurd h (by decide))
      rw [X175_30, hLD, ← e]
      simp only [X175_31, X175_32, X175_35, X175_76, X175_77, Nat.zero_le, and_true, true_and, x_nb0, x_nb1, x_nbp, x_isL_int, x_isL_ref, x_isL_junk, x_isR_ref, x_cat_nil, x_cat_int, x_cat_ref, x_cat_long, Option.toList_some, Option.toList_none, List.cons_append, List.nil_append, Nat.reduceAdd, Nat.reduceLeDiff, Nat.reduceLT, t_tag_si, t_tag_sr, t_tag_sI, x_r_si, x_i_sr, t_r_sI, x_ia_si, x_ia_sI, x_ia_sr, x_ra_si, x_ra_sI, x_ra_sr, g_t41 (hsV _ _ _), eo _ _ _ 41 (by decide) (by decide) (by decide), hS, nI_leT (Nat.le_refl j) (show j < 2 ^ 31 by omega), if_true]
    | succ n ih =>
      intro j hj
      have e := ih (j + 1) (by omega)
      have hM' := hM j (by omega)
      obtain ⟨⟨m1, m2⟩, ⟨m3, m4⟩, ⟨m5, m6⟩, ⟨m7, m8⟩⟩ := hM'
      have hjx := x_ix_nI (show j < 6 by omega) (show 6 < 2 ^ 31 by decide)
      have hjc := nI_cl (show j < 2 ^ 31 by omega)
      have hkx := x_ix_nI m8 (show 20 < 2 ^ 31 by decide)
      have hkc := nI_cl (show kt j < 2 ^ 31 by omega)
      have e46 : x_i (V (fun k => nI (loadN some kt (wgF kd td mo) j k)) (fun k => nI (dpN c t LD 0 k)) (x_i w 62)) 46 j = nI (kt j) := by rw [eo _ _ _ 46 (by decide) (by decide) (by decide)]; exact m7
      have hwe := fun (Q' : Option Value → x_W → Prop) => S171 (L := L) (xs := xs) (d := d + 1) (Q := Q') (w := V (fun k => nI (loadN some kt (wgF kd td mo) j k)) (fun k => nI (dpN c t LD 0 k)) (x_i w 62)) (s := j) (hsV _ _ _) (by omega) (by rw [eo _ _ _ 43 (by decide) (by decide) (by decide)]; exact m1) (by rw [eo _ _ _ 44 (by decide) (by decide) (by decide)]; exact m3) (by rw [eo _ _ _ 45 (by decide) (by decide) (by decide)]; exact m5) m2 m4 m6
      have eb : sm >>> (nI j &&& 31) &&& nI 1 = bv sm (nI j) := rfl
      have hst := loadN_s some kt (wgF kd td mo) j (kt j) rfl
      rw [X175_30]
      rcases bv_cases sm (nI j) with hb | hb
      · have hsj : some j = false := by rw [← hsome]; show decide _ = _; rw [hb]; decide
        have e01 : (nI 0 = nI 1) = False := nI_eqF (by decide) (by decide) (by decide)
        rw [hsj] at hst
        simp only [Bool.false_eq_true, if_false, Nat.add_zero] at hst
        simp only [X175_31, X175_32, X175_35, X175_38, X175_39, X175_42, X175_43, X175_46, X175_47, X175_48, X175_49, X175_50, X175_51, X175_52, X175_53, X175_54, X175_55, X175_56, X175_67, X175_68, X175_69, X175_70, X175_73, Nat.zero_le, and_true, true_and, x_nb0, x_nb1, x_nbp, x_isL_int, x_isL_ref, x_isL_junk, x_isR_ref, x_cat_nil, x_cat_int, x_cat_ref, x_cat_long, Option.toList_some, Option.toList_none, List.cons_append, List.nil_append, Nat.reduceAdd, Nat.reduceLeDiff, Nat.reduceLT, t_tag_si, t_tag_sr, t_tag_sI, x_r_si, x_i_sr, t_r_sI, x_ia_si, x_ia_sI, x_ia_sr, x_ra_si, x_ra_sI, x_ra_sr, g_t41 (hsV _ _ _), eo _ _ _ 41 (by decide) (by decide) (by decide), hS, nI_leF (show j < S by omega) (show S < 2 ^ 31 by omega), if_false, g_r41_34 (hsV _ _ _), g_r41_6 (hsV _ _ _), g_a46 (hsV _ _ _), g_a60 (hsV _ _ _), hjx, hjc, e46, hkx, hkc, e60, x_fn_in m8, eb, hb, e01, nI_add, Nat.add_zero, s60 _ _ _ (kt j) _ m8, hst]
        exact e
      · have hsj : some j = true := by rw [← hsome]; show decide _ = _; rw [hb]; decide
        rw [hsj] at hst
        simp only [if_true] at hst
        have hwe' : ∀ Q', X_R L xs (d + 1) 171 0 [.ref 41, .int (nI j), x_junk] [] (V (fun k => nI (loadN some kt (wgF kd td mo) j k)) (fun k => nI (dpN c t LD 0 k)) (x_i w 62)) Q' = Q' (Option.some (.int (nI (wgF kd td mo j)))) (V (fun k => nI (loadN some kt (wgF kd td mo) j k)) (fun k => nI (dpN c t LD 0 k)) (x_i w 62)) := hwe
        simp only [X175_31, X175_32, X175_35, X175_38, X175_39, X175_42, X175_43, X175_46, X175_47, X175_48, X175_49, X175_50, X175_51, X175_52, X175_53, X175_54, X175_55, X175_56, X175_59, X175_60, X175_61, X175_64, X175_68, X175_69, X175_70, X175_73, Nat.zero_le, and_true, true_and, x_nb0, x_nb1, x_nbp, x_isL_int, x_isL_ref, x_isL_junk, x_isR_ref, x_cat_nil, x_cat_int, x_cat_ref, x_cat_long, Option.toList_some, Option.toList_none, List.cons_append, List.nil_append, Nat.reduceAdd, Nat.reduceLeDiff, Nat.reduceLT, t_tag_si, t_tag_sr, t_tag_sI, x_r_si, x_i_sr, t_r_sI, x_ia_si, x_ia_sI, x_ia_sr, x_ra_si, x_ra_sI, x_ra_sr, g_t41 (hsV _ _ _), eo _ _ _ 41 (by decide) (by decide) (by decide), hS, nI_leF (show j < S by omega) (show S < 2 ^ 31 by omega), if_false, g_r41_34 (hsV _ _ _), g_r41_6 (hsV _ _ _), g_a46 (hsV _ _ _), g_a60 (hsV _ _ _), hjx, hjc, e46, hkx, hkc, e60, x_fn_in m8, eb, hb, if_true, hwe', nI_add, s60 _ _ _ (kt j) _ m8, hst]
        exact e
  have zeroL : ∀ n j, j + n = 20 → X_R L xs (d + 2) 175 2 [.ref 41, .int sm, .int (nI j), x_junk] [] (V (x_fn j (fun _ => nI 0) (x_i w 60)) (x_fn j (fun _ => nI 0) (x_i w 61)) (x_i w 62)) Q = Q none (V (fun k => nI (LD k)) (fun k => nI (dpN c t LD 12 k)) (fun k => nI (dpN c t LD 11 k))) := by
    intro n
    induction n with
    | zero =>
      intro j hj
      obtain rfl : j = 20 := by omega
      have e := loadL S 0 (Nat.zero_add _)
      have ev : V (x_fn 20 (fun _ => nI 0) (x_i w 60)) (x_fn 20 (fun _ => nI 0) (x_i w 61)) (x_i w 62) = V (fun k => nI (loadN some kt (wgF kd td mo) 0 k)) (fun k => nI (dpN c t LD 0 k)) (x_i w 62) := cgV (fun k hk => x_fn_in hk) (fun k hk => x_fn_in hk) (fun _ _ => rfl)
      rw [X175_2, ev, ← e]
      simp only [X175_3, X175_5, X175_28, X175_29, Nat.zero_le, and_true, true_and, x_nb0, x_nb1, x_nbp, x_isL_int, x_isL_ref, x_isL_junk, x_isR_ref, x_cat_nil, x_cat_int, x_cat_ref, x_cat_long, Option.toList_some, Option.toList_none, List.cons_append, List.nil_append, Nat.reduceAdd, Nat.reduceLeDiff, Nat.reduceLT, t_tag_si, t_tag_sr, t_tag_sI, x_r_si, x_i_sr, t_r_sI, x_ia_si, x_ia_sI, x_ia_sr, x_ra_si, x_ra_sI, x_ra_sr, nI_leT (Nat.le_refl 20) (by decide), if_true]
    | succ n ih =>
      intro j hj
      have hjx := x_ix_nI (show j < 20 by omega) (show 20 < 2 ^ 31 by decide)
      have hjc := nI_cl (show j < 2 ^ 31 by omega)
      have e := ih (j + 1) (by omega)
      rw [← x_fn_s j (fun _ => nI 0) (x_i w 60), ← x_fn_s j (fun _ => nI 0) (x_i w 61)] at e
      rw [X175_2]
      simp only [X175_3, X175_5, X175_8, X175_9, X175_12, X175_13, X175_14, X175_15, X175_16, X175_19, X175_20, X175_21, X175_22, X175_25, Nat.zero_le, and_true, true_and, x_nb0, x_nb1, x_nbp, x_isL_int, x_isL_ref, x_isL_junk, x_isR_ref, x_cat_nil, x_cat_int, x_cat_ref, x_cat_long, Option.toList_some, Option.toList_none, List.cons_append, List.nil_append, Nat.reduceAdd, Nat.reduceLeDiff, Nat.reduceLT, t_tag_si, t_tag_sr, t_tag_sI, x_r_si, x_i_sr, t_r_sI, x_ia_si, x_ia_sI, x_ia_sr, x_ra_si, x_ra_sI, x_ra_sr, nI_leF (show j < 20 by omega) (by decide), if_false, g_t41 (hsV _ _ _), g_r41_34 (hsV _ _ _), g_r41_35 (hsV _ _ _), g_a60 (hsV _ _ _), g_a61 (hsV _ _ _), hjx, hjc, s60 _ _ _ j _ (show j < 20 by omega), s61 _ _ _ j _ (show j < 20 by omega), nI_add]
      exact e
  have e := zeroL 20 0 rfl
  rw [x_fn_0, x_fn_0, hV0] at e
  simp only [X175_0, X175_1, Nat.zero_le, and_true, true_and, x_nb0, x_nb1, x_nbp, x_isL_int, x_isL_ref, x_isL_junk, x_isR_ref, x_cat_nil, x_cat_int, x_cat_ref, x_cat_long, Option.toList_some, Option.toList_none, List.cons_append, List.nil_append, Nat.reduceAdd, Nat.reduceLeDiff, Nat.reduceLT, t_tag_si, t_tag_sr, t_tag_sI, x_r_si, x_i_sr, t_r_sI, x_ia_si, x_ia_sI, x_ia_sr, x_ra_si, x_ra_sI, x_ra_sr]
  exact e
end S48
