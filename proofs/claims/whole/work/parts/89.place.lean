/-! ===== where to lie: place ===== -/
/-- what may change, and a whole cell -/
def orc (P : Nat → Nat → Bool) (a b k : Nat) : Bool := P b k || b == a
def updN (f : Nat → Nat) (s k : Nat) : Nat → Nat := fun j => if j = s then k else f j
section
variable {P : Nat → Nat → Bool} {w w' : x_W} {a : Nat}
theorem Ch.cell (h : Ch (orc P a) w w') (e : x_i w' a = x_i w a) : Ch P w w' := ⟨h.1, h.2.1, fun b k hb => by
  by_cases hba : b = a
  · subst hba; rw [e]
  · exact h.2.2 b k (by unfold orc; rw [hb, beq_false_of_ne hba]; rfl)⟩
theorem Ch.orc (h : Ch P w w') : Ch (orc P a) w w' := h.mono fun b k hb => by
  unfold Jvm.Pilot.COneNetLaw_law_r7613_88591e.orc at hb
  rw [Bool.or_eq_false_iff] at hb
  exact hb.1
theorem Ch_orc {k : Nat} {v : Int32} : Ch (orc P a) w (x_si w a k v) := Ch_si (by unfold orc; rw [beq_self_eq_true, Bool.or_true])
theorem Ch_orcI {f : Nat → Int32} : Ch (orc P a) w (x_sI w a f) := Ch_sI (fun k => by unfold orc; rw [beq_self_eq_true, Bool.or_true])
end
theorem orc_a {l : List Nat} {a : Nat} {w w' : x_W} (h : Ch (orc (sc l) a) w w') (hl : (l.all fun x => SA.elem x) = true) : Ch (orc (sc SA) a) w w' := h.mono fun b k hb => by
  unfold orc at *
  rw [Bool.or_eq_false_iff] at *
  exact ⟨sc_sub (elem_sub hl) hb.1, hb.2⟩
theorem orc_ma {l : List Nat} {a : Nat} {w w' : x_W} (h : Ch (orc (sm l) a) w w') (hl : (l.all fun x => SA.elem x) = true) : Ch (orc (sc SA) a) w w' := h.mono fun b k hb => by
  unfold orc at *
  rw [Bool.or_eq_false_iff] at *
  refine ⟨?_, hb.2⟩
  have h1 := sc_sub (elem_sub hl) hb.1
  unfold sc at h1
  rw [Bool.or_eq_false_iff, Bool.or_eq_false_iff] at h1
  exact h1.1.1
theorem FarOk.of {w w' : x_W} (h : FarOk w) (e6 : x_i w' 23 6 = x_i w 23 6) (e28 : x_i w' 28 = x_i w 28) (e24 : x_i w' 24 = x_i w 24) : FarOk w' := by
  unfold FarOk at *
  rw [e6, e28, e24]
  exact h
section
variable {w w' : x_W} {S : Nat} {kd td mo kt kt' tl : Nat → Nat} {tk : Nat → Nat → Nat}
/-- others lie elsewhere -/
theorem EX.lies (h : EX w S kd td mo kt tl tk) (hc : Ch (orc (sc SA) 30) w w') (hf : FarOk w') (hk : ∀ q, q < 6 → x_i w' 30 q = nI (kt' q) ∧ kt' q < 20) : EX w' S kd td mo kt' tl tk := by
  have e35 : ∀ s, s < 6 → x_i w' (35 + s) = x_i w (35 + s) := fun s hs => hc.i (by
    intro k
    rcases (by omega : s = 0 ∨ s = 1 ∨ s = 2 ∨ s = 3 ∨ s = 4 ∨ s = 5) with rfl | rfl | rfl | rfl | rfl | rfl <;> rfl)
  have h6 := h.1.S6
  refine ⟨⟨hc.sh h.sh, hc.sd h.1.sd, by rw [hc.2.2 22 4 rfl]; exact h.1.hS, h6, ⟨fun s hs => ?_, fun s hs => ?_⟩, fun s hs => ?_, by rw [hc.i (fun _ => rfl : ∀ k, orc (sc SA) 30 24 k = false)]; exact h.1.nb⟩, ?_, hf⟩
  · have h1 := h.1.X.1 s hs
    rw [e35 s hs]
    exact ⟨h1.1, h1.2.1, h1.2.2.1, (hk s hs).1⟩
  · rw [e35 s (by omega)]
    exact h.1.X.2 s hs
  · have h1 := h.1.bd s hs
    exact ⟨h1.1, h1.2.1, h1.2.2.1, (hk s hs).2⟩
  · obtain ⟨a, n, ha, hl, hp⟩ := h.2.1
    have hno : ∀ k, orc (sc SA) 30 (a + 1) k = false ∧ orc (sc SA) 30 (a + 2) k = false := by
      intro k
      have h1 := sc_law ha k
      have h2 : ¬ (a + 1 = 30) ∧ ¬ (a + 2 = 30) := by rcases ha with rfl | ⟨_, _, _⟩ <;> omega
      unfold orc
      rw [h1.1, h1.2.1, beq_false_of_ne h2.1, beq_false_of_ne h2.2]
      exact ⟨rfl, rfl⟩
    refine ⟨a, n, ha, ⟨?_, hl.2.1, hl.2.2.1, by rw [hc.r]; exact hl.2.2.2⟩, fun p p3 => ?_⟩
    · have := hl.1
      unfold LawX at *
      rw [hc.t, hc.t, hc.t, hc.t, hc.r]
      exact this
    · unfold PartX
      rw [hc.i (fun k => (hno k).1), hc.i (fun k => (hno k).2)]
      exact hp p p3
theorem EM.lies (h : EM w S kd td mo kt tl tk) (hc : Ch (orc (sc SA) 46) w w') (hk : ∀ q, q < 6 → x_i w' 46 q = nI (kt' q) ∧ kt' q < 20) : EM w' S kd td mo kt' tl tk := by
  refine ⟨⟨hc.sh h.sh, by rw [hc.2.2 41 2 rfl]; exact h.1.hS, h.1.S6, fun s hs => ?_⟩, ?_⟩
  · rw [hc.i (fun _ => rfl : ∀ k, orc (sc SA) 46 43 k = false), hc.i (fun _ => rfl : ∀ k, orc (sc SA) 46 44 k = false), hc.i (fun _ => rfl : ∀ k, orc (sc SA) 46 45 k = false)]
    have h1 := h.1.M s hs
    exact ⟨h1.1, h1.2.1, h1.2.2.1, hk s hs⟩
  · obtain ⟨r, r6, hr, hp⟩ := h.2
    refine ⟨r, r6, by rw [hc.2.2 41 12 rfl]; exact hr, fun p p3 => ?_⟩
    unfold PartM
    rw [hc.i (fun _ => rfl : ∀ k, orc (sc SA) 46 49 k = false), hc.i (fun _ => rfl : ∀ k, orc (sc SA) 46 48 k = false)]
    exact hp p p3
theorem orc_C {w w' : x_W} (hc : Ch (orc (sc SA) 30) w w') : x_i w' 24 = x_i w 24 := hc.i (fun _ => rfl)
theorem orc_C2 {w w' : x_W} (hc : Ch (orc (sc SA) 46) w w') : x_i w' 42 = x_i w 42 := hc.i (fun _ => rfl)
end
def plS (f : Nat → Nat) : Nat → Int32 × Nat
  | 0 => (-1, 0)
  | j + 1 => if (plS f j).1 = -1 ∨ f j < (plS f j).2 then (nI j, f j) else plS f j
theorem plS_t {f : Nat → Nat} {j : Nat} (h : (plS f j).1 = -1 ∨ f j < (plS f j).2) : plS f (j + 1) = (nI j, f j) := if_pos h
theorem plS_f {f : Nat → Nat} {j : Nat} (h : ¬ ((plS f j).1 = -1 ∨ f j < (plS f j).2)) : plS f (j + 1) = plS f j := if_neg h
theorem plS_le {f : Nat → Nat} {M : Nat} (h : ∀ k, f k ≤ M) (j : Nat) : (plS f j).2 ≤ M := by
  induction j with
  | zero => exact Nat.zero_le _
  | succ j ih => unfold plS; split; exact h j; exact ih
theorem plS_cg {f g : Nat → Nat} (n : Nat) (h : ∀ k, k < n → f k = g k) : plS f n = plS g n := by
  induction n with
  | zero => rfl
  | succ n ih =>
    unfold plS
    rw [ih (fun k hk => h k (by omega)), h n (Nat.lt_succ_self _)]
def nuX (w : x_W) (S : Nat) (kd td mo tl : Nat → Nat) (tk : Nat → Nat → Nat) (kt : Nat → Nat) : Nat := unN (wkB kd td mo kt tl tk (farX w kt)) S S
def nuM (w : x_W) (S : Nat) (kd td mo tl : Nat → Nat) (tk : Nat → Nat → Nat) (kt : Nat → Nat) : Nat := unN (wkB kd td mo kt tl tk (farM w kt)) S S
theorem updN_o {f : Nat → Nat} {s k j : Nat} (h : j ≠ s) : updN f s k j = f j := if_neg h
theorem updN_s {f : Nat → Nat} {s k : Nat} : updN f s k s = k := if_pos rfl
section S89
variable {L : Nat} {xs : Nat → Int32} {d : Nat} {w w' : x_W} {S : Nat} {kd td mo kt tl : Nat → Nat} {tk : Nat → Nat → Nat}
/-- the class lies s at k: what stands then -/
theorem lieX (h : EX w S kd td mo kt tl tk) {w1 : x_W} (c1 : Ch (orc (sc [28, 34]) 30) w w1) (hF1 : FarOk w1) {s k : Nat} (hs : s < 6) (h30 : ∀ q, q ≠ s → x_i w1 30 q = x_i w 30 q) (hk : k < 20) : EX (x_si w1 30 s (nI k)) S kd td mo (updN kt s k) tl tk := by
  refine h.lies (orc_a (c1.trans Ch_orc) rfl) (hF1.of (by rw [x_i_sin _ _ _ _ (by decide)]) (by rw [x_i_sin _ _ _ _ (by decide)]) (by rw [x_i_sin _ _ _ _ (by decide)])) (fun q hq => ?_)
  rw [x_i_si]
  by_cases hqs : q = s
  · subst hqs
    rw [upd_s, updN_s]
    exact ⟨rfl, hk⟩
  · rw [upd_o hqs, updN_o hqs, h30 q hqs]
    exact ⟨(h.1.X.1 q hq).2.2.2, (h.1.bd q hq).2.2.2⟩
theorem lieM (h : EM w S kd td mo kt tl tk) {w1 : x_W} (c1 : Ch (orc (sm [58, 59]) 46) w w1) {s k : Nat} (hs : s < 6) (h30 : ∀ q, q ≠ s → x_i w1 46 q = x_i w 46 q) (hk : k < 20) : EM (x_si w1 46 s (nI k)) S kd td mo (updN kt s k) tl tk := by
  refine h.lies (orc_ma (c1.trans Ch_orc) rfl) (fun q hq => ?_)
  rw [x_i_si]
  by_cases hqs : q = s
  · subst hqs
    rw [upd_s, updN_s]
    exact ⟨rfl, hk⟩
  · rw [upd_o hqs, updN_o hqs, h30 q hqs]
    exact (h.1.M q hq).2.2.2
theorem nuX_le (h6 : S ≤ 6) (w1 : x_W) (kt' : Nat → Nat) : nuX w1 S kd td mo tl tk kt' ≤ 36 := Nat.le_trans (unN_le h6 S) (by omega)
theorem nuM_le (h6 : S ≤ 6) (w1 : x_W) (kt' : Nat → Nat) : nuM w1 S kd td mo tl tk kt' ≤ 36 := Nat.le_trans (unN_le h6 S) (by omega)
theorem nI_m1e {a : Nat} (h : a < 2 ^ 31) : ¬ nI a = -1 := by
  intro q
  have h1 : nI 0 ≤ nI a := nI_le (Nat.zero_le _) h
  rw [q] at h1
  exact absurd h1 (by decide)
theorem S27l (h : EX w S kd td mo kt tl tk) {s : Nat} (hs : s < S) (lay v : Int32) : ∀ n j, j + n = 20 → ∀ w1, Ch (orc (sc [28, 34]) 30) w w1 → FarOk w1 → (∀ q, q ≠ s → x_i w1 30 q = x_i w 30 q) → ∀ u7 : Value, x_isL u7 = false → ∃ w2 u, Ch (orc (sc [28, 34]) 30) w w2 ∧ FarOk w2 ∧ (∀ q, q ≠ s → x_i w2 30 q = x_i w 30 q) ∧ ∀ Q, X_R L xs (d + 12) 27 43 [.ref 0, .int (nI s), .int v, .int lay, .int (plS (fun k => nuX w S kd td mo tl tk (updN kt s k)) j).1, .int (nI (plS (fun k => nuX w S kd td mo tl tk (updN kt s k)) j).2), .int (nI j), u7] [] w1 Q = X_R L xs (d + 12) 27 97 [.ref 0, .int (nI s), .int v, .int lay, .int (plS (fun k => nuX w S kd td mo tl tk (updN kt s k)) 20).1, .int (nI (plS (fun k => nuX w S kd td mo tl tk (updN kt s k)) 20).2), .int (nI 20), u] [] w2 Q := by
  have h6 := h.1.S6
  have hsx := x_ix_nI (show s < 6 by omega) (show 6 < 2 ^ 31 by decide)
  have hsc := nI_cl (show s < 2 ^ 31 by omega)
  intro n
  induction n with
  | zero =>
    intro j hj w1 c1 hF1 h30 u7 h7
    obtain rfl : j = 20 := by omega
    refine ⟨w1, u7, c1, hF1, h30, fun Q => ?_⟩
    rw [X27_43]
    simp only [X27_45, X27_47, Nat.zero_le, and_true, true_and, x_nb0, x_nb1, x_nbp, x_isL_int, x_isL_ref, x_isL_junk, x_isR_ref, x_cat_nil, x_cat_int, x_cat_ref, x_cat_long, Option.toList_some, Option.toList_none, List.cons_append, List.nil_append, Nat.reduceAdd, Nat.reduceLeDiff, Nat.reduceLT, t_tag_si, t_tag_sr, t_tag_sI, x_r_si, x_i_sr, t_r_sI, x_ia_si, x_ia_sI, x_ia_sr, x_ra_si, x_ra_sI, x_ra_sr, nI_leT (Nat.le_refl 20) (show 20 < 2 ^ 31 by decide), if_true]
  | succ n ih =>
    intro j hj w1 c1 hF1 h30 u7 h7
    have hX2 := lieX h c1 hF1 (show s < 6 by omega) h30 (show j < 20 by omega)
    obtain ⟨w3, c3, hF3, e69⟩ := S69 (L := L) (xs := xs) (d := d + 5) hX2
    have c13 : Ch (orc (sc [28, 34]) 30) w w3 := (c1.trans Ch_orc).trans c3.orc
    have h303 : ∀ q, q ≠ s → x_i w3 30 q = x_i w 30 q := fun q hq => by
      rw [c3.i (fun _ => rfl : ∀ k, sc [28, 34] 30 k = false), x_i_si, upd_o hq]
      exact h30 q hq
    have eC : farX (x_si w1 30 s (nI j)) (updN kt s j) = farX w (updN kt s j) := by
      funext p q
      unfold farX
      rw [x_i_sin _ _ _ _ (by decide), orc_C (orc_a c1 rfl)]
    rw [eC] at e69
    have enu : unN (wkB kd td mo (updN kt s j) tl tk (farX w (updN kt s j))) S S = nuX w S kd td mo tl tk (updN kt s j) := rfl
    rw [enu] at e69
    have hle := nuX_le (S := S) (kd := kd) (td := td) (mo := mo) (tl := tl) (tk := tk) h6 w (updN kt s j)
    have hpl := plS_le (f := fun k => nuX w S kd td mo tl tk (updN kt s k)) (M := 36) (fun k => nuX_le h6 w (updN kt s k)) j
    obtain ⟨w4, u4, c4, hF4, h304, e4⟩ := ih (j + 1) (by omega) w3 c13 hF3 h303 (.int (nI (nuX w S kd td mo tl tk (updN kt s j)))) rfl
    refine ⟨w4, u4, c4, hF4, h304, fun Q => ?_⟩
    rw [← e4 Q, X27_43]
    have hs1 := c1.sh h.sh
    by_cases hb : (plS (fun k => nuX w S kd td mo tl tk (updN kt s k)) j).1 = -1
    · rw [plS_t (Or.inl hb)]
      simp only [X27_0, X27_1, X27_4, X27_5, X27_8, X27_11, X27_13, X27_14, X27_15, X27_18, X27_21, X27_23, X27_24, X27_25, X27_28, X27_31, X27_32, X27_33, X27_34, X27_35, X27_37, X27_38, X27_40, X27_41, X27_45, X27_47, X27_50, X27_51, X27_54, X27_57, X27_58, X27_60, X27_61, X27_62, X27_65, X27_68, X27_70, X27_72, X27_73, X27_76, X27_78, X27_80, X27_83, X27_85, X27_87, X27_89, X27_91, X27_94, X27_97, X27_98, X27_101, X27_104, X27_105, X27_106, X27_107, X27_108, X27_111, X27_113, X27_116, X27_118, Nat.zero_le, and_true, true_and, x_nb0, x_nb1, x_nbp, x_isL_int, x_isL_ref, x_isL_junk, x_isR_ref, x_cat_nil, x_cat_int, x_cat_ref, x_cat_long, Option.toList_some, Option.toList_none, List.cons_append, List.nil_append, Nat.reduceAdd, Nat.reduceLeDiff, Nat.reduceLT, t_tag_si, t_tag_sr, t_tag_sI, x_r_si, x_i_sr, t_r_sI, x_ia_si, x_ia_sI, x_ia_sr, x_ra_si, x_ra_sI, x_ra_sr, h7, nI_leF (show j < 20 by omega) (show 20 < 2 ^ 31 by decide), if_false, g_t0 hs1, g_r0_4 hs1, g_t22 hs1, g_r22_3 hs1, g_a30 hs1, hsx, hsc, e69, hb, if_true, nI_add]
    · by_cases hl : nuX w S kd td mo tl tk (updN kt s j) < (plS (fun k => nuX w S kd td mo tl tk (updN kt s k)) j).2
      · rw [plS_t (Or.inr hl)]
        simp only [X27_0, X27_1, X27_4, X27_5, X27_8, X27_11, X27_13, X27_14, X27_15, X27_18, X27_21, X27_23, X27_24, X27_25, X27_28, X27_31, X27_32, X27_33, X27_34, X27_35, X27_37, X27_38, X27_40, X27_41, X27_45, X27_47, X27_50, X27_51, X27_54, X27_57, X27_58, X27_60, X27_61, X27_62, X27_65, X27_68, X27_70, X27_72, X27_73, X27_76, X27_78, X27_80, X27_83, X27_85, X27_87, X27_89, X27_91, X27_94, X27_97, X27_98, X27_101, X27_104, X27_105, X27_106, X27_107, X27_108, X27_111, X27_113, X27_116, X27_118, Nat.zero_le, and_true, true_and, x_nb0, x_nb1, x_nbp, x_isL_int, x_isL_ref, x_isL_junk, x_isR_ref, x_cat_nil, x_cat_int, x_cat_ref, x_cat_long, Option.toList_some, Option.toList_none, List.cons_append, List.nil_append, Nat.reduceAdd, Nat.reduceLeDiff, Nat.reduceLT, t_tag_si, t_tag_sr, t_tag_sI, x_r_si, x_i_sr, t_r_sI, x_ia_si, x_ia_sI, x_ia_sr, x_ra_si, x_ra_sI, x_ra_sr, h7, nI_leF (show j < 20 by omega) (show 20 < 2 ^ 31 by decide), if_false, g_t0 hs1, g_r0_4 hs1, g_t22 hs1, g_r22_3 hs1, g_a30 hs1, hsx, hsc, e69, hb, nI_leF hl (show (plS (fun k => nuX w S kd td mo tl tk (updN kt s k)) j).2 < 2 ^ 31 by omega), nI_add]
      · rw [plS_f (fun q => q.elim hb hl)]
        simp only [X27_0, X27_1, X27_4, X27_5, X27_8, X27_11, X27_13, X27_14, X27_15, X27_18, X27_21, X27_23, X27_24, X27_25, X27_28, X27_31, X27_32, X27_33, X27_34, X27_35, X27_37, X27_38, X27_40, X27_41, X27_45, X27_47, X27_50, X27_51, X27_54, X27_57, X27_58, X27_60, X27_61, X27_62, X27_65, X27_68, X27_70, X27_72, X27_73, X27_76, X27_78, X27_80, X27_83, X27_85, X27_87, X27_89, X27_91, X27_94, X27_97, X27_98, X27_101, X27_104, X27_105, X27_106, X27_107, X27_108, X27_111, X27_113, X27_116, X27_118, Nat.zero_le, and_true, true_and, x_nb0, x_nb1, x_nbp, x_isL_int, x_isL_ref, x_isL_junk, x_isR_ref, x_cat_nil, x_cat_int, x_cat_ref, x_cat_long, Option.toList_some, Option.toList_none, List.cons_append, List.nil_append, Nat.reduceAdd, Nat.reduceLeDiff, Nat.reduceLT, t_tag_si, t_tag_sr, t_tag_sI, x_r_si, x_i_sr, t_r_sI, x_ia_si, x_ia_sI, x_ia_sr, x_ra_si, x_ra_sI, x_ra_sr, h7, nI_leF (show j < 20 by omega) (show 20 < 2 ^ 31 by decide), if_false, g_t0 hs1, g_r0_4 hs1, g_t22 hs1, g_r22_3 hs1, g_a30 hs1, hsx, hsc, e69, hb, nI_leT (Nat.not_lt.mp hl) (show nuX w S kd td mo tl tk (updN kt s j) < 2 ^ 31 by omega), if_true, nI_add]
theorem S202l (h : EM w S kd td mo kt tl tk) {s : Nat} (hs : s < S) (lay v : Int32) : ∀ n j, j + n = 20 → ∀ w1, Ch (orc (sm [58, 59]) 46) w w1 → (∀ q, q ≠ s → x_i w1 46 q = x_i w 46 q) → ∀ u7 u8 : Value, x_isL u7 = false → x_isL u8 = false → ∃ w2 u u', Ch (orc (sm [58, 59]) 46) w w2 ∧ (∀ q, q ≠ s → x_i w2 46 q = x_i w 46 q) ∧ ∀ Q, X_R L xs (d + 12) 202 39 [.ref 41, .int (nI s), .int v, .int lay, .int (plS (fun k => nuM w S kd td mo tl tk (updN kt s k)) j).1, .int (nI (plS (fun k => nuM w S kd td mo tl tk (updN kt s k)) j).2), .int (nI j), u7, u8] [] w1 Q = X_R L xs (d + 12) 202 114 [.ref 41, .int (nI s), .int v, .int lay, .int (plS (fun k => nuM w S kd td mo tl tk (updN kt s k)) 20).1, .int (nI (plS (fun k => nuM w S kd td mo tl tk (updN kt s k)) 20).2), .int (nI 20), u, u'] [] w2 Q := by
  have h6 := h.1.S6
  have hsx := x_ix_nI (show s < 6 by omega) (show 6 < 2 ^ 31 by decide)
  have hsc := nI_cl (show s < 2 ^ 31 by omega)
  intro n
  induction n with
  | zero =>
    intro j hj w1 c1 h30 u7 u8 h7 h8
    obtain rfl : j = 20 := by omega
    refine ⟨w1, u7, u8, c1, h30, fun Q => ?_⟩
    rw [X202_39]
    simp only [X202_41, X202_43, Nat.zero_le, and_true, true_and, x_nb0, x_nb1, x_nbp, x_isL_int, x_isL_ref, x_isL_junk, x_isR_ref, x_cat_nil, x_cat_int, x_cat_ref, x_cat_long, Option.toList_some, Option.toList_none, List.cons_append, List.nil_append, Nat.reduceAdd, Nat.reduceLeDiff, Nat.reduceLT, t_tag_si, t_tag_sr, t_tag_sI, x_r_si, x_i_sr, t_r_sI, x_ia_si, x_ia_sI, x_ia_sr, x_ra_si, x_ra_sI, x_ra_sr, nI_leT (Nat.le_refl 20) (show 20 < 2 ^ 31 by decide), if_true]
  | succ n ih =>
    intro j hj w1 c1 h30 u7 u8 h7 h8
    have hX2 := lieM h c1 (show s < 6 by omega) h30 (show j < 20 by omega)
    obtain ⟨w3, c3, e69⟩ := S199 (L := L) (xs := xs) (d := d + 5) hX2
    have c13 : Ch (orc (sm [58, 59]) 46) w w3 := (c1.trans Ch_orc).trans c3.orc
    have h303 : ∀ q, q ≠ s → x_i w3 46 q = x_i w 46 q := fun q hq => by
      rw [c3.i (fun _ => rfl : ∀ k, sm [58, 59] 46 k = false), x_i_si, upd_o hq]
      exact h30 q hq
    have eC : farM (x_si w1 46 s (nI j)) (updN kt s j) = farM w (updN kt s j) := by
      funext p q
      unfold farM
      rw [x_i_sin _ _ _ _ (by decide), orc_C2 (orc_ma c1 rfl)]
    rw [eC] at e69
    have enu : unN (wkB kd td mo (updN kt s j) tl tk (farM w (updN kt s j))) S S = nuM w S kd td mo tl tk (updN kt s j) := rfl
    rw [enu] at e69
    have hle := nuM_le (S := S) (kd := kd) (td := td) (mo := mo) (tl := tl) (tk := tk) h6 w (updN kt s j)
    have hpl := plS_le (f := fun k => nuM w S kd td mo tl tk (updN kt s k)) (M := 36) (fun k => nuM_le h6 w (updN kt s k)) j
    have hs1 := c1.sh h.sh
    by_cases hb : (plS (fun k => nuM w S kd td mo tl tk (updN kt s k)) j).1 = -1 ∨ nuM w S kd td mo tl tk (updN kt s j) < (plS (fun k => nuM w S kd td mo tl tk (updN kt s k)) j).2
    · obtain ⟨w4, u4, u5, c4, h304, e4⟩ := ih (j + 1) (by omega) w3 c13 h303 (.int (nI (nuM w S kd td mo tl tk (updN kt s j)))) (.int (nI 1)) rfl rfl
      refine ⟨w4, u4, u5, c4, h304, fun Q => ?_⟩
      rw [← e4 Q, X202_39, plS_t hb]
      by_cases hb1 : (plS (fun k => nuM w S kd td mo tl tk (updN kt s k)) j).1 = -1
      · simp only [X202_0, X202_1, X202_2, X202_5, X202_8, X202_10, X202_11, X202_12, X202_13, X202_14, X202_17, X202_20, X202_22, X202_23, X202_24, X202_27, X202_28, X202_29, X202_30, X202_31, X202_33, X202_34, X202_36, X202_37, X202_41, X202_43, X202_46, X202_47, X202_50, X202_51, X202_53, X202_54, X202_55, X202_58, X202_60, X202_62, X202_63, X202_66, X202_68, X202_70, X202_73, X202_74, X202_77, X202_78, X202_80, X202_82, X202_85, X202_87, X202_90, X202_92, X202_94, X202_96, X202_99, X202_101, X202_104, X202_106, X202_108, X202_111, X202_114, X202_115, X202_118, X202_119, X202_120, X202_121, X202_122, X202_125, X202_127, X202_130, X202_132, Nat.zero_le, and_true, true_and, x_nb0, x_nb1, x_nbp, x_isL_int, x_isL_ref, x_isL_junk, x_isR_ref, x_cat_nil, x_cat_int, x_cat_ref, x_cat_long, Option.toList_some, Option.toList_none, List.cons_append, List.nil_append, Nat.reduceAdd, Nat.reduceLeDiff, Nat.reduceLT, t_tag_si, t_tag_sr, t_tag_sI, x_r_si, x_i_sr, t_r_sI, x_ia_si, x_ia_sI, x_ia_sr, x_ra_si, x_ra_sI, x_ra_sr, h7, h8, nI_leF (show j < 20 by omega) (show 20 < 2 ^ 31 by decide), if_false, g_t41 hs1, g_r41_6 hs1, g_a46 hs1, hsx, hsc, e69, hb1, if_true, n10, nI_add]
      · have hl := hb.resolve_left hb1
        simp only [X202_0, X202_1, X202_2, X202_5, X202_8, X202_10, X202_11, X202_12, X202_13, X202_14, X202_17, X202_20, X202_22, X202_23, X202_24, X202_27, X202_28, X202_29, X202_30, X202_31, X202_33, X202_34, X202_36, X202_37, X202_41, X202_43, X202_46, X202_47, X202_50, X202_51, X202_53, X202_54, X202_55, X202_58, X202_60, X202_62, X202_63, X202_66, X202_68, X202_70, X202_73, X202_74, X202_77, X202_78, X202_80, X202_82, X202_85, X202_87, X202_90, X202_92, X202_94, X202_96, X202_99, X202_101, X202_104, X202_106, X202_108, X202_111, X202_114, X202_115, X202_118, X202_119, X202_120, X202_121, X202_122, X202_125, X202_127, X202_130, X202_132, Nat.zero_le, and_true, true_and, x_nb0, x_nb1, x_nbp, x_isL_int, x_isL_ref, x_isL_junk, x_isR_ref, x_cat_nil, x_cat_int, x_cat_ref, x_cat_long, Option.toList_some, Option.toList_none, List.cons_append, List.nil_append, Nat.reduceAdd, Nat.reduceLeDiff, Nat.reduceLT, t_tag_si, t_tag_sr, t_tag_sI, x_r_si, x_i_sr, t_r_sI, x_ia_si, x_ia_sI, x_ia_sr, x_ra_si, x_ra_sI, x_ra_sr, h7, h8, nI_leF (show j < 20 by omega) (show 20 < 2 ^ 31 by decide), if_false, g_t41 hs1, g_r41_6 hs1, g_a46 hs1, hsx, hsc, e69, hb1, nI_leF hl (show (plS (fun k => nuM w S kd td mo tl tk (updN kt s k)) j).2 < 2 ^ 31 by omega), n10, nI_add]
    · obtain ⟨w4, u4, u5, c4, h304, e4⟩ := ih (j + 1) (by omega) w3 c13 h303 (.int (nI (nuM w S kd td mo tl tk (updN kt s j)))) (.int (nI 0)) rfl rfl
      refine ⟨w4, u4, u5, c4, h304, fun Q => ?_⟩
      rw [← e4 Q, X202_39, plS_f hb]
      rw [not_or] at hb
      simp only [X202_0, X202_1, X202_2, X202_5, X202_8, X202_10, X202_11, X202_12, X202_13, X202_14, X202_17, X202_20, X202_22, X202_23, X202_24, X202_27, X202_28, X202_29, X202_30, X202_31, X202_33, X202_34, X202_36, X202_37, X202_41, X202_43, X202_46, X202_47, X202_50, X202_51, X202_53, X202_54, X202_55, X202_58, X202_60, X202_62, X202_63, X202_66, X202_68, X202_70, X202_73, X202_74, X202_77, X202_78, X202_80, X202_82, X202_85, X202_87, X202_90, X202_92, X202_94, X202_96, X202_99, X202_101, X202_104, X202_106, X202_108, X202_111, X202_114, X202_115, X202_118, X202_119, X202_120, X202_121, X202_122, X202_125, X202_127, X202_130, X202_132, Nat.zero_le, and_true, true_and, x_nb0, x_nb1, x_nbp, x_isL_int, x_isL_ref, x_isL_junk, x_isR_ref, x_cat_nil, x_cat_int, x_cat_ref, x_cat_long, Option.toList_some, Option.toList_none, List.cons_append, List.nil_append, Nat.reduceAdd, Nat.reduceLeDiff, Nat.reduceLT, t_tag_si, t_tag_sr, t_tag_sI, x_r_si, x_i_sr, t_r_sI, x_ia_si, x_ia_sI, x_ia_sr, x_ra_si, x_ra_sI, x_ra_sr, h7, h8, nI_leF (show j < 20 by omega) (show 20 < 2 ^ 31 by decide), if_false, g_t41 hs1, g_r41_6 hs1, g_a46 hs1, hsx, hsc, e69, hb.1, nI_leT (Nat.not_lt.mp hb.2) (show nuM w S kd td mo tl tk (updN kt s j) < 2 ^ 31 by omega), if_true, nI_add]
/-- as restless on both sides, however they lie -/
theorem AG.nu (h : AG w S kd td mo kt tl tk) {kt' : Nat → Nat} (hk : ∀ q, q < 6 → kt' q < 20) : nuX w S kd td mo tl tk kt' = nuM w S kd td mo tl tk kt' := by
  have h6 := h.1.1.S6
  have hf : ∀ s b, s < 6 → b < 6 → farX w kt' s b = farM w kt' s b := by
    intro s b hs hb
    unfold farX farM
    rw [← far_eq h.2.2.1]
    exact farF_sym h.2.2.2.2 (hk s hs) (hk b hb) 20 0
  refine unN_cg S (fun s b hs hb => ?_)
  unfold wkB
  rw [hf s b (by omega) (by omega)]
theorem kt_upd (h : AG w S kd td mo kt tl tk) {s k : Nat} (hk : k < 20) : ∀ q, q < 6 → updN kt s k q < 20 := by
  intro q hq
  unfold updN
  split
  · exact hk
  · exact (h.1.1.bd q hq).2.2.2
theorem AQ_place (h : AG w S kd td mo kt tl tk) (u v : Int32) : AQ L xs (d + 12) 27 202 [.ref 0, .int u, .int v, x_junk, x_junk, x_junk, x_junk, x_junk] [.ref 41, .int u, .int v, x_junk, x_junk, x_junk, x_junk, x_junk, x_junk] w := by
  have hs := h.1.sh
  have h55 := fun (v : Int32) (Q' : Option Value → x_W → Prop) => S55 (L := L) (xs := xs) (d := d + 11) (v := v) (Q := Q') h.1.1
  have h6 := h.1.1.S6
  have h01 : bI (nI 0 ≤ v ∧ v ≤ nI 1) = bI (v = nI 0 ∨ v = nI 1) := bI_c (by rw [in01])
  by_cases h1 : slp S u
  · by_cases h2 : v = nI 0 ∨ v = nI 1
    · obtain ⟨s, hS, rfl⟩ := slp_of h6 h1
      have hsx := x_ix_nI (show s < 6 by omega) (show 6 < 2 ^ 31 by decide)
      have hsc := nI_cl (show s < 2 ^ 31 by omega)
      obtain ⟨w1, u1, c1, hF1, h30, e1⟩ := S27l (L := L) (xs := xs) (d := d) h.1 hS (x_i w 30 s) v 20 0 rfl w Ch.refl h.1.2.2 (fun _ _ => rfl) x_junk rfl
      have hs1 := c1.sh hs
      have c1' : Ch (sc [28, 34]) w (x_si w1 30 s (x_i w 30 s)) := (c1.trans Ch_orc).cell (by
        rw [x_i_si]
        funext q
        by_cases hq : q = s
        · subst hq; rw [upd_s]
        · rw [upd_o hq]; exact h30 q hq)
      have hF1' : FarOk (x_si w1 30 s (x_i w 30 s)) := hF1.of (by rw [x_i_sin _ _ _ _ (by decide)]) (by rw [x_i_sin _ _ _ _ (by decide)]) (by rw [x_i_sin _ _ _ _ (by decide)])
      generalize hw1' : x_si w1 30 s (x_i w 30 s) = w1' at c1' hF1'
      have hM1 := h.2.1.ch (c1'.a rfl)
      obtain ⟨w2, u2, u2', c2, h46, e2⟩ := S202l (L := L) (xs := xs) (d := d) hM1 hS (x_i w1' 46 s) v 20 0 rfl w1' Ch.refl (fun _ _ => rfl) x_junk x_junk rfl rfl
      have c2' : Ch (sm [58, 59]) w1' (x_si w2 46 s (x_i w1' 46 s)) := (c2.trans Ch_orc).cell (by
        rw [x_i_si]
        funext q
        by_cases hq : q = s
        · subst hq; rw [upd_s]
        · rw [upd_o hq]; exact h46 q hq)
      have h169' := fun (v : Int32) (Q' : Option Value → x_W → Prop) => S169 (L := L) (xs := xs) (d := d + 10) (v := v) (Q := Q') hM1.1
      have e2' : (fun k => nuM w1' S kd td mo tl tk (updN kt s k)) = (fun k => nuM w S kd td mo tl tk (updN kt s k)) := by
        funext k
        unfold nuM
        rw [farM_ch (c1'.a rfl)]
      rw [e2', ← plS_cg 20 (fun k hk => h.nu (kt_upd h hk))] at e2
      have hs2 := c2.sh (c1'.sh hs)
      refine ⟨.int (if v = nI 0 then (plS (fun k => nuX w S kd td mo tl tk (updN kt s k)) 20).1 else nI (plS (fun k => nuX w S kd td mo tl tk (updN kt s k)) 20).2), w1', x_si w2 46 s (x_i w1' 46 s), (c1'.a rfl).trans (c2'.ma rfl), hF1'.m c2' rfl rfl rfl, fun Q => ?_, fun Q => ?_⟩
      · have e0 : X_R L xs (d + 12) 27 0 [.ref 0, .int (nI s), .int v, x_junk, x_junk, x_junk, x_junk, x_junk] [] w Q = X_R L xs (d + 12) 27 43 [.ref 0, .int (nI s), .int v, .int (x_i w 30 s), .int (-1), .int (nI 0), .int (nI 0), x_junk] [] w Q := by
          simp only [X27_0, X27_1, X27_4, X27_5, X27_8, X27_14, X27_15, X27_18, X27_24, X27_25, X27_28, X27_31, X27_32, X27_33, X27_34, X27_35, X27_37, X27_38, X27_40, X27_41, Nat.zero_le, and_true, true_and, x_nb0, x_nb1, x_nbp, x_isL_int, x_isL_ref, x_isL_junk, x_isR_ref, x_cat_nil, x_cat_int, x_cat_ref, x_cat_long, Option.toList_some, Option.toList_none, List.cons_append, List.nil_append, Nat.reduceAdd, Nat.reduceLeDiff, Nat.reduceLT, t_tag_si, t_tag_sr, t_tag_sI, x_r_si, x_i_sr, t_r_sI, x_ia_si, x_ia_sI, x_ia_sr, x_ra_si, x_ra_sI, x_ra_sr, g_t0 hs, g_r0_4 hs, g_t22 hs, g_r22_3 hs, g_a30 hs, h55, bI_t h1, n10, S4, bI_t h2, if_false, hsx, hsc]
        rw [e0]
        refine (e1 Q).trans ?_
        generalize plS (fun k => nuX w S kd td mo tl tk (updN kt s k)) 20 = R
        by_cases hv : v = nI 0
        · simp only [X27_97, X27_98, X27_101, X27_104, X27_105, X27_106, X27_107, X27_108, X27_111, X27_113, X27_118, Nat.zero_le, and_true, true_and, x_nb0, x_nb1, x_nbp, x_isL_int, x_isL_ref, x_isL_junk, x_isR_ref, x_cat_nil, x_cat_int, x_cat_ref, x_cat_long, Option.toList_some, Option.toList_none, List.cons_append, List.nil_append, Nat.reduceAdd, Nat.reduceLeDiff, Nat.reduceLT, t_tag_si, t_tag_sr, t_tag_sI, x_r_si, x_i_sr, t_r_sI, x_ia_si, x_ia_sI, x_ia_sr, x_ra_si, x_ra_sI, x_ra_sr, g_t0 hs1, g_r0_4 hs1, g_t22 hs1, g_r22_3 hs1, g_a30 hs1, hsx, hsc, hw1', hv, if_true]
        · simp only [X27_97, X27_98, X27_101, X27_104, X27_105, X27_106, X27_107, X27_108, X27_116, X27_118, Nat.zero_le, and_true, true_and, x_nb0, x_nb1, x_nbp, x_isL_int, x_isL_ref, x_isL_junk, x_isR_ref, x_cat_nil, x_cat_int, x_cat_ref, x_cat_long, Option.toList_some, Option.toList_none, List.cons_append, List.nil_append, Nat.reduceAdd, Nat.reduceLeDiff, Nat.reduceLT, t_tag_si, t_tag_sr, t_tag_sI, x_r_si, x_i_sr, t_r_sI, x_ia_si, x_ia_sI, x_ia_sr, x_ra_si, x_ra_sI, x_ra_sr, g_t0 hs1, g_r0_4 hs1, g_t22 hs1, g_r22_3 hs1, g_a30 hs1, hsx, hsc, hw1', hv, if_false]
      · have hs1' := c1'.sh hs
        have e0 : X_R L xs (d + 12) 202 0 [.ref 41, .int (nI s), .int v, x_junk, x_junk, x_junk, x_junk, x_junk, x_junk] [] w1' Q = X_R L xs (d + 12) 202 39 [.ref 41, .int (nI s), .int v, .int (x_i w1' 46 s), .int (-1), .int (nI 0), .int (nI 0), x_junk, x_junk] [] w1' Q := by
          simp only [X202_0, X202_1, X202_2, X202_5, X202_11, X202_12, X202_13, X202_14, X202_17, X202_23, X202_24, X202_27, X202_28, X202_29, X202_30, X202_31, X202_33, X202_34, X202_36, X202_37, Nat.zero_le, and_true, true_and, x_nb0, x_nb1, x_nbp, x_isL_int, x_isL_ref, x_isL_junk, x_isR_ref, x_cat_nil, x_cat_int, x_cat_ref, x_cat_long, Option.toList_some, Option.toList_none, List.cons_append, List.nil_append, Nat.reduceAdd, Nat.reduceLeDiff, Nat.reduceLT, t_tag_si, t_tag_sr, t_tag_sI, x_r_si, x_i_sr, t_r_sI, x_ia_si, x_ia_sI, x_ia_sr, x_ra_si, x_ra_sI, x_ra_sr, g_t41 hs1', g_r41_6 hs1', g_a46 hs1', h169', bI_t h1, n10, S138, h01, bI_t h2, if_false, hsx, hsc]
        rw [e0]
        refine (e2 Q).trans ?_
        generalize plS (fun k => nuX w S kd td mo tl tk (updN kt s k)) 20 = R
        by_cases hv : v = nI 0
        · simp only [X202_114, X202_115, X202_118, X202_119, X202_120, X202_121, X202_122, X202_125, X202_127, X202_132, Nat.zero_le, and_true, true_and, x_nb0, x_nb1, x_nbp, x_isL_int, x_isL_ref, x_isL_junk, x_isR_ref, x_cat_nil, x_cat_int, x_cat_ref, x_cat_long, Option.toList_some, Option.toList_none, List.cons_append, List.nil_append, Nat.reduceAdd, Nat.reduceLeDiff, Nat.reduceLT, t_tag_si, t_tag_sr, t_tag_sI, x_r_si, x_i_sr, t_r_sI, x_ia_si, x_ia_sI, x_ia_sr, x_ra_si, x_ra_sI, x_ra_sr, g_t41 hs2, g_r41_6 hs2, g_a46 hs2, hsx, hsc, hv, if_true]
        · simp only [X202_114, X202_115, X202_118, X202_119, X202_120, X202_121, X202_122, X202_130, X202_132, Nat.zero_le, and_true, true_and, x_nb0, x_nb1, x_nbp, x_isL_int, x_isL_ref, x_isL_junk, x_isR_ref, x_cat_nil, x_cat_int, x_cat_ref, x_cat_long, Option.toList_some, Option.toList_none, List.cons_append, List.nil_append, Nat.reduceAdd, Nat.reduceLeDiff, Nat.reduceLT, t_tag_si, t_tag_sr, t_tag_sI, x_r_si, x_i_sr, t_r_sI, x_ia_si, x_ia_sI, x_ia_sr, x_ra_si, x_ra_sI, x_ra_sr, g_t41 hs2, g_r41_6 hs2, g_a46 hs2, hsx, hsc, hv, if_false]
    · have h169 := fun (v : Int32) (Q' : Option Value → x_W → Prop) => S169 (L := L) (xs := xs) (d := d + 10) (v := v) (Q := Q') h.2.1.1
      refine AQ_no (v := .int (-7)) h.1.2.2 (fun Q => ?_) (fun Q => ?_)
      · simp only [X27_0, X27_1, X27_4, X27_5, X27_8, X27_14, X27_15, X27_18, X27_21, X27_23, Nat.zero_le, and_true, true_and, x_nb0, x_nb1, x_nbp, x_isL_int, x_isL_ref, x_isL_junk, x_isR_ref, x_cat_nil, x_cat_int, x_cat_ref, x_cat_long, Option.toList_some, Option.toList_none, List.cons_append, List.nil_append, Nat.reduceAdd, Nat.reduceLeDiff, Nat.reduceLT, t_tag_si, t_tag_sr, t_tag_sI, x_r_si, x_i_sr, t_r_sI, x_ia_si, x_ia_sI, x_ia_sr, x_ra_si, x_ra_sI, x_ra_sr, g_t0 hs, g_r0_4 hs, g_t22 hs, h55, bI_t h1, n10, S4, bI_f h2, if_false, if_true]
      · simp only [X202_0, X202_1, X202_2, X202_5, X202_11, X202_12, X202_13, X202_14, X202_17, X202_20, X202_22, Nat.zero_le, and_true, true_and, x_nb0, x_nb1, x_nbp, x_isL_int, x_isL_ref, x_isL_junk, x_isR_ref, x_cat_nil, x_cat_int, x_cat_ref, x_cat_long, Option.toList_some, Option.toList_none, List.cons_append, List.nil_append, Nat.reduceAdd, Nat.reduceLeDiff, Nat.reduceLT, t_tag_si, t_tag_sr, t_tag_sI, x_r_si, x_i_sr, t_r_sI, x_ia_si, x_ia_sI, x_ia_sr, x_ra_si, x_ra_sI, x_ra_sr, g_t41 hs, h169, bI_t h1, n10, S138, h01, bI_f h2, if_false, if_true]
  · have h169 := fun (v : Int32) (Q' : Option Value → x_W → Prop) => S169 (L := L) (xs := xs) (d := d + 10) (v := v) (Q := Q') h.2.1.1
    refine AQ_no (v := .int (-5)) h.1.2.2 (fun Q => ?_) (fun Q => ?_)
    · simp only [X27_0, X27_1, X27_4, X27_5, X27_8, X27_11, X27_13, Nat.zero_le, and_true, true_and, x_nb0, x_nb1, x_nbp, x_isL_int, x_isL_ref, x_isL_junk, x_isR_ref, x_cat_nil, x_cat_int, x_cat_ref, x_cat_long, Option.toList_some, Option.toList_none, List.cons_append, List.nil_append, Nat.reduceAdd, Nat.reduceLeDiff, Nat.reduceLT, t_tag_si, t_tag_sr, t_tag_sI, x_r_si, x_i_sr, t_r_sI, x_ia_si, x_ia_sI, x_ia_sr, x_ra_si, x_ra_sI, x_ra_sr, g_t0 hs, g_r0_4 hs, g_t22 hs, h55, bI_f h1, if_true]
    · simp only [X202_0, X202_1, X202_2, X202_5, X202_8, X202_10, Nat.zero_le, and_true, true_and, x_nb0, x_nb1, x_nbp, x_isL_int, x_isL_ref, x_isL_junk, x_isR_ref, x_cat_nil, x_cat_int, x_cat_ref, x_cat_long, Option.toList_some, Option.toList_none, List.cons_append, List.nil_append, Nat.reduceAdd, Nat.reduceLeDiff, Nat.reduceLT, t_tag_si, t_tag_sr, t_tag_sI, x_r_si, x_i_sr, t_r_sI, x_ia_si, x_ia_sI, x_ia_sr, x_ra_si, x_ra_sI, x_ra_sr, g_t41 hs, h169, bI_f h1, if_true]
end S89
