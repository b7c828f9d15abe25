/-! ===== the calls sleeper, lie, told, asks, hang ===== -/
theorem gp_up {l m : List Nat} {ps qs : List (Nat × Nat)} {w w' : x_W} (h : Ch (gp l ps) w w') (hl : (l.all fun x => m.elem x) = true) (hp : (ps.all fun q => qs.elem q) = true) : Ch (gp m qs) w w' := h.mono fun b k hb => by
  unfold gp at *
  rw [Bool.or_eq_false_iff] at *
  constructor
  · cases hq : l.elem b with
    | false => rfl
    | true => exact absurd (elem_sub hl b hq) (by rw [hb.1]; decide)
  · cases hq : ps.any (fun q => b == q.1 && k == q.2) with
    | false => rfl
    | true =>
      obtain ⟨q, q1, q2⟩ := List.any_eq_true.mp hq
      have h1 := List.elem_iff.mp (List.all_eq_true.mp hp q q1)
      have h2 : qs.any (fun q => b == q.1 && k == q.2) = true := List.any_eq_true.mpr ⟨q, h1, q2⟩
      rw [hb.2] at h2
      exact Bool.noConfusion h2
def pS : Nat → Nat → Bool := gp [30, 35, 36, 37, 38, 39, 40, 43, 44, 45, 46] [(22, 4), (41, 2)]
theorem KO_S : KO pS := ⟨four ⟨fun _ => ⟨rfl, rfl⟩, fun _ => ⟨rfl, rfl⟩, fun _ => ⟨rfl, rfl⟩, fun _ => ⟨rfl, rfl⟩⟩, fun _ => ⟨rfl, rfl, rfl, rfl, rfl, rfl, rfl, rfl, rfl, rfl, rfl⟩, rfl, rfl, rfl, rfl, rfl, rfl⟩
theorem inS_le (k t n : Int32) (q : SlT) : q.1 ≤ (inS k t n q).1 := by
  unfold inS
  split
  · exact Nat.le_succ _
  · exact Nat.le_refl _
section S997
variable {L : Nat} {xs : Nat → Int32} {d : Nat} {w w' : x_W} {S nt r : Nat} {kd td mo kt : Nat → Nat} {tls : Nat → Nat → Nat} {tks : Nat → Nat → Nat → Nat} {so : Nat → Int32} {sz : Nat → Nat}
/-- both sides' sleepers have changed: all stands -/
theorem J.slp (hJ : J w S kd td mo kt nt r tls tks so sz) {w2 : x_W} (c : Ch pS w w2) {q : SlT} (hX : CXs w2 q) (hM : CMs w2 q) (hS : S ≤ q.1) : J w2 q.1 q.2.1 q.2.2.1 q.2.2.2.1 q.2.2.2.2 nt r tls tks so sz := by
  obtain ⟨hG, hT, hTM, hR, hRM, hr⟩ := hJ.1
  have e24 : x_i w2 24 = x_i w 24 := c.i (fun _ => rfl)
  exact hJ.of c KO_S hS (AGT.mk' hX hM (hG.1.2.2.of (c.2.2 23 6 rfl) (c.i (fun _ => rfl)) e24) (hG.2.2.1.gen c (fun _ => ⟨rfl, rfl⟩) rfl rfl) (by rw [e24]; exact hG.2.2.2.1) (by rw [e24]; exact hG.2.2.2.2) (hT.gen c rfl (KL_gp rfl rfl)) (hTM.ch c rfl (fun _ => ⟨rfl, rfl⟩)) (hR.gen c rfl) (hRM.gen c rfl) hr)
theorem CXs.m (hX : CXs w (S, kd, td, mo, kt)) (c : Ch pSM w w') : CXs w' (S, kd, td, mo, kt) := CX.gen hX c rfl (fun _ => rfl) (six ⟨fun _ => rfl, fun _ => rfl, fun _ => rfl, fun _ => rfl, fun _ => rfl, fun _ => rfl⟩) (by rw [c.i (fun _ => rfl : ∀ k, pSM 24 k = false)]; exact CX.nb hX)
theorem CMs.x (hM : CMs w (S, kd, td, mo, kt)) (c : Ch pSX w w') : CMs w' (S, kd, td, mo, kt) := CM.gen hM c rfl (fun _ => ⟨rfl, rfl, rfl, rfl⟩)
theorem CA_sleeper (hJ : J w S kd td mo kt nt r tls tks so sz) (k t n : Int32) : CA L xs (d + 12) 15 167 [.ref 0, .int k, .int t, .int n] [.ref 41, .int k, .int t, .int n] w := by
  obtain ⟨w1, hX1, c1, e1⟩ := S15 (L := L) (xs := xs) (d := d + 5) hJ.ag.1.1 k t n
  have hM1 : CM w1 S kd td mo kt := CMs.x (S := S) (kd := kd) (td := td) (mo := mo) (kt := kt) hJ.ag.2.1.1 c1
  obtain ⟨w2, hM2, c2, e2⟩ := S167 (L := L) (xs := xs) (d := d + 5) hM1 k t n
  have hX2 : CXs w2 (inS k t n (S, kd, td, mo, kt)) := CXs.m (S := (inS k t n (S, kd, td, mo, kt)).1) (kd := (inS k t n (S, kd, td, mo, kt)).2.1) (td := (inS k t n (S, kd, td, mo, kt)).2.2.1) (mo := (inS k t n (S, kd, td, mo, kt)).2.2.2.1) (kt := (inS k t n (S, kd, td, mo, kt)).2.2.2.2) hX1 c2
  exact ⟨_, w1, w2, (hJ.slp ((gp_up c1 rfl rfl).trans (gp_up c2 rfl rfl)) hX2 hM2 (inS_le k t n (S, kd, td, mo, kt))).jj, e1, e2⟩
theorem AL_lie {tl : Nat → Nat} {tk : Nat → Nat → Nat} (h : AG w S kd td mo kt tl tk) (u v : Int32) : AL L xs (d + 12) 16 168 [.ref 0, .int u, .int v, x_junk] [.ref 41, .int u, .int v, x_junk] w := by
  have hs := h.1.sh
  have h6 := h.1.1.S6
  have h55 := fun (v : Int32) (Q' : Option Value → x_W → Prop) => S55 (L := L) (xs := xs) (d := d + 11) (v := v) (Q := Q') h.1.1
  by_cases h1 : slp S u
  · by_cases h2 : nI 0 ≤ v ∧ v ≤ nI 19
    · obtain ⟨s, hS, rfl⟩ := slp_of h6 h1
      obtain ⟨k, hk, rfl⟩ := kn_of h2
      have sx := x_ix_nI (show s < 6 by omega) (show 6 < 2 ^ 31 by decide)
      have sc' := nI_cl (show s < 2 ^ 31 by omega)
      have e2 : ∀ (w : x_W) (Q' : Option Value → x_W → Prop), X_R L xs (d + 11) 2 0 [.int (nI k)] [] w Q' = Q' (some (.int (nI 1))) w := fun w Q' => by rw [S2, bI_t h2]
      have e137 : ∀ (w : x_W) (Q' : Option Value → x_W → Prop), X_R L xs (d + 11) 137 0 [.int (nI k)] [] w Q' = Q' (some (.int (nI 1))) w := fun w Q' => by rw [S137 (d := d + 10), bI_t h2]
      have c1 : Ch (orc (sc []) 30) w (x_si w 30 s (nI k)) := Ch_orc
      have hM1 := EM_of30 h.2.1 c1 rfl
      have hs1 := c1.sh hs
      have h169 := fun (v : Int32) (Q' : Option Value → x_W → Prop) => S169 (L := L) (xs := xs) (d := d + 10) (v := v) (Q := Q') hM1.1
      have e46 : x_i (x_si w 30 s (nI k)) 46 = x_i w 46 := x_i_sin _ _ _ _ (by decide)
      have e30 : x_i (x_si w 30 s (nI k)) 30 = upd (x_i w 30) s (nI k) := x_i_si _ _ _ _
      have ekt := (h.1.1.X.1 s (by omega)).2.2.2
      have emt := (h.2.1.1.M s (by omega)).2.2.2.1
      have hF1 : FarOk (x_si w 30 s (nI k)) := h.1.2.2.of (by rw [x_i_sin _ _ _ _ (by decide)]) (by rw [x_i_sin _ _ _ _ (by decide)]) (by rw [x_i_sin _ _ _ _ (by decide)])
      generalize hw1 : x_si w 30 s (nI k) = w1 at *
      have c2 : Ch (orc (sm []) 46) w1 (x_si w1 46 s (nI k)) := Ch_orc
      refine ⟨.int (nI (kt s)), w1, x_si w1 46 s (nI k), updN kt s k, (chL_30 c1 rfl).trans (chL_46 c2 rfl), hF1.of (c2.2.2 23 6 rfl) (c2.i (fun _ => rfl)) (c2.i (fun _ => rfl)), fun q hq => ?_, fun Q => ?_, fun Q => ?_⟩
      · rw [x_i_sin _ _ _ _ (show 30 ≠ 46 by decide), x_i_si, e30, e46]
        by_cases hqs : q = s
        · subst hqs
          rw [upd_s, upd_s, updN_s]
          exact ⟨rfl, rfl, hk⟩
        · rw [upd_o hqs, upd_o hqs, updN_o hqs]
          exact ⟨(h.1.1.X.1 q hq).2.2.2, (h.2.1.1.M q hq).2.2.2.1, (h.1.1.bd q hq).2.2.2⟩
      · simp only [X16_0, X16_1, X16_4, X16_5, X16_8, X16_11, X16_13, X16_14, X16_15, X16_18, X16_21, X16_23, X16_24, X16_25, X16_28, X16_31, X16_32, X16_33, X16_34, X16_35, X16_38, X16_41, X16_42, X16_43, X16_44, X16_45, Nat.zero_le, and_true, true_and, x_nb0, x_nb1, x_nbp, x_isL_int, x_isL_ref, x_isL_junk, x_isR_ref, x_cat_nil, x_cat_int, x_cat_ref, x_cat_long, Option.toList_some, Option.toList_none, List.cons_append, List.nil_append, Nat.reduceAdd, Nat.reduceLeDiff, Nat.reduceLT, t_tag_si, t_tag_sr, t_tag_sI, x_r_si, x_i_sr, t_r_sI, x_ia_si, x_ia_sI, x_ia_sr, x_ra_si, x_ra_sI, x_ra_sr, g_t0 hs, g_r0_4 hs, g_t22 hs, h55, bI_t h1, n10, if_false, e2, g_r22_3 hs, g_a30 hs, sx, sc', ekt, hw1]
      · have emt1 : x_i w1 46 s = nI (kt s) := by rw [e46]; exact emt
        simp only [X168_0, X168_1, X168_2, X168_5, X168_8, X168_10, X168_11, X168_12, X168_15, X168_18, X168_20, X168_21, X168_22, X168_25, X168_26, X168_27, X168_28, X168_29, X168_32, X168_33, X168_34, X168_35, X168_36, Nat.zero_le, and_true, true_and, x_nb0, x_nb1, x_nbp, x_isL_int, x_isL_ref, x_isL_junk, x_isR_ref, x_cat_nil, x_cat_int, x_cat_ref, x_cat_long, Option.toList_some, Option.toList_none, List.cons_append, List.nil_append, Nat.reduceAdd, Nat.reduceLeDiff, Nat.reduceLT, t_tag_si, t_tag_sr, t_tag_sI, x_r_si, x_i_sr, t_r_sI, x_ia_si, x_ia_sI, x_ia_sr, x_ra_si, x_ra_sI, x_ra_sr, g_t41 hs1, h169, bI_t h1, n10, if_false, e137, g_r41_6 hs1, g_a46 hs1, sx, sc', emt1]
    · have h169 := fun (v : Int32) (Q' : Option Value → x_W → Prop) => S169 (L := L) (xs := xs) (d := d + 10) (v := v) (Q := Q') h.2.1.1
      refine AL_no (v := .int (-7)) h (fun Q => ?_) (fun Q => ?_)
      · simp only [X16_0, X16_1, X16_4, X16_5, X16_8, X16_14, X16_15, X16_18, X16_21, X16_23, Nat.zero_le, and_true, true_and, x_nb0, x_nb1, x_nbp, x_isL_int, x_isL_ref, x_isL_junk, x_isR_ref, x_cat_nil, x_cat_int, x_cat_ref, x_cat_long, Option.toList_some, Option.toList_none, List.cons_append, List.nil_append, Nat.reduceAdd, Nat.reduceLeDiff, Nat.reduceLT, t_tag_si, t_tag_sr, t_tag_sI, x_r_si, x_i_sr, t_r_sI, x_ia_si, x_ia_sI, x_ia_sr, x_ra_si, x_ra_sI, x_ra_sr, g_t0 hs, g_r0_4 hs, g_t22 hs, h55, bI_t h1, n10, if_false, S2, bI_f h2, if_true]
      · simp only [X168_0, X168_1, X168_2, X168_5, X168_11, X168_12, X168_15, X168_18, X168_20, Nat.zero_le, and_true, true_and, x_nb0, x_nb1, x_nbp, x_isL_int, x_isL_ref, x_isL_junk, x_isR_ref, x_cat_nil, x_cat_int, x_cat_ref, x_cat_long, Option.toList_some, Option.toList_none, List.cons_append, List.nil_append, Nat.reduceAdd, Nat.reduceLeDiff, Nat.reduceLT, t_tag_si, t_tag_sr, t_tag_sI, x_r_si, x_i_sr, t_r_sI, x_ia_si, x_ia_sI, x_ia_sr, x_ra_si, x_ra_sI, x_ra_sr, g_t41 hs, h169, bI_t h1, n10, if_false, S137, bI_f h2, if_true]
  · have h169 := fun (v : Int32) (Q' : Option Value → x_W → Prop) => S169 (L := L) (xs := xs) (d := d + 10) (v := v) (Q := Q') h.2.1.1
    refine AL_no (v := .int (-5)) h (fun Q => ?_) (fun Q => ?_)
    · simp only [X16_0, X16_1, X16_4, X16_5, X16_8, X16_11, X16_13, Nat.zero_le, and_true, true_and, x_nb0, x_nb1, x_nbp, x_isL_int, x_isL_ref, x_isL_junk, x_isR_ref, x_cat_nil, x_cat_int, x_cat_ref, x_cat_long, Option.toList_some, Option.toList_none, List.cons_append, List.nil_append, Nat.reduceAdd, Nat.reduceLeDiff, Nat.reduceLT, t_tag_si, t_tag_sr, t_tag_sI, x_r_si, x_i_sr, t_r_sI, x_ia_si, x_ia_sI, x_ia_sr, x_ra_si, x_ra_sI, x_ra_sr, g_t0 hs, g_r0_4 hs, g_t22 hs, h55, bI_f h1, if_true]
    · simp only [X168_0, X168_1, X168_2, X168_5, X168_8, X168_10, Nat.zero_le, and_true, true_and, x_nb0, x_nb1, x_nbp, x_isL_int, x_isL_ref, x_isL_junk, x_isR_ref, x_cat_nil, x_cat_int, x_cat_ref, x_cat_long, Option.toList_some, Option.toList_none, List.cons_append, List.nil_append, Nat.reduceAdd, Nat.reduceLeDiff, Nat.reduceLT, t_tag_si, t_tag_sr, t_tag_sI, x_r_si, x_i_sr, t_r_sI, x_ia_si, x_ia_sI, x_ia_sr, x_ra_si, x_ra_sI, x_ra_sr, g_t41 hs, h169, bI_f h1, if_true]
theorem AQ_told {tl : Nat → Nat} {tk : Nat → Nat → Nat} (h : AG w S kd td mo kt tl tk) (u v : Int32) : AQ L xs (d + 12) 17 170 [.ref 0, .int u, .int v, x_junk] [.ref 41, .int u, .int v] w := by
  have hs := h.1.sh
  have h6 := h.1.1.S6
  have h55 := fun (v : Int32) (Q' : Option Value → x_W → Prop) => S55 (L := L) (xs := xs) (d := d + 11) (v := v) (Q := Q') h.1.1
  have h169 := fun (v : Int32) (Q' : Option Value → x_W → Prop) => S169 (L := L) (xs := xs) (d := d + 10) (v := v) (Q := Q') h.2.1.1
  by_cases h1 : slp S u
  · obtain ⟨s, hS, rfl⟩ := slp_of h6 h1
    have sx := x_ix_nI (show s < 6 by omega) (show 6 < 2 ^ 31 by decide)
    have sc' := nI_cl (show s < 2 ^ 31 by omega)
    obtain ⟨⟨as, ts⟩, ⟨ks, tds, ms, ls⟩, ⟨ws, qs⟩, ⟨ks5, ts30, ms9, ls20⟩⟩ := h.1.slp hS
    obtain ⟨⟨k2, _⟩, ⟨t2, _⟩, ⟨m2, _⟩, ⟨l2, _⟩⟩ := h.2.1.1.M s (by omega)
    have e171 := fun (Q' : Option Value → x_W → Prop) => S171 (L := L) (xs := xs) (d := d + 11) (w := w) (Q := Q') hs (show s < 6 by omega) k2 t2 m2 ks5 ts30 ms9
    have e172 := fun (Q' : Option Value → x_W → Prop) => S172 (L := L) (xs := xs) (d := d + 10) (w := w) (Q := Q') hs (show s < 6 by omega) k2 m2 ks5 ms9
    by_cases h2 : nI 0 ≤ v ∧ v ≤ nI 5
    · obtain ⟨j, hj, rfl⟩ := in_of (n := 5) rfl h2
      refine AQ_no (v := .int ([nI (kt s), nI (kd s), nI (td s), nI (mo s), nI (wgF kd td mo s), nI (waN (kd s) (mo s))].getD j (nI 0))) h.1.2.2 (fun Q => ?_) (fun Q => ?_)
      · rcases (by omega : j = 0 ∨ j = 1 ∨ j = 2 ∨ j = 3 ∨ j = 4 ∨ j = 5) with rfl | rfl | rfl | rfl | rfl | rfl
        · simp only [X17_0, X17_1, X17_4, X17_5, X17_8, X17_11, X17_13, X17_14, X17_15, X17_18, X17_21, X17_22, X17_23, X17_24, X17_25_0, X17_25_1, X17_25_2, X17_25_3, X17_25_4, X17_25_5, X17_25_d, X17_64, X17_65, X17_68, X17_71, X17_72, X17_73, X17_74, X17_75, X17_78, X17_79, X17_80, X17_83, X17_84, X17_85, X17_88, X17_89, X17_90, X17_93, X17_94, X17_95, X17_98, X17_99, X17_101, Nat.zero_le, and_true, true_and, x_nb0, x_nb1, x_nbp, x_isL_int, x_isL_ref, x_isL_junk, x_isR_ref, x_cat_nil, x_cat_int, x_cat_ref, x_cat_long, Option.toList_some, Option.toList_none, List.cons_append, List.nil_append, Nat.reduceAdd, Nat.reduceLeDiff, Nat.reduceLT, t_tag_si, t_tag_sr, t_tag_sI, x_r_si, x_i_sr, t_r_sI, x_ia_si, x_ia_sI, x_ia_sr, x_ra_si, x_ra_sI, x_ra_sr, g_t0 hs, g_r0_4 hs, g_t22 hs, h55, bI_t h1, n10, if_false, g_r22_2 hs, g_a29 hs, sx, sc', as, ts, g_r22_3 hs, g_a30 hs, ls]
          rfl
        · simp only [X17_0, X17_1, X17_4, X17_5, X17_8, X17_11, X17_13, X17_14, X17_15, X17_18, X17_21, X17_22, X17_23, X17_24, X17_25_0, X17_25_1, X17_25_2, X17_25_3, X17_25_4, X17_25_5, X17_25_d, X17_64, X17_65, X17_68, X17_71, X17_72, X17_73, X17_74, X17_75, X17_78, X17_79, X17_80, X17_83, X17_84, X17_85, X17_88, X17_89, X17_90, X17_93, X17_94, X17_95, X17_98, X17_99, X17_101, Nat.zero_le, and_true, true_and, x_nb0, x_nb1, x_nbp, x_isL_int, x_isL_ref, x_isL_junk, x_isR_ref, x_cat_nil, x_cat_int, x_cat_ref, x_cat_long, Option.toList_some, Option.toList_none, List.cons_append, List.nil_append, Nat.reduceAdd, Nat.reduceLeDiff, Nat.reduceLT, t_tag_si, t_tag_sr, t_tag_sI, x_r_si, x_i_sr, t_r_sI, x_ia_si, x_ia_sI, x_ia_sr, x_ra_si, x_ra_sI, x_ra_sr, g_t0 hs, g_r0_4 hs, g_t22 hs, h55, bI_t h1, n10, if_false, g_r22_2 hs, g_a29 hs, sx, sc', as, ts, ks]
          rfl
        · simp only [X17_0, X17_1, X17_4, X17_5, X17_8, X17_11, X17_13, X17_14, X17_15, X17_18, X17_21, X17_22, X17_23, X17_24, X17_25_0, X17_25_1, X17_25_2, X17_25_3, X17_25_4, X17_25_5, X17_25_d, X17_64, X17_65, X17_68, X17_71, X17_72, X17_73, X17_74, X17_75, X17_78, X17_79, X17_80, X17_83, X17_84, X17_85, X17_88, X17_89, X17_90, X17_93, X17_94, X17_95, X17_98, X17_99, X17_101, Nat.zero_le, and_true, true_and, x_nb0, x_nb1, x_nbp, x_isL_int, x_isL_ref, x_isL_junk, x_isR_ref, x_cat_nil, x_cat_int, x_cat_ref, x_cat_long, Option.toList_some, Option.toList_none, List.cons_append, List.nil_append, Nat.reduceAdd, Nat.reduceLeDiff, Nat.reduceLT, t_tag_si, t_tag_sr, t_tag_sI, x_r_si, x_i_sr, t_r_sI, x_ia_si, x_ia_sI, x_ia_sr, x_ra_si, x_ra_sI, x_ra_sr, g_t0 hs, g_r0_4 hs, g_t22 hs, h55, bI_t h1, n10, if_false, g_r22_2 hs, g_a29 hs, sx, sc', as, ts, tds]
          rfl
        · simp only [X17_0, X17_1, X17_4, X17_5, X17_8, X17_11, X17_13, X17_14, X17_15, X17_18, X17_21, X17_22, X17_23, X17_24, X17_25_0, X17_25_1, X17_25_2, X17_25_3, X17_25_4, X17_25_5, X17_25_d, X17_64, X17_65, X17_68, X17_71, X17_72, X17_73, X17_74, X17_75, X17_78, X17_79, X17_80, X17_83, X17_84, X17_85, X17_88, X17_89, X17_90, X17_93, X17_94, X17_95, X17_98, X17_99, X17_101, Nat.zero_le, and_true, true_and, x_nb0, x_nb1, x_nbp, x_isL_int, x_isL_ref, x_isL_junk, x_isR_ref, x_cat_nil, x_cat_int, x_cat_ref, x_cat_long, Option.toList_some, Option.toList_none, List.cons_append, List.nil_append, Nat.reduceAdd, Nat.reduceLeDiff, Nat.reduceLT, t_tag_si, t_tag_sr, t_tag_sI, x_r_si, x_i_sr, t_r_sI, x_ia_si, x_ia_sI, x_ia_sr, x_ra_si, x_ra_sI, x_ra_sr, g_t0 hs, g_r0_4 hs, g_t22 hs, h55, bI_t h1, n10, if_false, g_r22_2 hs, g_a29 hs, sx, sc', as, ts, ms]
          rfl
        · simp only [X17_0, X17_1, X17_4, X17_5, X17_8, X17_11, X17_13, X17_14, X17_15, X17_18, X17_21, X17_22, X17_23, X17_24, X17_25_0, X17_25_1, X17_25_2, X17_25_3, X17_25_4, X17_25_5, X17_25_d, X17_64, X17_65, X17_68, X17_71, X17_72, X17_73, X17_74, X17_75, X17_78, X17_79, X17_80, X17_83, X17_84, X17_85, X17_88, X17_89, X17_90, X17_93, X17_94, X17_95, X17_98, X17_99, X17_101, Nat.zero_le, and_true, true_and, x_nb0, x_nb1, x_nbp, x_isL_int, x_isL_ref, x_isL_junk, x_isR_ref, x_cat_nil, x_cat_int, x_cat_ref, x_cat_long, Option.toList_some, Option.toList_none, List.cons_append, List.nil_append, Nat.reduceAdd, Nat.reduceLeDiff, Nat.reduceLT, t_tag_si, t_tag_sr, t_tag_sI, x_r_si, x_i_sr, t_r_sI, x_ia_si, x_ia_sI, x_ia_sr, x_ra_si, x_ra_sI, x_ra_sr, g_t0 hs, g_r0_4 hs, g_t22 hs, h55, bI_t h1, n10, if_false, g_r22_2 hs, g_a29 hs, sx, sc', as, ts, ws]
          rfl
        · simp only [X17_0, X17_1, X17_4, X17_5, X17_8, X17_11, X17_13, X17_14, X17_15, X17_18, X17_21, X17_22, X17_23, X17_24, X17_25_0, X17_25_1, X17_25_2, X17_25_3, X17_25_4, X17_25_5, X17_25_d, X17_64, X17_65, X17_68, X17_71, X17_72, X17_73, X17_74, X17_75, X17_78, X17_79, X17_80, X17_83, X17_84, X17_85, X17_88, X17_89, X17_90, X17_93, X17_94, X17_95, X17_98, X17_99, X17_101, Nat.zero_le, and_true, true_and, x_nb0, x_nb1, x_nbp, x_isL_int, x_isL_ref, x_isL_junk, x_isR_ref, x_cat_nil, x_cat_int, x_cat_ref, x_cat_long, Option.toList_some, Option.toList_none, List.cons_append, List.nil_append, Nat.reduceAdd, Nat.reduceLeDiff, Nat.reduceLT, t_tag_si, t_tag_sr, t_tag_sI, x_r_si, x_i_sr, t_r_sI, x_ia_si, x_ia_sI, x_ia_sr, x_ra_si, x_ra_sI, x_ra_sr, g_t0 hs, g_r0_4 hs, g_t22 hs, h55, bI_t h1, n10, if_false, g_r22_2 hs, g_a29 hs, sx, sc', as, ts, qs]
          rfl
      · rcases (by omega : j = 0 ∨ j = 1 ∨ j = 2 ∨ j = 3 ∨ j = 4 ∨ j = 5) with rfl | rfl | rfl | rfl | rfl | rfl
        · simp only [X170_0, X170_1, X170_2, X170_5, X170_8, X170_10, X170_11, X170_12_0, X170_12_1, X170_12_2, X170_12_3, X170_12_4, X170_12_5, X170_12_d, X170_52, X170_53, X170_56, X170_57, X170_58, X170_59, X170_60, X170_63, X170_64, X170_65, X170_66, X170_67, X170_70, X170_71, X170_72, X170_73, X170_74, X170_77, X170_78, X170_79, X170_80, X170_81, X170_82, X170_85, X170_86, X170_87, X170_88, X170_91, X170_92, X170_94, Nat.zero_le, and_true, true_and, x_nb0, x_nb1, x_nbp, x_isL_int, x_isL_ref, x_isL_junk, x_isR_ref, x_cat_nil, x_cat_int, x_cat_ref, x_cat_long, Option.toList_some, Option.toList_none, List.cons_append, List.nil_append, Nat.reduceAdd, Nat.reduceLeDiff, Nat.reduceLT, t_tag_si, t_tag_sr, t_tag_sI, x_r_si, x_i_sr, t_r_sI, x_ia_si, x_ia_sI, x_ia_sr, x_ra_si, x_ra_sI, x_ra_sr, g_t41 hs, h169, bI_t h1, n10, if_false, g_r41_6 hs, g_a46 hs, sx, sc', l2]
          rfl
        · simp only [X170_0, X170_1, X170_2, X170_5, X170_8, X170_10, X170_11, X170_12_0, X170_12_1, X170_12_2, X170_12_3, X170_12_4, X170_12_5, X170_12_d, X170_52, X170_53, X170_56, X170_57, X170_58, X170_59, X170_60, X170_63, X170_64, X170_65, X170_66, X170_67, X170_70, X170_71, X170_72, X170_73, X170_74, X170_77, X170_78, X170_79, X170_80, X170_81, X170_82, X170_85, X170_86, X170_87, X170_88, X170_91, X170_92, X170_94, Nat.zero_le, and_true, true_and, x_nb0, x_nb1, x_nbp, x_isL_int, x_isL_ref, x_isL_junk, x_isR_ref, x_cat_nil, x_cat_int, x_cat_ref, x_cat_long, Option.toList_some, Option.toList_none, List.cons_append, List.nil_append, Nat.reduceAdd, Nat.reduceLeDiff, Nat.reduceLT, t_tag_si, t_tag_sr, t_tag_sI, x_r_si, x_i_sr, t_r_sI, x_ia_si, x_ia_sI, x_ia_sr, x_ra_si, x_ra_sI, x_ra_sr, g_t41 hs, h169, bI_t h1, n10, if_false, g_r41_3 hs, g_a43 hs, sx, sc', k2]
          rfl
        · simp only [X170_0, X170_1, X170_2, X170_5, X170_8, X170_10, X170_11, X170_12_0, X170_12_1, X170_12_2, X170_12_3, X170_12_4, X170_12_5, X170_12_d, X170_52, X170_53, X170_56, X170_57, X170_58, X170_59, X170_60, X170_63, X170_64, X170_65, X170_66, X170_67, X170_70, X170_71, X170_72, X170_73, X170_74, X170_77, X170_78, X170_79, X170_80, X170_81, X170_82, X170_85, X170_86, X170_87, X170_88, X170_91, X170_92, X170_94, Nat.zero_le, and_true, true_and, x_nb0, x_nb1, x_nbp, x_isL_int, x_isL_ref, x_isL_junk, x_isR_ref, x_cat_nil, x_cat_int, x_cat_ref, x_cat_long, Option.toList_some, Option.toList_none, List.cons_append, List.nil_append, Nat.reduceAdd, Nat.reduceLeDiff, Nat.reduceLT, t_tag_si, t_tag_sr, t_tag_sI, x_r_si, x_i_sr, t_r_sI, x_ia_si, x_ia_sI, x_ia_sr, x_ra_si, x_ra_sI, x_ra_sr, g_t41 hs, h169, bI_t h1, n10, if_false, g_r41_4 hs, g_a44 hs, sx, sc', t2]
          rfl
        · simp only [X170_0, X170_1, X170_2, X170_5, X170_8, X170_10, X170_11, X170_12_0, X170_12_1, X170_12_2, X170_12_3, X170_12_4, X170_12_5, X170_12_d, X170_52, X170_53, X170_56, X170_57, X170_58, X170_59, X170_60, X170_63, X170_64, X170_65, X170_66, X170_67, X170_70, X170_71, X170_72, X170_73, X170_74, X170_77, X170_78, X170_79, X170_80, X170_81, X170_82, X170_85, X170_86, X170_87, X170_88, X170_91, X170_92, X170_94, Nat.zero_le, and_true, true_and, x_nb0, x_nb1, x_nbp, x_isL_int, x_isL_ref, x_isL_junk, x_isR_ref, x_cat_nil, x_cat_int, x_cat_ref, x_cat_long, Option.toList_some, Option.toList_none, List.cons_append, List.nil_append, Nat.reduceAdd, Nat.reduceLeDiff, Nat.reduceLT, t_tag_si, t_tag_sr, t_tag_sI, x_r_si, x_i_sr, t_r_sI, x_ia_si, x_ia_sI, x_ia_sr, x_ra_si, x_ra_sI, x_ra_sr, g_t41 hs, h169, bI_t h1, n10, if_false, g_r41_5 hs, g_a45 hs, sx, sc', m2]
          rfl
        · simp only [X170_0, X170_1, X170_2, X170_5, X170_8, X170_10, X170_11, X170_12_0, X170_12_1, X170_12_2, X170_12_3, X170_12_4, X170_12_5, X170_12_d, X170_52, X170_53, X170_56, X170_57, X170_58, X170_59, X170_60, X170_63, X170_64, X170_65, X170_66, X170_67, X170_70, X170_71, X170_72, X170_73, X170_74, X170_77, X170_78, X170_79, X170_80, X170_81, X170_82, X170_85, X170_86, X170_87, X170_88, X170_91, X170_92, X170_94, Nat.zero_le, and_true, true_and, x_nb0, x_nb1, x_nbp, x_isL_int, x_isL_ref, x_isL_junk, x_isR_ref, x_cat_nil, x_cat_int, x_cat_ref, x_cat_long, Option.toList_some, Option.toList_none, List.cons_append, List.nil_append, Nat.reduceAdd, Nat.reduceLeDiff, Nat.reduceLT, t_tag_si, t_tag_sr, t_tag_sI, x_r_si, x_i_sr, t_r_sI, x_ia_si, x_ia_sI, x_ia_sr, x_ra_si, x_ra_sI, x_ra_sr, g_t41 hs, h169, bI_t h1, n10, if_false, e171]
          rfl
        · simp only [X170_0, X170_1, X170_2, X170_5, X170_8, X170_10, X170_11, X170_12_0, X170_12_1, X170_12_2, X170_12_3, X170_12_4, X170_12_5, X170_12_d, X170_52, X170_53, X170_56, X170_57, X170_58, X170_59, X170_60, X170_63, X170_64, X170_65, X170_66, X170_67, X170_70, X170_71, X170_72, X170_73, X170_74, X170_77, X170_78, X170_79, X170_80, X170_81, X170_82, X170_85, X170_86, X170_87, X170_88, X170_91, X170_92, X170_94, Nat.zero_le, and_true, true_and, x_nb0, x_nb1, x_nbp, x_isL_int, x_isL_ref, x_isL_junk, x_isR_ref, x_cat_nil, x_cat_int, x_cat_ref, x_cat_long, Option.toList_some, Option.toList_none, List.cons_append, List.nil_append, Nat.reduceAdd, Nat.reduceLeDiff, Nat.reduceLT, t_tag_si, t_tag_sr, t_tag_sI, x_r_si, x_i_sr, t_r_sI, x_ia_si, x_ia_sI, x_ia_sr, x_ra_si, x_ra_sI, x_ra_sr, g_t41 hs, h169, bI_t h1, n10, if_false, e172]
          rfl
    · have h5 := sw_5 h2
      refine AQ_no (v := .int (-7)) h.1.2.2 (fun Q => ?_) (fun Q => ?_)
      · simp only [X17_0, X17_1, X17_4, X17_5, X17_8, X17_11, X17_13, X17_14, X17_15, X17_18, X17_21, X17_22, X17_23, X17_24, X17_25_0, X17_25_1, X17_25_2, X17_25_3, X17_25_4, X17_25_5, X17_25_d, X17_64, X17_65, X17_68, X17_71, X17_72, X17_73, X17_74, X17_75, X17_78, X17_79, X17_80, X17_83, X17_84, X17_85, X17_88, X17_89, X17_90, X17_93, X17_94, X17_95, X17_98, X17_99, X17_101, Nat.zero_le, and_true, true_and, x_nb0, x_nb1, x_nbp, x_isL_int, x_isL_ref, x_isL_junk, x_isR_ref, x_cat_nil, x_cat_int, x_cat_ref, x_cat_long, Option.toList_some, Option.toList_none, List.cons_append, List.nil_append, Nat.reduceAdd, Nat.reduceLeDiff, Nat.reduceLT, t_tag_si, t_tag_sr, t_tag_sI, x_r_si, x_i_sr, t_r_sI, x_ia_si, x_ia_sI, x_ia_sr, x_ra_si, x_ra_sI, x_ra_sr, g_t0 hs, g_r0_4 hs, g_t22 hs, h55, bI_t h1, n10, if_false, g_r22_2 hs, g_a29 hs, sx, sc', as, ts, h5]
      · simp only [X170_0, X170_1, X170_2, X170_5, X170_8, X170_10, X170_11, X170_12_0, X170_12_1, X170_12_2, X170_12_3, X170_12_4, X170_12_5, X170_12_d, X170_52, X170_53, X170_56, X170_57, X170_58, X170_59, X170_60, X170_63, X170_64, X170_65, X170_66, X170_67, X170_70, X170_71, X170_72, X170_73, X170_74, X170_77, X170_78, X170_79, X170_80, X170_81, X170_82, X170_85, X170_86, X170_87, X170_88, X170_91, X170_92, X170_94, Nat.zero_le, and_true, true_and, x_nb0, x_nb1, x_nbp, x_isL_int, x_isL_ref, x_isL_junk, x_isR_ref, x_cat_nil, x_cat_int, x_cat_ref, x_cat_long, Option.toList_some, Option.toList_none, List.cons_append, List.nil_append, Nat.reduceAdd, Nat.reduceLeDiff, Nat.reduceLT, t_tag_si, t_tag_sr, t_tag_sI, x_r_si, x_i_sr, t_r_sI, x_ia_si, x_ia_sI, x_ia_sr, x_ra_si, x_ra_sI, x_ra_sr, g_t41 hs, h169, bI_t h1, n10, if_false, h5]
  · refine AQ_no (v := .int (-5)) h.1.2.2 (fun Q => ?_) (fun Q => ?_)
    · simp only [X17_0, X17_1, X17_4, X17_5, X17_8, X17_11, X17_13, Nat.zero_le, and_true, true_and, x_nb0, x_nb1, x_nbp, x_isL_int, x_isL_ref, x_isL_junk, x_isR_ref, x_cat_nil, x_cat_int, x_cat_ref, x_cat_long, Option.toList_some, Option.toList_none, List.cons_append, List.nil_append, Nat.reduceAdd, Nat.reduceLeDiff, Nat.reduceLT, t_tag_si, t_tag_sr, t_tag_sI, x_r_si, x_i_sr, t_r_sI, x_ia_si, x_ia_sI, x_ia_sr, x_ra_si, x_ra_sI, x_ra_sr, g_t0 hs, g_r0_4 hs, g_t22 hs, h55, bI_f h1, if_true]
    · simp only [X170_0, X170_1, X170_2, X170_5, X170_8, X170_10, Nat.zero_le, and_true, true_and, x_nb0, x_nb1, x_nbp, x_isL_int, x_isL_ref, x_isL_junk, x_isR_ref, x_cat_nil, x_cat_int, x_cat_ref, x_cat_long, Option.toList_some, Option.toList_none, List.cons_append, List.nil_append, Nat.reduceAdd, Nat.reduceLeDiff, Nat.reduceLT, t_tag_si, t_tag_sr, t_tag_sI, x_r_si, x_i_sr, t_r_sI, x_ia_si, x_ia_sI, x_ia_sr, x_ra_si, x_ra_sI, x_ra_sr, g_t41 hs, h169, bI_f h1, if_true]
def asksOk_dec (p a b c e : Int32) : Decidable (asksOk p a b c e) := inferInstanceAs (Decidable (_ ∧ _ ∧ _ ∧ _ ∧ _))
theorem AQ_asks {tl : Nat → Nat} {tk : Nat → Nat → Nat} (h : AG w S kd td mo kt tl tk) (p a b c e : Int32) : AQ L xs (d + 12) 14 162 [.ref 0, .int p, .int a, .int b, .int c, .int e] [.ref 41, .int p, .int a, .int b, .int c, .int e, x_junk] w := by
  have hs := h.1.sh
  obtain ⟨a0, n, ha, hl, hpp⟩ := h.1.2.1
  obtain ⟨rr, r6, hr, hpm⟩ := h.2.1.2
  by_cases hk : asksOk p a b c e
  · obtain ⟨j, hj, rfl⟩ := kn3_of hk.1
    obtain ⟨hP, hW⟩ := hpp j hj
    obtain ⟨hPM, hWM⟩ := hpm j hj
    have e0 : offT tl j + tl j - offT tl j = tl j := by omega
    have e14 := fun (Q' : Option Value → x_W → Prop) => @S14 L xs (d + 10) w Q' a0 (a0 + 1) (a0 + 2) (a0 + 3) n j (offT tl j) (offT tl j + tl j) (tk j) (nI j) a b c e (asksOk_dec _ _ _ _ _) hs hl (fun _ => ⟨hj, rfl⟩) hP (by rw [e0]; exact hW)
    rw [e0, sayN_cg hW (set6_cg (x_i w 34) (fun _ => nI 0) _ _ _ _ _ _)] at e14
    have c1 : Ch (sc [34]) w (WL w (a0 + 3) (set6 (x_i w 34) (q10 a) (r10 a) b c (q10 e) (r10 e)) (tk j) (tl j)) := (Ch_sI (fun _ => rfl)).trans (Ch_sI (fun k => lawC_K ha k _))
    have hne := lawC_ne ha
    have h236 : x_i (WL w (a0 + 3) (set6 (x_i w 34) (q10 a) (r10 a) b c (q10 e) (r10 e)) (tk j) (tl j)) 23 6 = x_i w 23 6 := by
      unfold WL
      rw [x_i_sIn _ _ _ (Ne.symm hne.2.2.1), x_i_sIn _ _ _ (by decide)]
    generalize hw1 : WL w (a0 + 3) (set6 (x_i w 34) (q10 a) (r10 a) b c (q10 e) (r10 e)) (tk j) (tl j) = w1 at *
    have cA := c1.a rfl
    have hM1 := h.2.1.2.ch cA
    obtain ⟨r', r6', hr', hpm'⟩ := hM1
    obtain ⟨hPM', _⟩ := hpm' j hj
    have e162 := fun (Q' : Option Value → x_W → Prop) => @S162 L xs (d + 9) w1 Q' r' j (offT tl j) (offT tl j + tl j) (tk j) (nI j) a b c e (asksOk_dec _ _ _ _ _) (c1.sh hs) hr' r6' (fun _ => ⟨hj, rfl⟩) hPM' (by rw [e0]; exact hWM)
    rw [e0, sayN_cg hWM (set6_cg (x_i w1 59) (fun _ => nI 0) _ _ _ _ _ _)] at e162
    have c2 : Ch (sm [58, 59]) w1 (WN w1 (set6 (x_i w1 59) (q10 a) (r10 a) b c (q10 e) (r10 e)) (tk j) (tl j)) := (Ch_sI (fun _ => rfl)).trans (Ch_sI (fun _ => rfl))
    refine ⟨.int (clI (bndI j) (sayN (set6 (fun _ => nI 0) (q10 a) (r10 a) b c (q10 e) (r10 e)) (tk j) (tl j))), w1, WN w1 (set6 (x_i w1 59) (q10 a) (r10 a) b c (q10 e) (r10 e)) (tk j) (tl j), cA.trans (c2.ma rfl), (h.1.2.2.ch c1 rfl rfl h236).m c2 rfl rfl rfl, fun Q => ?_, fun Q => ?_⟩
    · rw [e14 Q, if_pos hk]
    · rw [e162 Q, if_pos hk]
  · obtain ⟨hP, hW⟩ := hpp 0 (by decide)
    obtain ⟨hPM, hWM⟩ := hpm 0 (by decide)
    have e0 : offT tl 0 + tl 0 - offT tl 0 = tl 0 := by omega
    have e14 := fun (Q' : Option Value → x_W → Prop) => @S14 L xs (d + 10) w Q' a0 (a0 + 1) (a0 + 2) (a0 + 3) n 0 (offT tl 0) (offT tl 0 + tl 0) (tk 0) p a b c e (asksOk_dec _ _ _ _ _) hs hl (fun q => absurd q hk) hP (by rw [e0]; exact hW)
    have e162 := fun (Q' : Option Value → x_W → Prop) => @S162 L xs (d + 9) w Q' rr 0 (offT tl 0) (offT tl 0 + tl 0) (tk 0) p a b c e (asksOk_dec _ _ _ _ _) hs hr r6 (fun q => absurd q hk) hPM (by rw [e0]; exact hWM)
    refine AQ_no (v := .int (-2)) h.1.2.2 (fun Q => ?_) (fun Q => ?_)
    · rw [e14 Q, if_neg hk]
    · rw [e162 Q, if_neg hk]
theorem lawC_P {a : Nat} (ha : lawC a) : LawP (a + 1) (a + 2) (a + 3) := by
  unfold LawP
  rcases ha with rfl | ⟨h1, h2, h3⟩
  · exact ⟨Or.inl rfl, Or.inl rfl, Or.inl rfl⟩
  · exact ⟨Or.inr (by omega), Or.inr (by omega), Or.inr (by omega)⟩
theorem AQ_hang {tl : Nat → Nat} {tk : Nat → Nat → Nat} (h : AG w S kd td mo kt tl tk) (v : Int32) : AQ L xs (d + 12) 20 179 [.ref 0, .int v] [.ref 41, .int v] w := by
  have hs := h.1.sh
  by_cases hv : nI 0 ≤ v ∧ v ≤ nI 3
  · have c1 : Ch (sm [25, 26, 27]) w (WXs w (XL S kd td mo kt)) := Ch_WX
    have cA := c1.ma rfl
    have hF1 := h.1.2.2.m c1 rfl rfl rfl
    have hM1 := h.2.1.1.ch cA
    have eM : MD (WXs w (XL S kd td mo kt)) (XL S kd td mo kt) 12 = MD w (XL S kd td mo kt) 12 := by
      unfold MD
      rw [EM.C cA, cA.2.2 41 1 rfl]
    have c2 : Ch (sm [60, 61, 62]) (WXs w (XL S kd td mo kt)) (WHs (WXs w (XL S kd td mo kt)) (XL S kd td mo kt)) := Ch_WH
    have hAQ : ∀ v' : Value, (∀ Q, X_R L xs (d + 12) 20 0 [.ref 0, .int v] [] w Q = Q (some v') (WXs w (XL S kd td mo kt))) → (∀ Q, X_R L xs (d + 12) 179 0 [.ref 41, .int v] [] (WXs w (XL S kd td mo kt)) Q = Q (some v') (WHs (WXs w (XL S kd td mo kt)) (XL S kd td mo kt))) → AQ L xs (d + 12) 20 179 [.ref 0, .int v] [.ref 41, .int v] w := fun v' q1 q2 => ⟨v', WXs w (XL S kd td mo kt), WHs (WXs w (XL S kd td mo kt)) (XL S kd td mo kt), cA.trans (c2.ma rfl), hF1.m c2 rfl rfl rfl, q1, q2⟩
    obtain ⟨j, hj, rfl⟩ := in_of (n := 3) rfl hv
    rcases (by omega : j = 0 ∨ j = 1 ∨ j = 2 ∨ j = 3) with rfl | rfl | rfl | rfl
    · refine hAQ _ (fun Q => S20_0 (d := d + 7) h.1.1) (fun Q => ?_)
      rw [S179_0 (d := d + 7) hM1, eM, ← bestV_eq h.2.2.1]
    · refine hAQ _ (fun Q => S20_1 (d := d + 7) h.1.1) (fun Q => ?_)
      rw [S179_1 (d := d + 7) hM1, eM, ← best_eq h.2.2.1]
    · obtain ⟨a0, n, ha, hl, hpp⟩ := h.1.2.1
      obtain ⟨hP, hW⟩ := hpp 2 (by decide)
      have e0 : offT tl 2 + tl 2 - offT tl 2 = tl 2 := by omega
      obtain ⟨f, g, e20⟩ := S20_2 (L := L) (xs := xs) (d := d + 7) h.1.1 hl (lawC_P ha) hP (by rw [e0]; exact hW)
      rw [e0] at e20
      have hne := lawC_ne ha
      have cU : Ch (sc [34]) (WXs w (XL S kd td mo kt)) (UK (WXs w (XL S kd td mo kt)) (a0 + 3) f g) := (Ch_sI (fun _ => rfl)).trans (Ch_sI (fun k => lawC_K ha k _))
      have h236 : x_i (UK (WXs w (XL S kd td mo kt)) (a0 + 3) f g) 23 6 = x_i (WXs w (XL S kd td mo kt)) 23 6 := by
        rw [UK_o (by decide) (Ne.symm hne.2.2.1)]
      generalize hw1 : UK (WXs w (XL S kd td mo kt)) (a0 + 3) f g = w1 at *
      have hFU := hF1.ch cU rfl rfl h236
      have cB := cA.trans (cU.a rfl)
      have hM2 := h.2.1.1.ch cB
      obtain ⟨r', r6', hr', hpm'⟩ := h.2.1.2.ch cB
      obtain ⟨hPM', hWM⟩ := hpm' 2 (by decide)
      obtain ⟨f', g', e179⟩ := S179_2 (L := L) (xs := xs) (d := d + 7) hM2 hr' r6' hPM' (by rw [e0]; exact hWM)
      rw [e0] at e179
      have eC2 : x_i w1 42 = x_i w 42 := EM.C cB
      have eMD2 : MD w1 (XL S kd td mo kt) 12 = MD w (XL S kd td mo kt) 12 := by
        unfold MD
        rw [EM.C cB, cB.2.2 41 1 rfl]
      rw [eC2, eMD2, ← tears_eq h.2.2.1 h.1.1.nb] at e179
      have c3 : Ch (sm [58, 59, 60, 61, 62]) w1 (UN (WHs w1 (XL S kd td mo kt)) f' g') := by
        have q1 : Ch (sm [60, 61, 62]) w1 (WHs w1 (XL S kd td mo kt)) := Ch_WH
        have q2 : Ch (sm [58, 59]) (WHs w1 (XL S kd td mo kt)) (UN (WHs w1 (XL S kd td mo kt)) f' g') := (Ch_sI (fun _ => rfl)).trans (Ch_sI (fun _ => rfl))
        exact (q1.mup rfl).trans (q2.mup rfl)
      exact ⟨_, w1, _, cB.trans (c3.ma rfl), hFU.m c3 rfl rfl rfl, e20, e179⟩
    · refine hAQ _ (fun Q => S20_3 (d := d + 7) h.1.1) (fun Q => ?_)
      rw [S179_3 (d := d + 7) hM1, eM, ← sumD_eq h.2.2.1]
  · exact AQ_no (v := .int (-2)) h.1.2.2 (fun Q => S20n (d := d + 7) hv) (fun Q => S179n (d := d + 7) hv)
end S997
