/-! ===== who feels a turn, on both sides ===== -/
/-- the cells of a list alone -/
def sm (l : List Nat) (b _k : Nat) : Bool := l.elem b
theorem Ch.mup {l m : List Nat} {w w' : x_W} (h : Ch (sm l) w w') (hl : (l.all fun x => m.elem x) = true) : Ch (sm m) w w' := h.mono fun b _ hb => by
  unfold sm at *
  cases hq : l.elem b with
  | false => rfl
  | true => rw [elem_sub hl b hq] at hb; exact Bool.noConfusion hb
theorem Ch.ms {l : List Nat} {w w' : x_W} (h : Ch (sm l) w w') : Ch (sc l) w w' := h.mono fun b k hb => by
  unfold sc at hb
  rw [Bool.or_eq_false_iff, Bool.or_eq_false_iff] at hb
  exact hb.1.1
theorem Ch.ma {l : List Nat} {w w' : x_W} (h : Ch (sm l) w w') (hl : (l.all fun x => SA.elem x) = true) : ChA w w' := h.ms.a hl
theorem FarOk.m {l : List Nat} {w w' : x_W} (h : FarOk w) (hc : Ch (sm l) w w') (h28 : l.elem 28 = false) (h24 : l.elem 24 = false) (h23 : l.elem 23 = false) : FarOk w' := by
  have e28 : x_i w' 28 = x_i w 28 := hc.i (fun _ => h28)
  have e24 : x_i w' 24 = x_i w 24 := hc.i (fun _ => h24)
  have e23 : x_i w' 23 = x_i w 23 := hc.i (fun _ => h23)
  unfold FarOk at *
  rw [e28, e24, e23]
  exact h
def nmT (kd td mo kt : Nat → Nat) (far : Int32) (s b : Nat) : Nat → Int32 := set6 (fun _ => nI 0) (nI (td b)) (nI (mo b)) far (nI (wgF kd td mo s)) (nI (kt s)) (nI s)
def clN (z : Int32) : Nat := (clI (nI 99) z).toNatClampNeg
theorem clN_I (z : Int32) : clI (nI 99) z = nI (clN z) ∧ clN z ≤ 99 := by
  unfold clN clI
  by_cases h1 : nI 0 ≤ z
  · rw [if_pos h1]
    by_cases h2 : z ≤ nI 99
    · rw [if_pos h2]
      obtain ⟨j, hj, e⟩ := nI_of2 (n := 99) (M := nI 99) rfl (Int32.not_lt.mpr h1) h2
      rw [e, nI_cl (by omega)]
      exact ⟨rfl, hj⟩
    · rw [if_neg h2]
      exact ⟨rfl, by decide⟩
  · rw [if_neg h1]
    exact ⟨rfl, by decide⟩
theorem tuN_le {k m v : Nat} (hm : m ≤ 9) (hv : v ≤ 99) : tuN k m v ≤ 198 := by
  unfold tuN
  split
  · omega
  · split
    · omega
    · split <;> omega
/-- what s feels of b's turn, by how far -/
def feN (kd td mo kt tl : Nat → Nat) (tk : Nat → Nat → Nat) (far : Int32) (s b : Nat) : Nat := if far = -1 then 0 else tuN (kd b) (mo b) (clN (sayN (nmT kd td mo kt far s b) (tk 0) (tl 0)))
theorem feN_le {kd td mo kt tl : Nat → Nat} {tk : Nat → Nat → Nat} {far : Int32} {s b : Nat} (hm : mo b ≤ 9) : feN kd td mo kt tl tk far s b ≤ 198 := by
  unfold feN
  split
  · omega
  · exact tuN_le hm (clN_I _).2
def farX (w : x_W) (kt : Nat → Nat) (s b : Nat) : Int32 := farF (x_i w 24) (nI (kt s)) (nI (kt b)) 20 0
def farM (w : x_W) (kt : Nat → Nat) (s b : Nat) : Int32 := farF (x_i w 42) (nI (kt b)) (nI (kt s)) 20 0
section S78
variable {L : Nat} {xs : Nat → Int32} {d : Nat} {w : x_W} {S : Nat} {kd td mo kt tl : Nat → Nat} {tk : Nat → Nat → Nat}
theorem maxn {v : Nat} (hv : v < 2 ^ 31) : (if nI 0 < nI v then nI v else nI 0) = nI v := by
  by_cases h : 0 < v
  · rw [if_pos (nI_lt h hv)]
  · obtain rfl : v = 0 := by omega
    rw [ite_self]
theorem Ch_WF : Ch (sc [28]) w (WF w) := by
  unfold WF
  exact Ch.trans (Ch_sI (fun _ => rfl)) (Ch_si rfl)
theorem lawC_K {a : Nat} (ha : lawC a) (k : Nat) (l : List Nat) : sc l (a + 3) k = true := by
  unfold sc
  have e : isK (a + 3) = true := by
    rcases ha with rfl | ⟨h1, h2, h3⟩
    · rfl
    · unfold isK
      have e1 : Nat.ble 66 (a + 3) = true := Nat.ble_eq.mpr (by omega)
      have e2 : ((a + 3) % 4 == 1) = true := by rw [beq_iff_eq]; omega
      rw [e1, e2, Bool.or_true]
      rfl
  rw [e, Bool.or_true]
theorem lawC_ne {a : Nat} (ha : lawC a) : a + 3 ≠ 28 ∧ a + 3 ≠ 24 ∧ a + 3 ≠ 23 ∧ a + 3 ≠ 34 ∧ a + 3 ≠ 30 := by
  rcases ha with rfl | ⟨h1, h2, h3⟩
  · decide
  · refine ⟨?_, ?_, ?_, ?_, ?_⟩ <;> omega
theorem EX.slp (h : EX w S kd td mo kt tl tk) {s : Nat} (hs : s < S) : (x_r w 29 s = .ref (35 + s) ∧ x_tag w (35 + s) = some (0, 5)) ∧ (x_i w (35 + s) 0 = nI (kd s) ∧ x_i w (35 + s) 1 = nI (td s) ∧ x_i w (35 + s) 2 = nI (mo s) ∧ x_i w 30 s = nI (kt s)) ∧ (x_i w (35 + s) 3 = nI (wgF kd td mo s) ∧ x_i w (35 + s) 4 = nI (waN (kd s) (mo s))) ∧ (kd s ≤ 5 ∧ td s ≤ 30 ∧ mo s ≤ 9 ∧ kt s < 20) := by
  have h6 := h.1.S6
  exact ⟨g_all h.sh s (by omega), h.1.X.1 s (by omega), h.1.X.2 s hs, h.1.bd s (by omega)⟩
theorem S64 (h : EX w S kd td mo kt tl tk) {s b : Nat} (hs : s < S) (hb : b < S) : ∃ w', Ch (sc [28, 34]) w w' ∧ FarOk w' ∧ ∀ Q, X_R L xs (d + 3) 64 0 [.ref 22, .int (nI s), .int (nI b), x_junk] [] w Q = Q (some (.int (nI (feN kd td mo kt tl tk (farX w kt s b) s b)))) w' := by
  have h6 := h.1.S6
  obtain ⟨⟨as, ts⟩, ⟨ks, tds, ms, ls⟩, ⟨ws, qs⟩, ⟨ks5, ts30, ms9, ls20⟩⟩ := h.slp hs
  obtain ⟨⟨ab, tb⟩, ⟨kb, tdb, mb, lb⟩, ⟨wb, qb⟩, ⟨kb5, tb30, mb9, lb20⟩⟩ := h.slp hb
  have hsx := x_ix_nI (show s < 6 by omega) (show 6 < 2 ^ 31 by decide)
  have hsc := nI_cl (show s < 2 ^ 31 by omega)
  have hbx := x_ix_nI (show b < 6 by omega) (show 6 < 2 ^ 31 by decide)
  have hbc := nI_cl (show b < 2 ^ 31 by omega)
  have hs0 := h.sh
  obtain ⟨w1, hw1, hF1, h61, e97⟩ := S97w (L := L) (xs := xs) (d := d + 1) hs0 ls20 lb20 h.2.2
  have c1 : Ch (sc [28]) w w1 := by rcases hw1 with rfl | rfl; exact Ch.refl; exact Ch_WF
  have hX1 := h.ch (c1.a rfl) hF1
  have hs1 := c1.sh hs0
  have efar : farX w kt s b = farF (x_i w 24) (nI (kt s)) (nI (kt b)) 20 0 := rfl
  rw [← efar] at e97
  unfold feN
  by_cases hf : farX w kt s b = -1
  · refine ⟨w1, c1.up rfl, hF1, fun Q => ?_⟩
    simp only [X64_0, X64_1, X64_4, X64_5, X64_8, X64_9, X64_10, X64_11, X64_14, X64_15, X64_16, X64_19, X64_20, X64_21, X64_22, X64_25, X64_26, X64_27, X64_28, X64_29, X64_32, X64_33, X64_34, X64_37, X64_38, X64_41, X64_42, X64_43, X64_46, X64_47, X64_50, X64_51, X64_52, X64_55, X64_56, X64_57, X64_60, X64_61, X64_64, X64_65, X64_66, X64_67, X64_70, X64_71, X64_72, X64_75, X64_76, X64_77, X64_78, X64_81, X64_82, X64_83, X64_86, X64_89, X64_92, X64_95, Nat.zero_le, and_true, true_and, x_nb0, x_nb1, x_nbp, x_isL_int, x_isL_ref, x_isL_junk, x_isR_ref, x_cat_nil, x_cat_int, x_cat_ref, x_cat_long, Option.toList_some, Option.toList_none, List.cons_append, List.nil_append, Nat.reduceAdd, Nat.reduceLeDiff, Nat.reduceLT, t_tag_si, t_tag_sr, t_tag_sI, x_r_si, x_i_sr, t_r_sI, x_ia_si, x_ia_sI, x_ia_sr, x_ra_si, x_ra_sI, x_ra_sr, g_t22 hs0, g_r22_0 hs0, g_r22_2 hs0, g_r22_3 hs0, g_r22_5 hs0, g_r22_6 hs0, g_r22_7 hs0, g_r22_8 hs0, g_a29 hs0, g_r29_0 hs0, g_r29_1 hs0, g_r29_2 hs0, g_r29_3 hs0, g_r29_4 hs0, g_r29_5 hs0, g_a30 hs0, g_a31 hs0, g_a32 hs0, g_a33 hs0, g_a34 hs0, g_t35 hs0, g_t36 hs0, g_t37 hs0, g_t38 hs0, g_t39 hs0, g_t40 hs0, hsx, hbx, hsc, hbc, ls, lb, g_t23 hs0, e97, hf, if_true]
  · rw [if_neg hf]
    obtain ⟨a, n, ha, hl, hp⟩ := hX1.2.1
    obtain ⟨hP, hW⟩ := hp 0 (by decide)
    have hne := lawC_ne ha
    have h30 : x_i w1 30 = x_i w 30 := c1.i (fun _ => rfl)
    obtain ⟨⟨as1, ts1⟩, ⟨ks1, tds1, ms1, ls1⟩, ⟨ws1, qs1⟩, _⟩ := hX1.slp hs
    obtain ⟨⟨ab1, tb1⟩, ⟨kb1, tdb1, mb1, lb1⟩, ⟨wb1, qb1⟩, _⟩ := hX1.slp hb
    rw [← Nat.zero_add (tl 0)] at hW
    have hoff : offT tl 0 = 0 := rfl
    rw [hoff] at hP
    have h52 := fun (Q' : Option Value → x_W → Prop) => S52 (L := L) (xs := xs) (d := d + 2) (Q := Q') (w := w1) (a := nI (td b)) (b := nI (mo b)) (c := farX w kt s b) hs1
    have h53 := fun (Q' : Option Value → x_W → Prop) => S53' (L := L) (xs := xs) (d := d + 2) (Q := Q') (w := w1) (a := nI (wgF kd td mo s)) (b := nI (kt s)) (c := nI s) (a' := nI (td b)) (b' := nI (mo b)) (c' := farX w kt s b) hs1
    have h81 := fun (Q' : Option Value → x_W → Prop) => S81w (L := L) (xs := xs) (d := d + 1) (Q := Q') (nm := set6 (x_i w1 34) (nI (td b)) (nI (mo b)) (farX w kt s b) (nI (wgF kd td mo s)) (nI (kt s)) (nI s)) hs1 hl (show 0 < 3 by decide) hP hW
    have e0 : 0 + tl 0 - 0 = tl 0 := by omega
    rw [Nat.zero_add] at hW
    have hbI : bndI 0 = nI 99 := rfl
    rw [e0, sayN_cg hW (set6_cg (x_i w1 34) (fun _ => nI 0) _ _ _ _ _ _), hbI, (clN_I _).1] at h81
    obtain ⟨v, hv⟩ : ∃ v, v = clN (sayN (nmT kd td mo kt (farX w kt s b) s b) (tk 0) (tl 0)) := ⟨_, rfl⟩
    have hv99 : v ≤ 99 := by rw [hv]; exact (clN_I _).2
    have hvv : clN (sayN (set6 (fun _ => nI 0) (nI (td b)) (nI (mo b)) (farX w kt s b) (nI (wgF kd td mo s)) (nI (kt s)) (nI s)) (tk 0) (tl 0)) = v := hv.symm
    rw [hvv] at h81
    rw [← hv]
    generalize hw2 : WL w1 (a + 3) (set6 (x_i w1 34) (nI (td b)) (nI (mo b)) (farX w kt s b) (nI (wgF kd td mo s)) (nI (kt s)) (nI s)) (tk 0) (tl 0) = w2 at h81
    have c2 : Ch (sc [34]) w1 w2 := by
      rw [← hw2]
      exact Ch.trans (Ch_sI (fun _ => rfl)) (Ch_sI (fun k => lawC_K ha k _))
    have hF2 : FarOk w2 := hF1.ch c2 rfl rfl (by
      rw [← hw2]
      unfold WL
      rw [x_i_sIn _ _ _ (Ne.symm hne.2.2.1), x_i_sIn _ _ _ (by decide)])
    have hX2 := hX1.ch (c2.a rfl) hF2
    obtain ⟨⟨ab2, tb2⟩, ⟨kb2, tdb2, mb2, lb2⟩, _, _⟩ := hX2.slp hb
    have h110 := fun (Q' : Option Value → x_W → Prop) => S110 (L := L) (xs := xs) (d := d + 2) (w := w2) (Q := Q') tb2 kb2 mb2 kb5 mb9 hv99
    have lt := hl.1.1
    have lw := hl.2.2.2
    refine ⟨w2, (c1.up rfl).trans (c2.up rfl), hF2, fun Q => ?_⟩
    have hsI : ∀ f, Sh (x_sI w1 34 f) := fun f => hs1
    have eI : ∀ (f : Nat → Int32) (q : Nat), q ≠ 34 → x_i (x_sI w1 34 f) q = x_i w1 q := fun f q hq => x_i_sIn _ _ _ hq
    have e30 : ∀ f : Nat → Int32, x_i (x_sI w1 34 f) 30 = x_i w1 30 := fun f => eI f 30 (by decide)
    have e35 : ∀ f : Nat → Int32, x_i (x_sI w1 34 f) (35 + s) = x_i w1 (35 + s) := fun f => eI f _ (by omega)
    simp only [X64_0, X64_1, X64_4, X64_5, X64_8, X64_9, X64_10, X64_11, X64_14, X64_15, X64_16, X64_19, X64_20, X64_21, X64_22, X64_25, X64_26, X64_27, X64_28, X64_29, X64_32, X64_33, X64_34, X64_37, X64_38, X64_41, X64_42, X64_43, X64_46, X64_47, X64_50, X64_51, X64_52, X64_55, X64_56, X64_57, X64_60, X64_61, X64_64, X64_65, X64_66, X64_67, X64_70, X64_71, X64_72, X64_75, X64_76, X64_77, X64_78, X64_81, X64_82, X64_83, X64_86, X64_89, X64_92, X64_95, Nat.zero_le, and_true, true_and, x_nb0, x_nb1, x_nbp, x_isL_int, x_isL_ref, x_isL_junk, x_isR_ref, x_cat_nil, x_cat_int, x_cat_ref, x_cat_long, Option.toList_some, Option.toList_none, List.cons_append, List.nil_append, Nat.reduceAdd, Nat.reduceLeDiff, Nat.reduceLT, t_tag_si, t_tag_sr, t_tag_sI, x_r_si, x_i_sr, t_r_sI, x_ia_si, x_ia_sI, x_ia_sr, x_ra_si, x_ra_sI, x_ra_sr, g_t22 hs0, g_r22_0 hs0, g_r22_2 hs0, g_r22_3 hs0, g_r22_5 hs0, g_r22_6 hs0, g_r22_7 hs0, g_r22_8 hs0, g_a29 hs0, g_r29_0 hs0, g_r29_1 hs0, g_r29_2 hs0, g_r29_3 hs0, g_r29_4 hs0, g_r29_5 hs0, g_a30 hs0, g_a31 hs0, g_a32 hs0, g_a33 hs0, g_a34 hs0, g_t35 hs0, g_t36 hs0, g_t37 hs0, g_t38 hs0, g_t39 hs0, g_t40 hs0, g_t22 hs1, g_r22_0 hs1, g_r22_2 hs1, g_r22_3 hs1, g_r22_5 hs1, g_r22_6 hs1, g_r22_7 hs1, g_r22_8 hs1, g_a29 hs1, g_r29_0 hs1, g_r29_1 hs1, g_r29_2 hs1, g_r29_3 hs1, g_r29_4 hs1, g_r29_5 hs1, g_a30 hs1, g_a31 hs1, g_a32 hs1, g_a33 hs1, g_a34 hs1, g_t35 hs1, g_t36 hs1, g_t37 hs1, g_t38 hs1, g_t39 hs1, g_t40 hs1, hsx, hbx, hsc, hbc, ls, lb, g_t23 hs0, e97, hf, if_false, ab1, tb1, tdb1, mb1, as1, ts1, ws1, ls1, h52, h53, h81, e30, e35, lt, lw, tb2, h110, maxn (Nat.lt_of_le_of_lt (tuN_le mb9 hv99) (by decide))]
theorem S191 (h : EM w S kd td mo kt tl tk) {s b : Nat} (hs : s < S) (hb : b < S) : ∃ w', Ch (sm [58, 59]) w w' ∧ ∀ Q, X_R L xs (d + 3) 191 0 [.ref 41, .int (nI s), .int (nI b), x_junk] [] w Q = Q (some (.int (nI (feN kd td mo kt tl tk (farM w kt s b) s b)))) w' := by
  have h6 := h.1.S6
  obtain ⟨⟨ks, ks5⟩, ⟨tds, ts30⟩, ⟨ms, ms9⟩, ⟨ls, ls20⟩⟩ := h.1.M s (by omega)
  obtain ⟨⟨kb, kb5⟩, ⟨tdb, tb30⟩, ⟨mb, mb9⟩, ⟨lb, lb20⟩⟩ := h.1.M b (by omega)
  have hsx := x_ix_nI (show s < 6 by omega) (show 6 < 2 ^ 31 by decide)
  have hsc := nI_cl (show s < 2 ^ 31 by omega)
  have hbx := x_ix_nI (show b < 6 by omega) (show 6 < 2 ^ 31 by decide)
  have hbc := nI_cl (show b < 2 ^ 31 by omega)
  have hs0 := h.sh
  have e192 := fun (Q' : Option Value → x_W → Prop) => S192 (L := L) (xs := xs) (d := d + 2) (w := w) (Q := Q') (a := nI (kt b)) (b := nI (kt s)) hs0
  have efar : farM w kt s b = farF (x_i w 42) (nI (kt b)) (nI (kt s)) 20 0 := rfl
  rw [← efar] at e192
  have e171 := fun (Q' : Option Value → x_W → Prop) => S171 (L := L) (xs := xs) (d := d + 2) (w := w) (Q := Q') hs0 (show s < 6 by omega) ks tds ms ks5 ts30 ms9
  unfold feN
  by_cases hf : farM w kt s b = -1
  · refine ⟨w, Ch.refl, fun Q => ?_⟩
    simp only [X191_0, X191_1, X191_2, X191_5, X191_6, X191_7, X191_8, X191_11, X191_12, X191_13, X191_16, X191_17, X191_18, X191_19, X191_22, X191_23, X191_26, X191_27, X191_28, X191_29, X191_30, X191_31, X191_34, X191_35, X191_36, X191_37, X191_40, X191_41, X191_42, X191_43, X191_44, X191_45, X191_48, X191_49, X191_52, X191_53, X191_54, X191_55, X191_58, X191_61, Nat.zero_le, and_true, true_and, x_nb0, x_nb1, x_nbp, x_isL_int, x_isL_ref, x_isL_junk, x_isR_ref, x_cat_nil, x_cat_int, x_cat_ref, x_cat_long, Option.toList_some, Option.toList_none, List.cons_append, List.nil_append, Nat.reduceAdd, Nat.reduceLeDiff, Nat.reduceLT, t_tag_si, t_tag_sr, t_tag_sI, x_r_si, x_i_sr, t_r_sI, x_ia_si, x_ia_sI, x_ia_sr, x_ra_si, x_ra_sI, x_ra_sr, g_t41 hs0, g_r41_0 hs0, g_r41_3 hs0, g_r41_4 hs0, g_r41_5 hs0, g_r41_6 hs0, g_r41_7 hs0, g_r41_9 hs0, g_r41_10 hs0, g_r41_17 hs0, g_r41_18 hs0, g_r41_19 hs0, g_r41_20 hs0, g_r41_21 hs0, g_r41_22 hs0, g_r41_27 hs0, g_r41_28 hs0, g_r41_32 hs0, g_r41_33 hs0, g_r41_34 hs0, g_r41_35 hs0, g_r41_36 hs0, g_r41_37 hs0, g_r41_38 hs0, g_r41_39 hs0, g_a42 hs0, g_a43 hs0, g_a44 hs0, g_a45 hs0, g_a46 hs0, g_a47 hs0, g_a48 hs0, g_a49 hs0, g_a50 hs0, g_a51 hs0, g_a52 hs0, g_a53 hs0, g_a54 hs0, g_a55 hs0, g_a56 hs0, g_a57 hs0, g_a58 hs0, g_a59 hs0, g_a60 hs0, g_a61 hs0, g_a62 hs0, g_a63 hs0, g_a64 hs0, g_a65 hs0, hsx, hbx, hsc, hbc, ls, lb, e192, hf, if_true]
  · rw [if_neg hf]
    obtain ⟨r, r6, hr, hp⟩ := h.2
    obtain ⟨hP, hW⟩ := hp 0 (by decide)
    rw [← Nat.zero_add (tl 0)] at hW
    have hoff : offT tl 0 = 0 := rfl
    rw [hoff] at hP
    have h163 := fun (Q' : Option Value → x_W → Prop) => S163 (L := L) (xs := xs) (d := d) (Q := Q') (w := w) (p := 0) (a0 := nI (td b)) (a1 := nI (mo b)) (a2 := farM w kt s b) (a3 := nI (wgF kd td mo s)) (a4 := nI (kt s)) (a5 := nI s) hs0 hr r6 (by decide) hP hW
    have e0 : 0 + tl 0 - 0 = tl 0 := by omega
    rw [Nat.zero_add] at hW
    have hbI : bndI 0 = nI 99 := rfl
    rw [e0, sayN_cg hW (set6_cg (x_i w 59) (fun _ => nI 0) _ _ _ _ _ _), hbI, (clN_I _).1] at h163
    obtain ⟨v, hv⟩ : ∃ v, v = clN (sayN (nmT kd td mo kt (farM w kt s b) s b) (tk 0) (tl 0)) := ⟨_, rfl⟩
    have hv99 : v ≤ 99 := by rw [hv]; exact (clN_I _).2
    have hvv : clN (sayN (set6 (fun _ => nI 0) (nI (td b)) (nI (mo b)) (farM w kt s b) (nI (wgF kd td mo s)) (nI (kt s)) (nI s)) (tk 0) (tl 0)) = v := hv.symm
    rw [hvv] at h163
    rw [← hv]
    generalize hw2 : WN w (set6 (x_i w 59) (nI (td b)) (nI (mo b)) (farM w kt s b) (nI (wgF kd td mo s)) (nI (kt s)) (nI s)) (tk 0) (tl 0) = w2 at h163
    have c2 : Ch (sm [58, 59]) w w2 := by
      rw [← hw2]
      exact Ch.trans (Ch_sI (fun _ => rfl)) (Ch_sI (fun _ => rfl))
    have hM2 := h.ch (c2.ma rfl)
    obtain ⟨⟨kb2, _⟩, _, ⟨mb2, _⟩, _⟩ := hM2.1.M b (by omega)
    have h193 := fun (Q' : Option Value → x_W → Prop) => S193 (L := L) (xs := xs) (d := d + 1) (w := w2) (Q := Q') (c2.sh hs0) (show b < 6 by omega) kb2 mb2 kb5 mb9 hv99
    refine ⟨w2, c2, fun Q => ?_⟩
    have e171' : wgN (kd s) (td s) (mo s) = wgF kd td mo s := rfl
    rw [e171'] at e171
    simp only [X191_0, X191_1, X191_2, X191_5, X191_6, X191_7, X191_8, X191_11, X191_12, X191_13, X191_16, X191_17, X191_18, X191_19, X191_22, X191_23, X191_26, X191_27, X191_28, X191_29, X191_30, X191_31, X191_34, X191_35, X191_36, X191_37, X191_40, X191_41, X191_42, X191_43, X191_44, X191_45, X191_48, X191_49, X191_52, X191_53, X191_54, X191_55, X191_58, X191_61, Nat.zero_le, and_true, true_and, x_nb0, x_nb1, x_nbp, x_isL_int, x_isL_ref, x_isL_junk, x_isR_ref, x_cat_nil, x_cat_int, x_cat_ref, x_cat_long, Option.toList_some, Option.toList_none, List.cons_append, List.nil_append, Nat.reduceAdd, Nat.reduceLeDiff, Nat.reduceLT, t_tag_si, t_tag_sr, t_tag_sI, x_r_si, x_i_sr, t_r_sI, x_ia_si, x_ia_sI, x_ia_sr, x_ra_si, x_ra_sI, x_ra_sr, g_t41 hs0, g_r41_0 hs0, g_r41_3 hs0, g_r41_4 hs0, g_r41_5 hs0, g_r41_6 hs0, g_r41_7 hs0, g_r41_9 hs0, g_r41_10 hs0, g_r41_17 hs0, g_r41_18 hs0, g_r41_19 hs0, g_r41_20 hs0, g_r41_21 hs0, g_r41_22 hs0, g_r41_27 hs0, g_r41_28 hs0, g_r41_32 hs0, g_r41_33 hs0, g_r41_34 hs0, g_r41_35 hs0, g_r41_36 hs0, g_r41_37 hs0, g_r41_38 hs0, g_r41_39 hs0, g_a42 hs0, g_a43 hs0, g_a44 hs0, g_a45 hs0, g_a46 hs0, g_a47 hs0, g_a48 hs0, g_a49 hs0, g_a50 hs0, g_a51 hs0, g_a52 hs0, g_a53 hs0, g_a54 hs0, g_a55 hs0, g_a56 hs0, g_a57 hs0, g_a58 hs0, g_a59 hs0, g_a60 hs0, g_a61 hs0, g_a62 hs0, g_a63 hs0, g_a64 hs0, g_a65 hs0, hsx, hbx, hsc, hbc, ls, lb, tdb, mb, e192, hf, if_false, e171, h163, g_t41 (c2.sh hs0), h193]
end S78
