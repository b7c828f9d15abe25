/-! ===== the class's reader: one ===== -/
theorem tK_lt {w : x_W} {b : Nat → Nat} {n s : Nat} (hT : TPx w b n) : tK b n s < 400 := by
  unfold tK
  split
  · decide
  · split
    · split <;> omega
    · split
      · split <;> decide
      · split
        · have := (hT.2.2 s (by omega)).2; omega
        · decide
theorem spn_all (q : Nat → Bool) (b : Nat → Nat) : ∀ m p j, p ≤ j → j < spn q b m p → q (b j) = true := by
  intro m
  induction m with
  | zero => intro p j h1 h2; exact absurd h2 (Nat.not_lt.mpr h1)
  | succ m ih =>
    intro p j h1 h2
    unfold spn at h2
    by_cases h : q (b p) = true
    · rw [if_pos h] at h2
      by_cases hj : j = p
      · rw [hj]; exact h
      · exact ih (p + 1) j (by omega) h2
    · rw [if_neg h] at h2
      exact absurd h2 (Nat.not_lt.mpr h1)
theorem vN_le (b : Nat → Nat) (s : Nat) : ∀ k, (∀ j, s ≤ j → j < s + k → isDg (b j) = true) → vN b s k + 1 ≤ 10 ^ k := by
  intro k
  induction k with
  | zero => intro _; exact Nat.le_refl _
  | succ k ih =>
    intro h
    have h1 := ih (fun j a c => h j a (by omega))
    have h2 := h (s + k) (by omega) (by omega)
    unfold isDg at h2
    rw [Bool.and_eq_true, decide_eq_true_eq, decide_eq_true_eq] at h2
    unfold vN
    rw [Nat.pow_succ]
    omega
theorem vN_lt {b : Nat → Nat} {n s : Nat} (h256 : ∀ k, k < n → b k ≤ 255) (h : tK b n s = 300) : vN b s (tE b n s - s) < 10000 := by
  unfold tK at h
  by_cases h1 : n ≤ s
  · rw [if_pos h1] at h; exact absurd h (by decide)
  · rw [if_neg h1] at h
    have hE := tE_ge (b := b) (n := n) (s := s) (by omega)
    by_cases h2 : isLt (b s) = true
    · rw [if_pos h2] at h
      have := wdF_le b s (tE b n s) 12 0 rfl
      split at h <;> omega
    · rw [if_neg h2] at h
      by_cases h3 : isDg (b s) = true
      · rw [if_pos h3] at h
        by_cases h4 : tE b n s - s ≤ 4
        · have h5 := vN_le b s (tE b n s - s) (fun j a c => spn_all isDg b (n - s) s j a (by
            have e : tE b n s = spn isDg b (n - s) s := by unfold tE; rw [if_neg h1, if_neg h2, if_pos h3]
            rw [← e]; omega))
          have h6 : 10 ^ (tE b n s - s) ≤ 10 ^ 4 := Nat.pow_le_pow_right (by decide) h4
          have h7 : (10 : Nat) ^ 4 = 10000 := by decide
          omega
        · rw [if_neg h4] at h; exact absurd h (by decide)
      · rw [if_neg h3] at h
        have h9 := h256 s (by omega)
        split at h <;> omega
theorem sgO_rk {t : Nat} (h : sgO t ≠ 0) : 1 ≤ rk (sgO t) := by
  unfold sgO at *
  repeat' split
  all_goals first
    | decide
    | (exfalso; apply h; simp_all)
section S9994
variable {L : Nat} {xs : Nat → Int32} {d : Nat} {w : x_W} {b : Nat → Nat} {n s o : Nat} {out : List Nat}
/-- put down, then on -/
theorem POK.eadv (hs : ShT w) (hT : TPx w b n) (h : POK w b n s o out) (hlt : s < n) (t : Nat) : ∃ w2, Ch pP w w2 ∧ POK w2 b n (tN b n s) o (out ++ [t]) ∧ ∀ Q, X_R L xs (d + 6) 114 0 [.ref 1, x_junk] [] (x_si (x_si w 3 out.length (sxT t)) 1 3 (nI (out.length + 1))) Q = Q none w2 := by
  obtain ⟨⟨hsn, a5, a6, a7, a8⟩, h9, h10, h3, hk, hle, ho⟩ := h
  have c1 : Ch pP w (x_si (x_si w 3 out.length (sxT t)) 1 3 (nI (out.length + 1))) := Ch_emit
  have e : ∀ j, j ≠ 3 → x_i (x_si (x_si w 3 out.length (sxT t)) 1 3 (nI (out.length + 1))) 1 j = x_i w 1 j := fun j hj => by rw [si_o hj, x_i_sin _ _ _ _ (by decide)]
  obtain ⟨w2, c2, h2, e2⟩ := S114 (L := L) (xs := xs) (d := d) (c1.shT hs) (hT.ch c1 rfl (fun _ => rfl)) (show x_i (x_si (x_si w 3 out.length (sxT t)) 1 3 (nI (out.length + 1))) 1 7 = nI (tE b n s) by rw [e 7 (by decide)]; exact a7) (tE_ge hlt).2
  have hg := tN_gt (b := b) hlt
  refine ⟨w2, c1.trans (gp_up c2 rfl rfl), ⟨h2, ?_, ?_, ?_, ?_, ?_, ho⟩, e2⟩
  · rw [c2.2.2 1 9 rfl, e 9 (by decide)]; exact h9
  · rw [c2.2.2 1 10 rfl, e 10 (by decide)]; exact h10
  · rw [c2.2.2 1 3 rfl, si_s, List.length_append]; rfl
  · rw [c2.i (fun _ => rfl : ∀ k, pA 3 k = false), x_i_sin _ _ _ _ (by decide), x_i_si]
    intro k hk2
    rw [List.length_append] at hk2
    have hk3 : k < out.length + 1 := hk2
    rw [getD_snoc]
    by_cases hko : k < out.length
    · rw [if_pos hko, upd_o (by omega)]; exact hk k hko
    · rw [if_neg hko, if_pos (by omega), show k = out.length by omega, upd_s]
  · rw [List.length_append]; show out.length + 1 ≤ _; omega
theorem One_of (hOr : ∀ s2, s < s2 → Lv L xs b n 124 [x_junk] 5 1 1 W2 s2) (hOne : ∀ s2, s < s2 → One L xs b n s2) : One L xs b n s := by
  intro d o out w hd hs hT h
  obtain ⟨d', rfl⟩ : ∃ d', d = d' + 8 := ⟨d - 8, by omega⟩
  have a5 := h.1.2.1
  have h9 := h.2.1
  have h3 := h.2.2.2.1
  have hle := h.2.2.2.2.2.1
  have ho := h.2.2.2.2.2.2
  have h160 := hT.1
  have hK := tK_lt (s := s) hT
  have hsn := h.s_le
  by_cases k1 : tK b n s = 300
  · have hlt := tK_end hsn (by rw [k1]; decide)
    have hg := tN_gt (b := b) hlt
    have hv := vN_lt (fun k hk => (hT.2.2 k hk).2) k1
    have h8 := h.1.2.2.2.2 k1
    have e128 := fun (Q' : Option Value → x_W → Prop) => S128 (L := L) (xs := xs) (d := d' + 7) (Q := Q') hs h3 (by omega) (v := nI (vN b s (tE b n s - s)))
    obtain ⟨w2, c2, h2, e2⟩ := POK.eadv (L := L) (xs := xs) (d := d' + 1) hs hT h hlt (vN b s (tE b n s - s))
    have esx : sxT (vN b s (tE b n s - s)) = nI (vN b s (tE b n s - s)) := if_pos hv
    rw [esx] at e2
    rw [k1] at a5
    have hs1 : ShT (x_si (x_si w 3 out.length (nI (vN b s (tE b n s - s)))) 1 3 (nI (out.length + 1))) := (Ch_emit (w := w)).shT hs
    refine ⟨w2, c2, fun Q => ?_, Or.inr ⟨tN b n s, [vN b s (tE b n s - s)], h2, hg.1, by show 1 ≤ _; omega, wfL_opd (Or.inl hv), fun H om wt hc hw => ?_⟩⟩
    · simp only [X131_0, X131_1, X131_4, X131_7, X131_10, X131_11, X131_12, X131_15, X131_18, X131_19, X131_22, X131_147, Nat.zero_le, and_true, true_and, x_nb0, x_nb1, x_nbp, x_isL_int, x_isL_ref, x_isL_junk, x_isR_ref, x_cat_nil, x_cat_int, x_cat_ref, x_cat_long, Option.toList_some, Option.toList_none, List.cons_append, List.nil_append, Nat.reduceAdd, Nat.reduceLeDiff, Nat.reduceLT, t_tag_si, t_tag_sr, t_tag_sI, x_r_si, x_i_sr, t_r_sI, x_ia_si, x_ia_sI, x_ia_sr, x_ra_si, x_ra_sI, x_ra_sr, k_t1 hs, a5, if_true, h8, e128, k_t1 hs1, e2]
    · have hw0 : wt ≠ 0 := by rcases hw with z | ⟨z, _⟩ <;> omega
      exact Lds_s (mst_num hw0 k1)
  · have ek1 : (nI (tK b n s) = nI 300) = (tK b n s = 300) := nI_eqD (by omega) (by decide)
    by_cases k2 : 256 ≤ tK b n s ∧ tK b n s < 262
    · obtain ⟨i, hi⟩ : ∃ i, tK b n s = 256 + i := ⟨tK b n s - 256, by omega⟩
      have hi6 : i < 6 := by omega
      have hlt := tK_end hsn (by rw [hi]; omega)
      have hg := tN_gt (b := b) hlt
      have esx : sxT (10000 + i) = (-1) - nI i := by
        unfold sxT
        rw [if_neg (by omega), if_pos (by omega), Nat.add_sub_cancel_left]
      have e128 := fun (Q' : Option Value → x_W → Prop) => S128 (L := L) (xs := xs) (d := d' + 7) (Q := Q') hs h3 (by omega) (v := (-1) - nI i)
      obtain ⟨w2, c2, h2, e2⟩ := POK.eadv (L := L) (xs := xs) (d := d' + 1) hs hT h hlt (10000 + i)
      rw [esx] at e2
      rw [hi] at a5
      have hs1 : ShT (x_si (x_si w 3 out.length ((-1) - nI i)) 1 3 (nI (out.length + 1))) := (Ch_emit (w := w)).shT hs
      have esub : nI (256 + i) - nI 256 = nI i := by rw [nI_sub (by omega), Nat.add_sub_cancel_left]
      refine ⟨w2, c2, fun Q => ?_, Or.inr ⟨tN b n s, [10000 + i], h2, hg.1, by show 1 ≤ _; omega, wfL_opd (Or.inr (by omega)), fun H om wt hc hw => ?_⟩⟩
      · simp only [X131_0, X131_1, X131_4, X131_7, X131_25, X131_26, X131_29, X131_32, X131_35, X131_36, X131_39, X131_42, X131_45, X131_46, X131_47, X131_50, X131_53, X131_54, X131_57, X131_60, X131_61, X131_64, X131_147, Nat.zero_le, and_true, true_and, x_nb0, x_nb1, x_nbp, x_isL_int, x_isL_ref, x_isL_junk, x_isR_ref, x_cat_nil, x_cat_int, x_cat_ref, x_cat_long, Option.toList_some, Option.toList_none, List.cons_append, List.nil_append, Nat.reduceAdd, Nat.reduceLeDiff, Nat.reduceLT, t_tag_si, t_tag_sr, t_tag_sI, x_r_si, x_i_sr, t_r_sI, x_ia_si, x_ia_sI, x_ia_sr, x_ra_si, x_ra_sI, x_ra_sr, k_t1 hs, a5, nI_eqF (show 256 + i ≠ 300 by omega) (show 256 + i < 2 ^ 31 by omega) (by decide), nI_ltF (show 256 ≤ 256 + i by omega) (show 256 + i < 2 ^ 31 by omega), nI_leF (show 256 + i < 262 by omega) (by decide), if_false, esub, S79, e128, k_t1 hs1, e2]
      · have hw0 : wt ≠ 0 := by rcases hw with z | ⟨z, _⟩ <;> omega
        exact Lds_s (mst_name hw0 hi hi6)
    · by_cases k3 : tK b n s = 45
      · have hlt := tK_end hsn (by rw [k3]; decide)
        have hg := tN_gt (b := b) hlt
        rw [k3] at a5
        obtain ⟨w1, c1, h1, e1⟩ := S127 (L := L) (xs := xs) (d := d') hs hT h hlt
        have hs1 := c1.shT hs
        have hT1 := hT.ch c1 rfl (fun _ => rfl)
        by_cases ho5 : o < 5
        · rw [if_pos ho5] at h1
          obtain ⟨w2, c2, e2, hr⟩ := hOne (tN b n s) hg.1 (d' + 7) (o + 1) out w1 (by omega) hs1 hT1 h1
          have hs2 := c2.shT hs1
          rcases hr with ⟨f, hf, hm⟩ | ⟨s1, ext, hp, hss, hex, hwf, hm⟩
          · have c3 : Ch pP w2 (x_si w2 1 9 (x_i w2 1 9 - nI 1)) := Ch_si rfl
            obtain ⟨w4, c4, h4, e4⟩ := S128F (L := L) (xs := xs) (d := d' + 7) (v := (-6) - nI 303) (c3.shT hs2) hf.opn
            have hs3 := c3.shT hs2
            refine ⟨w4, ((c1.trans c2).trans c3).trans c4, fun Q => ?_, Or.inl ⟨f, h4, fun H om wt hc hw => ?_⟩⟩
            · simp only [X131_0, X131_1, X131_4, X131_7, X131_25, X131_26, X131_29, X131_32, X131_67, X131_68, X131_71, X131_73, X131_76, X131_77, X131_80, X131_81, X131_84, X131_85i, X131_85, X131_86, X131_89, X131_90, X131_91, X131_94, X131_95, X131_98, X131_101, X131_104, X131_147, Nat.zero_le, and_true, true_and, x_nb0, x_nb1, x_nbp, x_isL_int, x_isL_ref, x_isL_junk, x_isR_ref, x_cat_nil, x_cat_int, x_cat_ref, x_cat_long, Option.toList_some, Option.toList_none, List.cons_append, List.nil_append, Nat.reduceAdd, Nat.reduceLeDiff, Nat.reduceLT, t_tag_si, t_tag_sr, t_tag_sI, x_r_si, x_i_sr, t_r_sI, x_ia_si, x_ia_sI, x_ia_sr, x_ra_si, x_ra_sI, x_ra_sr, k_t1 hs, a5, nI_eqF (show 45 ≠ 300 by decide) (by decide) (by decide), nI_ltT (show 45 < 256 by decide) (by decide), if_false, if_true, e1, k_t1 hs1, e2, k_t1 hs2, S78, k_t1 hs3, e4]
            · have hw0 : wt ≠ 0 := by rcases hw with z | ⟨z, _⟩ <;> omega
              refine Rch_s (B := (19 :: H, om, tN b n s, 1)) ?_ (hm (19 :: H) om 1 (by show 1 + cnt H = o + 1; omega) (Or.inl rfl))
              rw [mst_neg hw0 k3, if_neg (by omega)]
          · have e19 : x_i w2 1 9 = nI (o + 1) := hp.2.1
            have hp3 := hp.shut
            have c3 : Ch pP w2 (x_si w2 1 9 (nI o)) := Ch_si rfl
            have hs3 := c3.shT hs2
            have hlen : (out ++ ext).length = out.length + ext.length := List.length_append
            have hs1n := hp.s_le
            have e128 := fun (Q' : Option Value → x_W → Prop) => S128 (L := L) (xs := xs) (d := d' + 7) (Q := Q') hs3 hp3.2.2.2.1 (by omega) (v := (-6) - nI 303)
            have hp4 := hp3.emit (t := 20019) (by omega)
            have esx : sxT 20019 = (-6) - nI 303 := rfl
            rw [esx] at hp4
            refine ⟨_, ((c1.trans c2).trans c3).trans Ch_emit, fun Q => ?_, Or.inr ⟨s1, ext ++ [20019], by rw [← List.append_assoc]; exact hp4, by omega, by rw [List.length_append]; show ext.length + 1 ≤ _; omega, wfL_un (c := 19) (Or.inr rfl) hwf, fun H om wt hc hw => ?_⟩⟩
            · simp only [X131_0, X131_1, X131_4, X131_7, X131_25, X131_26, X131_29, X131_32, X131_67, X131_68, X131_71, X131_73, X131_76, X131_77, X131_80, X131_81, X131_84, X131_85i, X131_85, X131_86, X131_89, X131_90, X131_91, X131_94, X131_95, X131_98, X131_101, X131_104, X131_147, Nat.zero_le, and_true, true_and, x_nb0, x_nb1, x_nbp, x_isL_int, x_isL_ref, x_isL_junk, x_isR_ref, x_cat_nil, x_cat_int, x_cat_ref, x_cat_long, Option.toList_some, Option.toList_none, List.cons_append, List.nil_append, Nat.reduceAdd, Nat.reduceLeDiff, Nat.reduceLT, t_tag_si, t_tag_sr, t_tag_sI, x_r_si, x_i_sr, t_r_sI, x_ia_si, x_ia_sI, x_ia_sr, x_ra_si, x_ra_sI, x_ra_sr, k_t1 hs, a5, nI_eqF (show 45 ≠ 300 by decide) (by decide) (by decide), nI_ltT (show 45 < 256 by decide) (by decide), if_false, if_true, e1, k_t1 hs1, e2, k_t1 hs2, e19, nI_sub (show 1 ≤ o + 1 by omega), Nat.add_sub_cancel, S78, k_t1 hs3, e128]
            · have hw0 : wt ≠ 0 := by rcases hw with z | ⟨z, _⟩ <;> omega
              have hm2 := hm (19 :: H) om 1 (by show 1 + cnt H = o + 1; omega) (Or.inl rfl)
              have eu : unw 7 (19 :: H) (om ++ ext) = unw 7 H (om ++ (ext ++ [20019])) := by
                rw [← List.append_assoc]
                conv => lhs; unfold unw
                rw [if_pos (by decide)]
              rw [eu] at hm2
              refine (Lds_s ?_).trans hm2
              rw [mst_neg hw0 k3, if_neg (by omega)]
        · rw [if_neg ho5] at h1
          obtain ⟨w2, c2, h2, e2⟩ := F131 (L := L) (xs := xs) (d := d' + 6) w1 s hs1 h1
          have hs2 := c2.shT hs1
          have c3 : Ch pP w2 (x_si w2 1 9 (x_i w2 1 9 - nI 1)) := Ch_si rfl
          obtain ⟨w4, c4, h4, e4⟩ := S128F (L := L) (xs := xs) (d := d' + 7) (v := (-6) - nI 303) (c3.shT hs2) h2.opn
          have hs3 := c3.shT hs2
          refine ⟨w4, ((c1.trans c2).trans c3).trans c4, fun Q => ?_, Or.inl ⟨s, h4, fun H om wt hc hw => ?_⟩⟩
          · simp only [X131_0, X131_1, X131_4, X131_7, X131_25, X131_26, X131_29, X131_32, X131_67, X131_68, X131_71, X131_73, X131_76, X131_77, X131_80, X131_81, X131_84, X131_85i, X131_85, X131_86, X131_89, X131_90, X131_91, X131_94, X131_95, X131_98, X131_101, X131_104, X131_147, Nat.zero_le, and_true, true_and, x_nb0, x_nb1, x_nbp, x_isL_int, x_isL_ref, x_isL_junk, x_isR_ref, x_cat_nil, x_cat_int, x_cat_ref, x_cat_long, Option.toList_some, Option.toList_none, List.cons_append, List.nil_append, Nat.reduceAdd, Nat.reduceLeDiff, Nat.reduceLT, t_tag_si, t_tag_sr, t_tag_sI, x_r_si, x_i_sr, t_r_sI, x_ia_si, x_ia_sI, x_ia_sr, x_ra_si, x_ra_sI, x_ra_sr, k_t1 hs, a5, nI_eqF (show 45 ≠ 300 by decide) (by decide) (by decide), nI_ltT (show 45 < 256 by decide) (by decide), if_false, if_true, e1, k_t1 hs1, e2, k_t1 hs2, S78, k_t1 hs3, e4]
          · have hw0 : wt ≠ 0 := by rcases hw with z | ⟨z, _⟩ <;> omega
            exact Rch_e (by rw [mst_neg hw0 k3, if_pos (by omega)])
      · have ek3 : (nI (tK b n s) = nI 45) = (tK b n s = 45) := nI_eqD (by omega) (by decide)
        by_cases k4 : tK b n s = 40
        · have hlt := tK_end hsn (by rw [k4]; decide)
          have hg := tN_gt (b := b) hlt
          rw [k4] at a5
          obtain ⟨w1, c1, h1, e1⟩ := S127 (L := L) (xs := xs) (d := d') hs hT h hlt
          have hs1 := c1.shT hs
          have hT1 := hT.ch c1 rfl (fun _ => rfl)
          by_cases ho5 : o < 5
          · rw [if_pos ho5] at h1
            obtain ⟨w2, c2, e2, hr⟩ := hOr (tN b n s) hg.1 (d' + 7) (o + 1) out w1 (by omega) hs1 hT1 h1
            have hs2 := c2.shT hs1
            have hT2 := hT1.ch c2 rfl (fun _ => rfl)
            rcases hr with ⟨f, hf, hm⟩ | ⟨s1, ext, hp, hss, hex, hwf, hend, hm⟩
            · obtain ⟨w3, c3, h3f, e3⟩ := S122F (L := L) (xs := xs) (d := d' + 6) (t := 41) hs2 hf (by decide) (by decide)
              have hs3 := c3.shT hs2
              refine ⟨x_si w3 1 9 (x_i w3 1 9 - nI 1), ((c1.trans c2).trans c3).trans (Ch_si rfl), fun Q => ?_, Or.inl ⟨f, h3f.opn, fun H om wt hc hw => ?_⟩⟩
              · simp only [X131_0, X131_1, X131_4, X131_7, X131_25, X131_26, X131_29, X131_32, X131_67, X131_68, X131_71, X131_73, X131_107, X131_108, X131_111, X131_113, X131_116, X131_117, X131_120, X131_121, X131_124, X131_125, X131_127, X131_130, X131_131i, X131_131, X131_132, X131_135, X131_136, X131_137, X131_140, X131_147, Nat.zero_le, and_true, true_and, x_nb0, x_nb1, x_nbp, x_isL_int, x_isL_ref, x_isL_junk, x_isR_ref, x_cat_nil, x_cat_int, x_cat_ref, x_cat_long, Option.toList_some, Option.toList_none, List.cons_append, List.nil_append, Nat.reduceAdd, Nat.reduceLeDiff, Nat.reduceLT, t_tag_si, t_tag_sr, t_tag_sI, x_r_si, x_i_sr, t_r_sI, x_ia_si, x_ia_sI, x_ia_sr, x_ra_si, x_ra_sI, x_ra_sr, k_t1 hs, a5, nI_eqF (show 40 ≠ 300 by decide) (by decide) (by decide), nI_ltT (show 40 < 256 by decide) (by decide), nI_eqF (show 40 ≠ 45 by decide) (by decide) (by decide), if_false, if_true, e1, k_t1 hs1, e2, k_t1 hs2, e3, k_t1 hs3]
              · have hw0 : wt ≠ 0 := by rcases hw with z | ⟨z, _⟩ <;> omega
                refine Rch_s (B := (0 :: H, om, tN b n s, 2)) ?_ (hm (0 :: H) om 2 (by show 1 + cnt H = o + 1; omega) (by show 0 < 1; omega) rfl)
                rw [mst_par hw0 k4, if_neg (by omega)]
            · obtain ⟨w3, c3, h3f, e3⟩ := S122 (L := L) (xs := xs) (d := d') (t := 41) hs2 hT2 hp (by decide) (by decide)
              have hs3 := c3.shT hs2
              have hs1n := hp.s_le
              have hmm : ∀ H om wt, cnt H = o → WT b n s wt → ∃ pend om', (∀ c, c ∈ pend → 1 ≤ rk c) ∧ om' ++ cds pend = om ++ ext ∧ Lds b n (H, om, s, wt) (pend ++ (0 :: H), om', s1, 0) ∧ unw 1 (pend ++ (0 :: H)) om' = (0 :: H, om ++ ext) ∧ (rk (sgO (tK b n s1)) = 4 → Rch b n (pend ++ (0 :: H), om', s1, 0) (.inr (.inl s1))) := by
                intro H om wt hc hw
                have hw0 : wt ≠ 0 := by rcases hw with z | ⟨z, _⟩ <;> omega
                obtain ⟨pend, om', q1, q2, q3, q4⟩ := hm (0 :: H) om 2 (by show 1 + cnt H = o + 1; omega) (by show 0 < 1; omega) rfl
                refine ⟨pend, om', q1, q2, (Lds_s ?_).trans q3, by rw [unw_app (show hdR (0 :: H) < 1 by show 0 < 1; omega) pend om' q1, q2], q4 (by decide)⟩
                rw [mst_par hw0 k4, if_neg (by omega)]
              by_cases k41 : tK b n s1 = 41
              · rw [if_pos k41] at h3f
                have hg3 := tN_gt (b := b) (tK_end hs1n (by rw [k41]; decide))
                have e19 : x_i w3 1 9 = nI (o + 1) := h3f.2.1
                refine ⟨x_si w3 1 9 (nI o), ((c1.trans c2).trans c3).trans (Ch_si rfl), fun Q => ?_, Or.inr ⟨tN b n s1, ext, h3f.shut, by omega, by omega, hwf, fun H om wt hc hw => ?_⟩⟩
                · simp only [X131_0, X131_1, X131_4, X131_7, X131_25, X131_26, X131_29, X131_32, X131_67, X131_68, X131_71, X131_73, X131_107, X131_108, X131_111, X131_113, X131_116, X131_117, X131_120, X131_121, X131_124, X131_125, X131_127, X131_130, X131_131i, X131_131, X131_132, X131_135, X131_136, X131_137, X131_140, X131_147, Nat.zero_le, and_true, true_and, x_nb0, x_nb1, x_nbp, x_isL_int, x_isL_ref, x_isL_junk, x_isR_ref, x_cat_nil, x_cat_int, x_cat_ref, x_cat_long, Option.toList_some, Option.toList_none, List.cons_append, List.nil_append, Nat.reduceAdd, Nat.reduceLeDiff, Nat.reduceLT, t_tag_si, t_tag_sr, t_tag_sI, x_r_si, x_i_sr, t_r_sI, x_ia_si, x_ia_sI, x_ia_sr, x_ra_si, x_ra_sI, x_ra_sr, k_t1 hs, a5, nI_eqF (show 40 ≠ 300 by decide) (by decide) (by decide), nI_ltT (show 40 < 256 by decide) (by decide), nI_eqF (show 40 ≠ 45 by decide) (by decide) (by decide), if_false, if_true, e1, k_t1 hs1, e2, k_t1 hs2, e3, k_t1 hs3, e19, nI_sub (show 1 ≤ o + 1 by omega), Nat.add_sub_cancel]
                · obtain ⟨pend, om', q1, q2, q3, q5, q4⟩ := hmm H om wt hc hw
                  exact q3.trans (Lds_s (mst_shut k41 q5))
              · rw [if_neg k41] at h3f
                refine ⟨x_si w3 1 9 (x_i w3 1 9 - nI 1), ((c1.trans c2).trans c3).trans (Ch_si rfl), fun Q => ?_, Or.inl ⟨s1, h3f.opn, fun H om wt hc hw => ?_⟩⟩
                · simp only [X131_0, X131_1, X131_4, X131_7, X131_25, X131_26, X131_29, X131_32, X131_67, X131_68, X131_71, X131_73, X131_107, X131_108, X131_111, X131_113, X131_116, X131_117, X131_120, X131_121, X131_124, X131_125, X131_127, X131_130, X131_131i, X131_131, X131_132, X131_135, X131_136, X131_137, X131_140, X131_147, Nat.zero_le, and_true, true_and, x_nb0, x_nb1, x_nbp, x_isL_int, x_isL_ref, x_isL_junk, x_isR_ref, x_cat_nil, x_cat_int, x_cat_ref, x_cat_long, Option.toList_some, Option.toList_none, List.cons_append, List.nil_append, Nat.reduceAdd, Nat.reduceLeDiff, Nat.reduceLT, t_tag_si, t_tag_sr, t_tag_sI, x_r_si, x_i_sr, t_r_sI, x_ia_si, x_ia_sI, x_ia_sr, x_ra_si, x_ra_sI, x_ra_sr, k_t1 hs, a5, nI_eqF (show 40 ≠ 300 by decide) (by decide) (by decide), nI_ltT (show 40 < 256 by decide) (by decide), nI_eqF (show 40 ≠ 45 by decide) (by decide) (by decide), if_false, if_true, e1, k_t1 hs1, e2, k_t1 hs2, e3, k_t1 hs3]
                · obtain ⟨pend, om', q1, q2, q3, q5, q4⟩ := hmm H om wt hc hw
                  apply q3
                  by_cases k59 : tK b n s1 = 59
                  · exact Rch_e (by rw [mst_end k59 q5, if_neg (List.cons_ne_nil _ _)])
                  · by_cases k0 : sgO (tK b n s1) = 0
                    · exact Rch_e (mst_nop k59 k41 k0)
                    · rcases hend with z | z | ⟨_, z⟩
                      · exact absurd z k0
                      · exact absurd z (Nat.not_lt.mpr (sgO_rk k0))
                      · exact q4 z
          · rw [if_neg ho5] at h1
            obtain ⟨w2, c2, h2, e2⟩ := F124 (L := L) (xs := xs) (d := d' + 1) w1 s hs1 h1
            have hs2 := c2.shT hs1
            obtain ⟨w3, c3, h3f, e3⟩ := S122F (L := L) (xs := xs) (d := d' + 6) (t := 41) hs2 h2 (by decide) (by decide)
            have hs3 := c3.shT hs2
            refine ⟨x_si w3 1 9 (x_i w3 1 9 - nI 1), ((c1.trans c2).trans c3).trans (Ch_si rfl), fun Q => ?_, Or.inl ⟨s, h3f.opn, fun H om wt hc hw => ?_⟩⟩
            · simp only [X131_0, X131_1, X131_4, X131_7, X131_25, X131_26, X131_29, X131_32, X131_67, X131_68, X131_71, X131_73, X131_107, X131_108, X131_111, X131_113, X131_116, X131_117, X131_120, X131_121, X131_124, X131_125, X131_127, X131_130, X131_131i, X131_131, X131_132, X131_135, X131_136, X131_137, X131_140, X131_147, Nat.zero_le, and_true, true_and, x_nb0, x_nb1, x_nbp, x_isL_int, x_isL_ref, x_isL_junk, x_isR_ref, x_cat_nil, x_cat_int, x_cat_ref, x_cat_long, Option.toList_some, Option.toList_none, List.cons_append, List.nil_append, Nat.reduceAdd, Nat.reduceLeDiff, Nat.reduceLT, t_tag_si, t_tag_sr, t_tag_sI, x_r_si, x_i_sr, t_r_sI, x_ia_si, x_ia_sI, x_ia_sr, x_ra_si, x_ra_sI, x_ra_sr, k_t1 hs, a5, nI_eqF (show 40 ≠ 300 by decide) (by decide) (by decide), nI_ltT (show 40 < 256 by decide) (by decide), nI_eqF (show 40 ≠ 45 by decide) (by decide) (by decide), if_false, if_true, e1, k_t1 hs1, e2, k_t1 hs2, e3, k_t1 hs3]
            · have hw0 : wt ≠ 0 := by rcases hw with z | ⟨z, _⟩ <;> omega
              exact Rch_e (by rw [mst_par hw0 k4, if_pos (by omega)])
        · have ek4 : (nI (tK b n s) = nI 40) = (tK b n s = 40) := nI_eqD (by omega) (by decide)
          obtain ⟨w2, c2, h2, e2⟩ := S123 (L := L) (xs := xs) (d := d' + 7) hs hT.1 h
          refine ⟨w2, c2, fun Q => ?_, Or.inl ⟨s, h2, fun H om wt hc hw => ?_⟩⟩
          · by_cases k5 : tK b n s < 256
            · simp only [X131_0, X131_1, X131_4, X131_7, X131_25, X131_26, X131_29, X131_32, X131_67, X131_68, X131_71, X131_73, X131_107, X131_108, X131_111, X131_113, X131_143, X131_144, X131_147, Nat.zero_le, and_true, true_and, x_nb0, x_nb1, x_nbp, x_isL_int, x_isL_ref, x_isL_junk, x_isR_ref, x_cat_nil, x_cat_int, x_cat_ref, x_cat_long, Option.toList_some, Option.toList_none, List.cons_append, List.nil_append, Nat.reduceAdd, Nat.reduceLeDiff, Nat.reduceLT, t_tag_si, t_tag_sr, t_tag_sI, x_r_si, x_i_sr, t_r_sI, x_ia_si, x_ia_sI, x_ia_sr, x_ra_si, x_ra_sI, x_ra_sr, k_t1 hs, a5, ek1, eq_false k1, nI_ltT k5 (by decide), ek3, eq_false k3, ek4, eq_false k4, if_false, if_true, e2]
            · simp only [X131_0, X131_1, X131_4, X131_7, X131_25, X131_26, X131_29, X131_32, X131_35, X131_36, X131_39, X131_42, X131_67, X131_68, X131_71, X131_73, X131_107, X131_108, X131_111, X131_113, X131_143, X131_144, X131_147, Nat.zero_le, and_true, true_and, x_nb0, x_nb1, x_nbp, x_isL_int, x_isL_ref, x_isL_junk, x_isR_ref, x_cat_nil, x_cat_int, x_cat_ref, x_cat_long, Option.toList_some, Option.toList_none, List.cons_append, List.nil_append, Nat.reduceAdd, Nat.reduceLeDiff, Nat.reduceLT, t_tag_si, t_tag_sr, t_tag_sI, x_r_si, x_i_sr, t_r_sI, x_ia_si, x_ia_sI, x_ia_sr, x_ra_si, x_ra_sI, x_ra_sr, k_t1 hs, a5, ek1, eq_false k1, nI_ltF (Nat.not_lt.mp k5) (show tK b n s < 2 ^ 31 by omega), nI_leT (show 262 ≤ tK b n s by omega) (show tK b n s < 2 ^ 31 by omega), ek3, eq_false k3, ek4, eq_false k4, if_false, if_true, e2]
          · have hw0 : wt ≠ 0 := by rcases hw with z | ⟨z, _⟩ <;> omega
            exact Rch_e (mst_bad hw0 k1 k2 (fun z => by rcases hw with q | ⟨_, q⟩ <;> omega) k3 k4)
end S9994
