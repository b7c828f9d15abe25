/-! ===== the reference's reader: its loop runs the machine ===== -/
section S99998
variable {L : Nat} {xs : Nat → Int32} {b : Nat → Nat} {n : Nat} {d : Nat} {w : x_W} {Q : Option Value → x_W → Prop} {nt : Nat}
theorem AtM.chU {w1 : x_W} {s : Nat} (h : AtM w b n s) (hc : Ch (pU nt) w w1) : AtM w1 b n s := by
  unfold AtM at *
  rw [hc.2.2 41 23 rfl, hc.2.2 41 24 rfl, hc.2.2 41 25 rfl, hc.2.2 41 26 rfl]
  exact h
theorem S143l (hs0 : Sh w) (hT0 : TPm w b n) : ∀ k H out s wt R, mrun b n k (H, out, s, wt) = .inr R → ∀ p q w1 v3, Ch (pQ nt) w w1 → p ≤ n → tS b n p = s → x_i w1 41 23 = nI p → MH w1 nt H out → H.length + out.length ≤ p → wt ≤ 2 → (wt ≠ 0 → q = if wt = 2 then 1 else 0) → x_isL v3 = false → ∃ w2, Ch (pQ nt) w1 w2 ∧ rsM w2 b n nt R ∧ ∀ Q, X_R L xs (d + 3) 143 14 [.ref 41, .int (nI (if wt = 0 then 0 else 1)), .int (nI q), v3] [] w1 Q = Q (some (.int (rsA R))) w2 := by
  intro k
  induction k with
  | zero =>
    intro H out s wt R hR
    exact absurd (show Sum.inl (H, out, s, wt) = Sum.inr R from hR) (by intro z; cases z)
  | succ k ih =>
    intro H out s wt R hR p q w1 v3 c1 hpn hps h23 hM hlen hwt hq hv3
    have hs1 := c1.sh hs0
    have hT1 : TPm w1 b n := hT0.ch c1 rfl (fun _ => rfl) (fun _ => rfl)
    have h160 := hT1.1
    have hg := tS_ge (b := b) hpn
    obtain ⟨w2, c2, hA, e2⟩ := S141 (L := L) (xs := xs) (d := d) hs1 hT1 h23 hpn
    rw [hps] at hA hg
    have hs2 := c2.sh hs1
    have hM2 := hM.chM c2
    have hnt := hM.1
    obtain ⟨ht, ht3⟩ := tK_tok (s := s) hT1
    have t1 := propext (tok_1 _ ht3 ht)
    have t2 := propext (tok_2 _ ht3 ht)
    have t6 := propext (tok_6 _ ht3 ht)
    have t45 := propext (tok_45 _ ht3 ht)
    have t40 := propext (tok_40 _ ht3 ht)
    have t59 := propext (tok_59 _ ht3 ht)
    have t41 := propext (tok_41 _ ht3 ht)
    have tsg := sgV_tok _ ht3 ht
    have hop := sgO_op _ ht3
    obtain ⟨a0, a25, a24, a23, a26⟩ := hA
    have hA' : AtM w2 b n s := ⟨a0, a25, a24, a23, a26⟩
    have cQ : Ch (pQ nt) w1 w2 := ChM c2
    have hfault : ∀ {w5 : x_W}, Ch (pU nt) w2 w5 → rsM w5 b n nt (.inl s) := fun {w5} c5 => ⟨(c5.2.2 41 24 rfl).trans a24, (c5.2.2 41 11 rfl).trans hM2.2.1⟩
    have hlt : tK b n s ≠ 301 → s < n := fun z => tK_end hg.2 z
    have hgo : ∀ {H' out' : List Nat} {wt' q' : Nat} {w5 : x_W} {v : Value}, s < n → mrun b n k (H', out', tN b n s, wt') = .inr R → Ch (pU nt) w2 w5 → MH w5 nt H' out' → H'.length + out'.length ≤ H.length + out.length + 1 → wt' ≤ 2 → (wt' ≠ 0 → q' = if wt' = 2 then 1 else 0) → x_isL v = false → ∃ w6, Ch (pQ nt) w1 w6 ∧ rsM w6 b n nt R ∧ ∀ Q, X_R L xs (d + 3) 143 14 [.ref 41, .int (nI (if wt' = 0 then 0 else 1)), .int (nI q'), v] [] w5 Q = Q (some (.int (rsA R))) w6 := by
      intro H' out' wt' q' w5 v hsn hr c5 h5 hl5 hw5 hq5 hv5
      have hE := tE_ge (b := b) hsn
      obtain ⟨w6, c6, h6, e6⟩ := ih H' out' (tN b n s) wt' R hr (tE b n s) q' w5 v ((c1.trans cQ).trans (ChU c5)) hE.2 rfl ((c5.2.2 41 23 rfl).trans a23) h5 (by omega) hw5 hq5 hv5
      exact ⟨w6, (cQ.trans (ChU c5)).trans c6, h6, e6⟩
    have e01 : (nI 1 = nI 0) = False := eq_false n10
    by_cases hw0 : wt = 0
    · subst hw0
      rw [if_pos rfl]
      by_cases k59 : tK b n s = 59
      · have hsn := hlt (by omega)
        obtain ⟨w3, c3, h323, h3, e3⟩ := S145 (L := L) (xs := xs) (d := d + 1) (nt := nt) (r := 1) (by decide) (by decide) H out w2 x_junk rfl hs2 hM2
        have hs3 := c3.sh hs2
        have hm := mst_end (H := H) (out := out) k59 (show unw 1 H out = ((unw 1 H out).1, (unw 1 H out).2) from rfl)
        have hl3 := unw_len 1 H out
        have eh := h3.2.2.1
        generalize hU : (unw 1 H out).1 = U at *
        cases U with
        | nil =>
          rw [if_pos rfl] at hm
          have hRe := mrun_r hm hR
          subst hRe
          have eh0 : x_i w3 41 29 = nI 0 := eh
          have hE := tE_ge (b := b) hsn
          have hl4 : (unw 1 H out).2.length ≤ tE b n s := by
            have : ([] : List Nat).length = 0 := rfl
            omega
          refine ⟨w3, cQ.trans (ChU c3), ⟨hA'.chU c3, h3, hsn, hl4⟩, fun Q => ?_⟩
          rw [X143_14]
          simp only [X143_15, X143_18, X143_19, X143_150, X143_151, X143_154, X143_156, X143_159, X143_160, X143_161, X143_164, X143_165, X143_168, X143_171, X143_172, X143_176, Nat.zero_le, and_true, true_and, x_nb0, x_nb1, x_nbp, x_isL_int, x_isL_ref, x_isL_junk, x_isR_ref, x_cat_nil, x_cat_int, x_cat_ref, x_cat_long, Option.toList_some, Option.toList_none, List.cons_append, List.nil_append, Nat.reduceAdd, Nat.reduceLeDiff, Nat.reduceLT, t_tag_si, t_tag_sr, t_tag_sI, x_r_si, x_i_sr, t_r_sI, x_ia_si, x_ia_sI, x_ia_sr, x_ra_si, x_ra_sI, x_ra_sr, e2, if_true, g_t41 hs1, g_t41 hs2, a25, t59, eq_true k59, ne_eq, not_true_eq_false, if_false, e3, g_t41 hs3, eh0]
          rfl
        | cons c U =>
          rw [if_neg (by intro z; cases z)] at hm
          have hRe := mrun_r hm hR
          subst hRe
          have eh0 : (x_i w3 41 29 = nI 0) = False := by rw [eh]; exact nI_eqF (Nat.succ_ne_zero _) (by omega) (by decide)
          refine ⟨w3, cQ.trans (ChU c3), hfault c3, fun Q => ?_⟩
          rw [X143_14]
          simp only [X143_15, X143_18, X143_19, X143_150, X143_151, X143_154, X143_156, X143_159, X143_160, X143_161, X143_164, X143_165, X143_168, X143_175, X143_176, Nat.zero_le, and_true, true_and, x_nb0, x_nb1, x_nbp, x_isL_int, x_isL_ref, x_isL_junk, x_isR_ref, x_cat_nil, x_cat_int, x_cat_ref, x_cat_long, Option.toList_some, Option.toList_none, List.cons_append, List.nil_append, Nat.reduceAdd, Nat.reduceLeDiff, Nat.reduceLT, t_tag_si, t_tag_sr, t_tag_sI, x_r_si, x_i_sr, t_r_sI, x_ia_si, x_ia_sI, x_ia_sr, x_ra_si, x_ra_sI, x_ra_sr, e2, if_true, g_t41 hs1, g_t41 hs2, a25, t59, eq_true k59, ne_eq, not_true_eq_false, not_false_eq_true, if_false, e3, g_t41 hs3, eh0]
          rfl
      by_cases k41 : tK b n s = 41
      · have hsn := hlt (by omega)
        obtain ⟨w3, c3, h323, h3, e3⟩ := S145 (L := L) (xs := xs) (d := d + 1) (nt := nt) (r := 1) (by decide) (by decide) H out w2 x_junk rfl hs2 hM2
        have hs3 := c3.sh hs2
        have hm := mst_shut (H := H) (out := out) k41 (show unw 1 H out = ((unw 1 H out).1, (unw 1 H out).2) from rfl)
        have hl3 := unw_len 1 H out
        have eh := h3.2.2.1
        have ec := h3.2.2.2.1
        have hhd := unw_hd 1 H out
        generalize hU : (unw 1 H out).1 = U at *
        cases U with
        | nil =>
          have hRe := mrun_r hm hR
          subst hRe
          have eh0 : x_i w3 41 29 = nI 0 := eh
          refine ⟨w3, cQ.trans (ChU c3), hfault c3, fun Q => ?_⟩
          rw [X143_14]
          simp only [X143_15, X143_18, X143_19, X143_150, X143_151, X143_154, X143_156, X143_177, X143_178, X143_181, X143_183, X143_186, X143_187, X143_188, X143_191, X143_192, X143_195, X143_198, X143_199, Nat.zero_le, and_true, true_and, x_nb0, x_nb1, x_nbp, x_isL_int, x_isL_ref, x_isL_junk, x_isR_ref, x_cat_nil, x_cat_int, x_cat_ref, x_cat_long, Option.toList_some, Option.toList_none, List.cons_append, List.nil_append, Nat.reduceAdd, Nat.reduceLeDiff, Nat.reduceLT, t_tag_si, t_tag_sr, t_tag_sI, x_r_si, x_i_sr, t_r_sI, x_ia_si, x_ia_sI, x_ia_sr, x_ra_si, x_ra_sI, x_ra_sr, e2, if_true, g_t41 hs1, g_t41 hs2, a25, t59, t41, eq_false k59, eq_true k41, ne_eq, not_true_eq_false, not_false_eq_true, if_false, e3, g_t41 hs3, eh0]
          rfl
        | cons c U =>
          have hc19 := h3.2.2.2.2.2.2.2.1 c (List.mem_cons_self ..)
          have hrc := hhd c U rfl
          have hc0 : c = 0 := (by decide : ∀ c, c < 20 → rk c < 1 → c = 0) c (by omega) hrc
          have hlc : (c :: U).length = U.length + 1 := rfl
          have ecn : cnt (c :: U) = cnt U + 1 := by
            show (if c = 0 ∨ c = 13 ∨ c = 19 then 1 else 0) + cnt U = _
            rw [if_pos (Or.inl hc0), Nat.add_comm]
          rw [hlc] at eh hl3
          rw [ecn] at ec
          have hcu := cnt_le U
          have ca : Ch (pU nt) w3 (x_si w3 41 29 (nI U.length)) := Ch_si rfl
          have cb : Ch (pU nt) w3 (x_si (x_si w3 41 29 (nI U.length)) 41 30 (nI (cnt U))) := ca.trans (Ch_si rfl)
          have hsa := ca.sh hs3
          have hsb := cb.sh hs3
          have eca : x_i (x_si w3 41 29 (nI U.length)) 41 30 = nI (cnt U + 1) := (si_o (by decide)).trans ec
          obtain ⟨w4, c4, h423, h4, e4⟩ := S145 (L := L) (xs := xs) (d := d + 1) (nt := nt) (r := 7) (by decide) (by decide) U _ _ x_junk rfl hsb h3.pop
          have hl4 := unw_len 7 U (unw 1 H out).2
          obtain ⟨w5, c5, h5, e5⟩ := hgo (q' := q) (v := v3) hsn (mrun_l hm hR) ((c3.trans cb).trans c4) h4 (by omega) (by decide) (fun z => absurd rfl z) hv3
          refine ⟨w5, c5, h5, fun Q => ?_⟩
          rw [← e5 Q, if_pos rfl, X143_14]
          have esu : nI (U.length + 1) - nI 1 = nI U.length := nI_sub (show 1 ≤ U.length + 1 by omega)
          have esc : nI (cnt U + 1) - nI 1 = nI (cnt U) := nI_sub (show 1 ≤ cnt U + 1 by omega)
          simp only [X143_15, X143_18, X143_19, X143_150, X143_151, X143_154, X143_156, X143_177, X143_178, X143_181, X143_183, X143_186, X143_187, X143_188, X143_191, X143_192, X143_195, X143_200, X143_201i, X143_201, X143_202, X143_205, X143_206, X143_207, X143_210, X143_211i, X143_211, X143_212, X143_215, X143_216, X143_217, X143_220, X143_221, X143_223, X143_226, Nat.zero_le, and_true, true_and, x_nb0, x_nb1, x_nbp, x_isL_int, x_isL_ref, x_isL_junk, x_isR_ref, x_cat_nil, x_cat_int, x_cat_ref, x_cat_long, Option.toList_some, Option.toList_none, List.cons_append, List.nil_append, Nat.reduceAdd, Nat.reduceLeDiff, Nat.reduceLT, t_tag_si, t_tag_sr, t_tag_sI, x_r_si, x_i_sr, t_r_sI, x_ia_si, x_ia_sI, x_ia_sr, x_ra_si, x_ra_sI, x_ra_sr, e2, if_true, g_t41 hs1, g_t41 hs2, a25, t59, t41, eq_false k59, eq_true k41, ne_eq, not_true_eq_false, not_false_eq_true, if_false, e3, g_t41 hs3, eh, nI_eqF (Nat.succ_ne_zero U.length) (show U.length + 1 < 2 ^ 31 by omega) (show 0 < 2 ^ 31 by decide), esu, g_t41 hsa, eca, esc, e4]
      have e149 := fun (Q' : Option Value → x_W → Prop) => S149 (L := L) (xs := xs) (d := d + 2) (Q := Q') hs2 a25
      rw [tsg] at e149
      by_cases k0 : sgO (tK b n s) = 0
      · rw [if_pos k0] at e149
        have hRe := mrun_r (mst_nop (H := H) (out := out) k59 k41 k0) hR
        subst hRe
        refine ⟨w2, cQ, hfault Ch.refl, fun Q => ?_⟩
        rw [X143_14]
        simp only [X143_15, X143_18, X143_19, X143_150, X143_151, X143_154, X143_156, X143_177, X143_178, X143_181, X143_183, X143_229, X143_230, X143_233, X143_234, X143_235, X143_236, X143_247, X143_248, Nat.zero_le, and_true, true_and, x_nb0, x_nb1, x_nbp, x_isL_int, x_isL_ref, x_isL_junk, x_isR_ref, x_cat_nil, x_cat_int, x_cat_ref, x_cat_long, Option.toList_some, Option.toList_none, List.cons_append, List.nil_append, Nat.reduceAdd, Nat.reduceLeDiff, Nat.reduceLT, t_tag_si, t_tag_sr, t_tag_sI, x_r_si, x_i_sr, t_r_sI, x_ia_si, x_ia_sI, x_ia_sr, x_ra_si, x_ra_sI, x_ra_sr, hv3, e2, if_true, g_t41 hs1, g_t41 hs2, a25, t59, t41, eq_false k59, eq_false k41, ne_eq, not_false_eq_true, if_false, e149]
        rfl
      · rw [if_neg k0] at e149
        have hsn : s < n := hlt (fun z => k0 (by rw [z]; rfl))
        have hsgop := hop k0
        have hsg19 : sgO (tK b n s) ≤ 18 := by unfold isop at hsgop; omega
        have em1 : (nI (sgO (tK b n s)) = -1) = False := nI_M1 (by omega)
        obtain ⟨w3, c3, h3⟩ := S150 (L := L) (xs := xs) (d := d) (nt := nt) (c := sgO (tK b n s)) hs2 hM2 hsgop (by omega) rfl
        by_cases hst : rk (sgO (tK b n s)) = 4 ∧ hdR (unw 5 H out).1 = 4
        · rw [if_pos hst] at h3
          have hRe := mrun_r (mst_stuck rfl hst.1 hst.2) hR
          subst hRe
          refine ⟨w3, cQ.trans (ChU c3), hfault c3, fun Q => ?_⟩
          rw [X143_14]
          simp only [X143_15, X143_18, X143_19, X143_150, X143_151, X143_154, X143_156, X143_177, X143_178, X143_181, X143_183, X143_229, X143_230, X143_233, X143_234, X143_235, X143_236, X143_239, X143_240, X143_241, X143_244, X143_247, X143_248, Nat.zero_le, and_true, true_and, x_nb0, x_nb1, x_nbp, x_isL_int, x_isL_ref, x_isL_junk, x_isR_ref, x_cat_nil, x_cat_int, x_cat_ref, x_cat_long, Option.toList_some, Option.toList_none, List.cons_append, List.nil_append, Nat.reduceAdd, Nat.reduceLeDiff, Nat.reduceLT, t_tag_si, t_tag_sr, t_tag_sI, x_r_si, x_i_sr, t_r_sI, x_ia_si, x_ia_sI, x_ia_sr, x_ra_si, x_ra_sI, x_ra_sr, hv3, e2, if_true, g_t41 hs1, g_t41 hs2, a25, t59, t41, eq_false k59, eq_false k41, ne_eq, not_true_eq_false, not_false_eq_true, if_false, e149, em1, h3]
          rfl
        · rw [if_neg hst] at h3
          obtain ⟨hM3, e3⟩ := h3
          have hl3 := unw_len (if rk (sgO (tK b n s)) = 4 then 5 else rk (sgO (tK b n s))) H out
          have hm := mst_op (H := H) (out := out) (s := s) (b := b) (n := n) rfl k0 hst rfl (show unw (if rk (sgO (tK b n s)) = 4 then 5 else rk (sgO (tK b n s))) H out = ((unw (if rk (sgO (tK b n s)) = 4 then 5 else rk (sgO (tK b n s))) H out).1, (unw (if rk (sgO (tK b n s)) = 4 then 5 else rk (sgO (tK b n s))) H out).2) from rfl) rfl
          by_cases h12 : sgO (tK b n s) ≤ 12
          · rw [if_pos h12] at hm
            obtain ⟨w5, c5, h5, e5⟩ := hgo (q' := 1) (v := .int (nI (sgO (tK b n s)))) hsn (mrun_l hm hR) c3 hM3 (by rw [List.length_cons]; omega) (by decide) (fun _ => rfl) rfl
            refine ⟨w5, c5, h5, fun Q => ?_⟩
            rw [← e5 Q, if_neg (by decide), X143_14]
            simp only [X143_15, X143_18, X143_19, X143_150, X143_151, X143_154, X143_156, X143_177, X143_178, X143_181, X143_183, X143_229, X143_230, X143_233, X143_234, X143_235, X143_236, X143_239, X143_240, X143_241, X143_244, X143_249, X143_250, X143_251, X143_252, X143_254, X143_257, X143_258, X143_262, X143_263, Nat.zero_le, and_true, true_and, x_nb0, x_nb1, x_nbp, x_isL_int, x_isL_ref, x_isL_junk, x_isR_ref, x_cat_nil, x_cat_int, x_cat_ref, x_cat_long, Option.toList_some, Option.toList_none, List.cons_append, List.nil_append, Nat.reduceAdd, Nat.reduceLeDiff, Nat.reduceLT, t_tag_si, t_tag_sr, t_tag_sI, x_r_si, x_i_sr, t_r_sI, x_ia_si, x_ia_sI, x_ia_sr, x_ra_si, x_ra_sI, x_ra_sr, hv3, e2, if_true, g_t41 hs1, g_t41 hs2, a25, t59, t41, eq_false k59, eq_false k41, ne_eq, not_true_eq_false, not_false_eq_true, if_false, e149, em1, e3, n10, nI_ltF h12 (show 12 < 2 ^ 31 by decide)]
          · rw [if_neg h12] at hm
            obtain ⟨w5, c5, h5, e5⟩ := hgo (q' := 0) (v := .int (nI (sgO (tK b n s)))) hsn (mrun_l hm hR) c3 hM3 (by rw [List.length_cons]; omega) (by decide) (fun _ => rfl) rfl
            refine ⟨w5, c5, h5, fun Q => ?_⟩
            rw [← e5 Q, if_neg (by decide), X143_14]
            simp only [X143_15, X143_18, X143_19, X143_150, X143_151, X143_154, X143_156, X143_177, X143_178, X143_181, X143_183, X143_229, X143_230, X143_233, X143_234, X143_235, X143_236, X143_239, X143_240, X143_241, X143_244, X143_249, X143_250, X143_251, X143_252, X143_254, X143_261, X143_262, X143_263, Nat.zero_le, and_true, true_and, x_nb0, x_nb1, x_nbp, x_isL_int, x_isL_ref, x_isL_junk, x_isR_ref, x_cat_nil, x_cat_int, x_cat_ref, x_cat_long, Option.toList_some, Option.toList_none, List.cons_append, List.nil_append, Nat.reduceAdd, Nat.reduceLeDiff, Nat.reduceLT, t_tag_si, t_tag_sr, t_tag_sI, x_r_si, x_i_sr, t_r_sI, x_ia_si, x_ia_sI, x_ia_sr, x_ra_si, x_ra_sI, x_ra_sr, hv3, e2, if_true, g_t41 hs1, g_t41 hs2, a25, t59, t41, eq_false k59, eq_false k41, ne_eq, not_true_eq_false, not_false_eq_true, if_false, e149, em1, e3, n10, nI_ltT (Nat.not_le.mp h12) (show sgO (tK b n s) < 2 ^ 31 by omega)]
    · rw [if_neg hw0]
      have hq := hq hw0
      by_cases k300 : tK b n s = 300
      · have hsn := hlt (by omega)
        have hval : x_i w2 41 26 = nI (vN b s (tE b n s - s)) := by
          rw [a26 (by omega) (Or.inr k300)]
          unfold mVal
          rw [if_pos k300]
        have hvl := vN_lt (b := b) (n := n) (s := s) (fun j hj => (hT1.2.2.1 j hj).2) k300
        obtain ⟨w3, w4, hs3, c4, h4, e3, e4⟩ := opdM (L := L) (xs := xs) (d := d) (t := vN b s (tE b n s - s)) (v := nI (100000 + vN b s (tE b n s - s))) hs2 hM2 (by unfold smT; rw [if_pos hvl]) (by omega)
        have hl4 := unw_len 7 H (out ++ [vN b s (tE b n s - s)])
        rw [List.length_append] at hl4
        have hl1 : [vN b s (tE b n s - s)].length = 1 := rfl
        obtain ⟨w5, c5, h5, e5⟩ := hgo (q' := q) (v := v3) hsn (mrun_l (mst_num hw0 k300) hR) c4 h4 (by omega) (by decide) (fun z => absurd rfl z) hv3
        refine ⟨w5, c5, h5, fun Q => ?_⟩
        rw [← e5 Q, if_pos rfl, X143_14]
        simp only [X143_15, X143_18, X143_19, X143_22, X143_23, X143_26, X143_27, X143_38, X143_39, X143_40, X143_43, X143_44, X143_47, X143_49, X143_50, X143_53, X143_54, X143_61, X143_64, X143_65, X143_67, X143_70, X143_71, X143_72, Nat.zero_le, and_true, true_and, x_nb0, x_nb1, x_nbp, x_isL_int, x_isL_ref, x_isL_junk, x_isR_ref, x_cat_nil, x_cat_int, x_cat_ref, x_cat_long, Option.toList_some, Option.toList_none, List.cons_append, List.nil_append, Nat.reduceAdd, Nat.reduceLeDiff, Nat.reduceLT, t_tag_si, t_tag_sr, t_tag_sI, x_r_si, x_i_sr, t_r_sI, x_ia_si, x_ia_sI, x_ia_sr, x_ra_si, x_ra_sI, x_ra_sr, e2, e01, if_true, g_t41 hs1, g_t41 hs2, a25, t1, eq_true k300, ne_eq, not_true_eq_false, not_false_eq_true, if_false, hval, nI_add, e3, e4, g_t41 hs3]
      by_cases k256 : 256 ≤ tK b n s ∧ tK b n s < 262
      · have hsn := hlt (by omega)
        have hval : x_i w2 41 26 = nI (tK b n s - 256) := by
          rw [a26 k256.1 (Or.inl (by omega))]
          unfold mVal
          rw [if_neg k300, if_pos k256]
        obtain ⟨w3, w4, hs3, c4, h4, e3, e4⟩ := opdM (L := L) (xs := xs) (d := d) (t := 10000 + (tK b n s - 256)) (v := nI (tK b n s - 256)) hs2 hM2 (by unfold smT; rw [if_neg (by omega), if_pos (by omega), Nat.add_sub_cancel_left]) (by omega)
        have hl4 := unw_len 7 H (out ++ [10000 + (tK b n s - 256)])
        rw [List.length_append] at hl4
        have hl1 : [10000 + (tK b n s - 256)].length = 1 := rfl
        obtain ⟨w5, c5, h5, e5⟩ := hgo (q' := q) (v := v3) hsn (mrun_l (mst_name (i := tK b n s - 256) hw0 (by omega) (by omega)) hR) c4 h4 (by omega) (by decide) (fun z => absurd rfl z) hv3
        refine ⟨w5, c5, h5, fun Q => ?_⟩
        rw [← e5 Q, if_pos rfl, X143_14]
        simp only [X143_15, X143_18, X143_19, X143_22, X143_23, X143_26, X143_27, X143_30, X143_31, X143_34, X143_35, X143_38, X143_39, X143_40, X143_43, X143_44, X143_57, X143_58, X143_61, X143_64, X143_65, X143_67, X143_70, X143_71, X143_72, Nat.zero_le, and_true, true_and, x_nb0, x_nb1, x_nbp, x_isL_int, x_isL_ref, x_isL_junk, x_isR_ref, x_cat_nil, x_cat_int, x_cat_ref, x_cat_long, Option.toList_some, Option.toList_none, List.cons_append, List.nil_append, Nat.reduceAdd, Nat.reduceLeDiff, Nat.reduceLT, t_tag_si, t_tag_sr, t_tag_sI, x_r_si, x_i_sr, t_r_sI, x_ia_si, x_ia_sI, x_ia_sr, x_ra_si, x_ra_sI, x_ra_sr, e2, e01, if_true, g_t41 hs1, g_t41 hs2, a25, t1, t2, eq_false k300, eq_true k256, ne_eq, not_true_eq_false, not_false_eq_true, if_false, hval, e3, e4, g_t41 hs3]

      by_cases k267 : tK b n s = 267 ∧ wt = 2
      · obtain ⟨k267, rfl⟩ := k267
        have hq1 : q = 1 := hq
        subst hq1
        have hsn := hlt (by omega)
        have hm := (mst_not (H := H) (out := out) k267)
        have e147 := S147 (L := L) (xs := xs) (d := d + 1) (nt := nt) (c := 13) hs2 hM2 (by decide) (by decide) (by omega)
        by_cases h5 : cnt H = 5
        · rw [if_pos h5] at hm e147
          have hRe := mrun_r hm hR
          subst hRe
          refine ⟨w2, cQ, hfault Ch.refl, fun Q => ?_⟩
          rw [X143_14]
          simp only [X143_15, X143_18, X143_19, X143_22, X143_23, X143_26, X143_27, X143_30, X143_31, X143_34, X143_35, X143_75, X143_76, X143_79, X143_81, X143_84, X143_85, X143_88, X143_89, X143_91, X143_94, X143_97, X143_98, Nat.zero_le, and_true, true_and, x_nb0, x_nb1, x_nbp, x_isL_int, x_isL_ref, x_isL_junk, x_isR_ref, x_cat_nil, x_cat_int, x_cat_ref, x_cat_long, Option.toList_some, Option.toList_none, List.cons_append, List.nil_append, Nat.reduceAdd, Nat.reduceLeDiff, Nat.reduceLT, t_tag_si, t_tag_sr, t_tag_sI, x_r_si, x_i_sr, t_r_sI, x_ia_si, x_ia_sI, x_ia_sr, x_ra_si, x_ra_sI, x_ra_sr, e2, e01, if_true, g_t41 hs1, g_t41 hs2, a25, t1, t2, t6, t45, t40, eq_false k300, eq_false k256, eq_true k267, ne_eq, not_true_eq_false, not_false_eq_true, if_false, e147]
          rfl
        · rw [if_neg h5] at hm e147
          obtain ⟨w3, c3, h323, h3, e3⟩ := e147
          obtain ⟨w5, c5, h5, e5⟩ := hgo (q' := 1) (v := v3) hsn (mrun_l hm hR) c3 h3 (by rw [List.length_cons]; omega) (by decide) (fun _ => rfl) hv3
          refine ⟨w5, c5, h5, fun Q => ?_⟩
          rw [← e5 Q, if_neg (by decide), X143_14]
          simp only [X143_15, X143_18, X143_19, X143_22, X143_23, X143_26, X143_27, X143_30, X143_31, X143_34, X143_35, X143_75, X143_76, X143_79, X143_81, X143_84, X143_85, X143_88, X143_89, X143_91, X143_94, Nat.zero_le, and_true, true_and, x_nb0, x_nb1, x_nbp, x_isL_int, x_isL_ref, x_isL_junk, x_isR_ref, x_cat_nil, x_cat_int, x_cat_ref, x_cat_long, Option.toList_some, Option.toList_none, List.cons_append, List.nil_append, Nat.reduceAdd, Nat.reduceLeDiff, Nat.reduceLT, t_tag_si, t_tag_sr, t_tag_sI, x_r_si, x_i_sr, t_r_sI, x_ia_si, x_ia_sI, x_ia_sr, x_ra_si, x_ra_sI, x_ra_sr, e2, e01, if_true, g_t41 hs1, g_t41 hs2, a25, t1, t2, t6, t45, t40, eq_false k300, eq_false k256, eq_true k267, ne_eq, not_true_eq_false, not_false_eq_true, if_false, e3]
      by_cases k45 : tK b n s = 45
      · have hsn := hlt (by omega)
        have hm := (mst_neg (H := H) (out := out) hw0 k45)
        have e147 := S147 (L := L) (xs := xs) (d := d + 1) (nt := nt) (c := 19) hs2 hM2 (by decide) (by decide) (by omega)
        by_cases h5 : cnt H = 5
        · rw [if_pos h5] at hm e147
          have hRe := mrun_r hm hR
          subst hRe
          refine ⟨w2, cQ, hfault Ch.refl, fun Q => ?_⟩
          rw [X143_14]
          simp only [X143_15, X143_18, X143_19, X143_22, X143_23, X143_26, X143_27, X143_30, X143_31, X143_34, X143_35, X143_75, X143_76, X143_79, X143_81, X143_99, X143_100, X143_103, X143_105, X143_108, X143_109, X143_111, X143_114, X143_117, X143_118, Nat.zero_le, and_true, true_and, x_nb0, x_nb1, x_nbp, x_isL_int, x_isL_ref, x_isL_junk, x_isR_ref, x_cat_nil, x_cat_int, x_cat_ref, x_cat_long, Option.toList_some, Option.toList_none, List.cons_append, List.nil_append, Nat.reduceAdd, Nat.reduceLeDiff, Nat.reduceLT, t_tag_si, t_tag_sr, t_tag_sI, x_r_si, x_i_sr, t_r_sI, x_ia_si, x_ia_sI, x_ia_sr, x_ra_si, x_ra_sI, x_ra_sr, e2, e01, if_true, g_t41 hs1, g_t41 hs2, a25, t1, t2, t6, t45, t40, eq_false k300, eq_false k256, eq_false (show tK b n s ≠ 267 by omega), eq_true k45, ne_eq, not_true_eq_false, not_false_eq_true, if_false, e147]
          rfl
        · rw [if_neg h5] at hm e147
          obtain ⟨w3, c3, h323, h3, e3⟩ := e147
          obtain ⟨w5, c5, h5, e5⟩ := hgo (q' := 0) (v := v3) hsn (mrun_l hm hR) c3 h3 (by rw [List.length_cons]; omega) (by decide) (fun _ => rfl) hv3
          refine ⟨w5, c5, h5, fun Q => ?_⟩
          rw [← e5 Q, if_neg (by decide), X143_14]
          simp only [X143_15, X143_18, X143_19, X143_22, X143_23, X143_26, X143_27, X143_30, X143_31, X143_34, X143_35, X143_75, X143_76, X143_79, X143_81, X143_99, X143_100, X143_103, X143_105, X143_108, X143_109, X143_111, X143_114, X143_119, X143_120, X143_121, Nat.zero_le, and_true, true_and, x_nb0, x_nb1, x_nbp, x_isL_int, x_isL_ref, x_isL_junk, x_isR_ref, x_cat_nil, x_cat_int, x_cat_ref, x_cat_long, Option.toList_some, Option.toList_none, List.cons_append, List.nil_append, Nat.reduceAdd, Nat.reduceLeDiff, Nat.reduceLT, t_tag_si, t_tag_sr, t_tag_sI, x_r_si, x_i_sr, t_r_sI, x_ia_si, x_ia_sI, x_ia_sr, x_ra_si, x_ra_sI, x_ra_sr, e2, e01, if_true, g_t41 hs1, g_t41 hs2, a25, t1, t2, t6, t45, t40, eq_false k300, eq_false k256, eq_false (show tK b n s ≠ 267 by omega), eq_true k45, ne_eq, not_true_eq_false, not_false_eq_true, if_false, e3]
      by_cases k40 : tK b n s = 40
      · have hsn := hlt (by omega)
        have hm := (mst_par (H := H) (out := out) hw0 k40)
        have e147 := S147 (L := L) (xs := xs) (d := d + 1) (nt := nt) (c := 0) hs2 hM2 (by decide) (by decide) (by omega)
        by_cases h5 : cnt H = 5
        · rw [if_pos h5] at hm e147
          have hRe := mrun_r hm hR
          subst hRe
          refine ⟨w2, cQ, hfault Ch.refl, fun Q => ?_⟩
          rw [X143_14]
          simp only [X143_15, X143_18, X143_19, X143_22, X143_23, X143_26, X143_27, X143_30, X143_31, X143_34, X143_35, X143_75, X143_76, X143_79, X143_81, X143_99, X143_100, X143_103, X143_105, X143_124, X143_125, X143_128, X143_130, X143_133, X143_134, X143_135, X143_138, X143_141, X143_142, Nat.zero_le, and_true, true_and, x_nb0, x_nb1, x_nbp, x_isL_int, x_isL_ref, x_isL_junk, x_isR_ref, x_cat_nil, x_cat_int, x_cat_ref, x_cat_long, Option.toList_some, Option.toList_none, List.cons_append, List.nil_append, Nat.reduceAdd, Nat.reduceLeDiff, Nat.reduceLT, t_tag_si, t_tag_sr, t_tag_sI, x_r_si, x_i_sr, t_r_sI, x_ia_si, x_ia_sI, x_ia_sr, x_ra_si, x_ra_sI, x_ra_sr, e2, e01, if_true, g_t41 hs1, g_t41 hs2, a25, t1, t2, t6, t45, t40, eq_false k300, eq_false k256, eq_false (show tK b n s ≠ 267 by omega), eq_false k45, eq_true k40, ne_eq, not_true_eq_false, not_false_eq_true, if_false, e147]
          rfl
        · rw [if_neg h5] at hm e147
          obtain ⟨w3, c3, h323, h3, e3⟩ := e147
          obtain ⟨w5, c5, h5, e5⟩ := hgo (q' := 1) (v := v3) hsn (mrun_l hm hR) c3 h3 (by rw [List.length_cons]; omega) (by decide) (fun _ => rfl) hv3
          refine ⟨w5, c5, h5, fun Q => ?_⟩
          rw [← e5 Q, if_neg (by decide), X143_14]
          simp only [X143_15, X143_18, X143_19, X143_22, X143_23, X143_26, X143_27, X143_30, X143_31, X143_34, X143_35, X143_75, X143_76, X143_79, X143_81, X143_99, X143_100, X143_103, X143_105, X143_124, X143_125, X143_128, X143_130, X143_133, X143_134, X143_135, X143_138, X143_143, X143_144, X143_145, Nat.zero_le, and_true, true_and, x_nb0, x_nb1, x_nbp, x_isL_int, x_isL_ref, x_isL_junk, x_isR_ref, x_cat_nil, x_cat_int, x_cat_ref, x_cat_long, Option.toList_some, Option.toList_none, List.cons_append, List.nil_append, Nat.reduceAdd, Nat.reduceLeDiff, Nat.reduceLT, t_tag_si, t_tag_sr, t_tag_sI, x_r_si, x_i_sr, t_r_sI, x_ia_si, x_ia_sI, x_ia_sr, x_ra_si, x_ra_sI, x_ra_sr, e2, e01, if_true, g_t41 hs1, g_t41 hs2, a25, t1, t2, t6, t45, t40, eq_false k300, eq_false k256, eq_false (show tK b n s ≠ 267 by omega), eq_false k45, eq_true k40, ne_eq, not_true_eq_false, not_false_eq_true, if_false, e3]
      have hRe := mrun_r (mst_bad (H := H) (out := out) hw0 k300 k256 k267 k45 k40) hR
      subst hRe
      refine ⟨w2, cQ, hfault Ch.refl, fun Q => ?_⟩
      rw [X143_14]
      by_cases k6 : tK b n s = 267
      · have hw1 : wt ≠ 2 := fun z => k267 ⟨k6, z⟩
        rw [if_neg hw1] at hq
        subst hq
        simp only [X143_15, X143_18, X143_19, X143_22, X143_23, X143_26, X143_27, X143_30, X143_31, X143_34, X143_35, X143_75, X143_76, X143_79, X143_81, X143_84, X143_85, X143_99, X143_100, X143_103, X143_105, X143_124, X143_125, X143_128, X143_130, X143_148, X143_149, Nat.zero_le, and_true, true_and, x_nb0, x_nb1, x_nbp, x_isL_int, x_isL_ref, x_isL_junk, x_isR_ref, x_cat_nil, x_cat_int, x_cat_ref, x_cat_long, Option.toList_some, Option.toList_none, List.cons_append, List.nil_append, Nat.reduceAdd, Nat.reduceLeDiff, Nat.reduceLT, t_tag_si, t_tag_sr, t_tag_sI, x_r_si, x_i_sr, t_r_sI, x_ia_si, x_ia_sI, x_ia_sr, x_ra_si, x_ra_sI, x_ra_sr, e2, e01, if_true, g_t41 hs1, g_t41 hs2, a25, t1, t2, t6, t45, t40, eq_false k300, eq_false k256, eq_true k6, eq_false k45, eq_false k40, ne_eq, not_true_eq_false, not_false_eq_true, if_false]
        rfl
      · simp only [X143_15, X143_18, X143_19, X143_22, X143_23, X143_26, X143_27, X143_30, X143_31, X143_34, X143_35, X143_75, X143_76, X143_79, X143_81, X143_99, X143_100, X143_103, X143_105, X143_124, X143_125, X143_128, X143_130, X143_148, X143_149, Nat.zero_le, and_true, true_and, x_nb0, x_nb1, x_nbp, x_isL_int, x_isL_ref, x_isL_junk, x_isR_ref, x_cat_nil, x_cat_int, x_cat_ref, x_cat_long, Option.toList_some, Option.toList_none, List.cons_append, List.nil_append, Nat.reduceAdd, Nat.reduceLeDiff, Nat.reduceLT, t_tag_si, t_tag_sr, t_tag_sI, x_r_si, x_i_sr, t_r_sI, x_ia_si, x_ia_sI, x_ia_sr, x_ra_si, x_ra_sI, x_ra_sr, e2, e01, if_true, g_t41 hs1, g_t41 hs2, a25, t1, t2, t6, t45, t40, eq_false k300, eq_false k256, eq_false k6, eq_false k45, eq_false k40, ne_eq, not_true_eq_false, not_false_eq_true, if_false]
        rfl
theorem S143 (hs : Sh w) (hT : TPm w b n) {out : List Nat} {p : Nat} (hp : p ≤ n) (h23 : x_i w 41 23 = nI p) (h11 : x_i w 41 11 = nI nt) (hnt : nt < 6) (h31 : x_i w 41 31 = nI out.length) (hO : ∀ k, k < out.length → x_i w 48 (200 * nt + k) = smT (out.getD k 0)) (hop : out.length ≤ p) {R : Sum Nat (List Nat × Nat)} (hR : Rch b n ([], out, tS b n p, 2) (.inr R)) : ∃ w2, Ch (pQ nt) w w2 ∧ rsM w2 b n nt R ∧ ∀ Q, X_R L xs (d + 3) 143 0 [.ref 41, x_junk, x_junk, x_junk] [] w Q = Q (some (.int (rsA R))) w2 := by
  obtain ⟨k, hk⟩ := hR
  have h160 := hT.1
  have ca : Ch (pQ nt) w (x_si w 41 29 (nI 0)) := Ch_si rfl
  have cb : Ch (pQ nt) w (x_si (x_si w 41 29 (nI 0)) 41 30 (nI 0)) := ca.trans (Ch_si rfl)
  have hsa := ca.sh hs
  have hsb := cb.sh hs
  have eb : ∀ j, j ≠ 29 → j ≠ 30 → x_i (x_si (x_si w 41 29 (nI 0)) 41 30 (nI 0)) 41 j = x_i w 41 j := fun j hj h2 => (si_o h2).trans (si_o hj)
  have hMb : MH (x_si (x_si w 41 29 (nI 0)) 41 30 (nI 0)) nt [] out := by
    refine ⟨hnt, (eb 11 (by decide) (by decide)).trans h11, (si_o (by decide)).trans si_s, si_s, (eb 31 (by decide) (by decide)).trans h31, fun k hk => absurd hk (Nat.not_lt_zero k), fun k hk => ?_, fun x hx => absurd hx List.not_mem_nil, ?_⟩
    · rw [x_i_sin _ _ _ _ (by decide), x_i_sin _ _ _ _ (by decide)]; exact hO k hk
    · show 0 + out.length ≤ 160
      omega
  obtain ⟨w2, c2, h2, e2⟩ := S143l (L := L) (xs := xs) (d := d) (nt := nt) hsb (hT.ch cb rfl (fun _ => rfl) (fun _ => rfl)) k [] out _ 2 R hk p 1 _ x_junk Ch.refl hp rfl ((eb 23 (by decide) (by decide)).trans h23) hMb (by show 0 + out.length ≤ p; omega) (by decide) (fun _ => rfl) rfl
  refine ⟨w2, cb.trans c2, h2, fun Q => ?_⟩
  rw [← e2 Q, if_neg (by decide)]
  simp only [X143_0, X143_1, X143_2, X143_5, X143_6, X143_7, X143_10, X143_11, X143_12, X143_13, Nat.zero_le, and_true, true_and, x_nb0, x_nb1, x_nbp, x_isL_int, x_isL_ref, x_isL_junk, x_isR_ref, x_cat_nil, x_cat_int, x_cat_ref, x_cat_long, Option.toList_some, Option.toList_none, List.cons_append, List.nil_append, Nat.reduceAdd, Nat.reduceLeDiff, Nat.reduceLT, t_tag_si, t_tag_sr, t_tag_sI, x_r_si, x_i_sr, t_r_sI, x_ia_si, x_ia_sI, x_ia_sr, x_ra_si, x_ra_sI, x_ra_sr, g_t41 hs, g_t41 hsa]
end S99998
