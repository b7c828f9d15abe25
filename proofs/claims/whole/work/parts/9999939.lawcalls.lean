/-! ===== the law: its calls ===== -/
def TgP (w w' : x_W) : Prop := ∀ a t, x_tag w a = some t → x_tag w' a = some t
theorem TgP_new {w : x_W} {t : Nat × Nat} {f : Nat → Int32} : TgP w (x_new w t f) := fun a u h => by
  have hlt : a < w.1.length := (List.getElem?_eq_some_iff.mp h).1
  rw [nw_t hlt]
  exact h
theorem TgP.trans {w w' w'' : x_W} (h : TgP w w') (h' : TgP w' w'') : TgP w w'' := fun a t q => h' a t (h a t q)
theorem x_exec_tag (L : Nat) (xs : Nat → Int32) : ∀ (n d mid pc : Nat) (al st : List Value) (w : x_W) (r : Option Value) (w' : x_W), x_exec L xs n d mid pc al st w = some (r, w') → TgP w w' := by
  have hst : ∀ (ini : Bool) (oc : Nat) (i : Instr) (pc : Nat) (al st : List Value) (w : x_W) (pc' : Nat) (al' st' : List Value) (w' : x_W), x_step L xs ini oc i pc al st w = some (pc', al', st', w') → TgP w w' := by
    intro ini oc i pc al st w pc' al' st' w' h
    have hto : ∀ (off : Int) (st0 : List Value), x_to pc off al st0 w = some (pc', al', st', w') → TgP w w' := by
      intro off st0 h
      obtain ⟨-, -, -, rfl⟩ := x_to_inv h
      exact fun _ _ q => q
    cases i
    case goto off => exact hto _ _ h
    case ifCond cn off =>
      have h2 : x_if cn off pc al st w = some (pc', al', st', w') := h
      unfold x_if at h2
      repeat' split at h2
      all_goals first | (cases h2; done) | (cases h2; exact fun _ _ q => q) | exact hto _ _ h2
    case if_icmp cn off =>
      have h2 : x_if2 cn off pc al st w = some (pc', al', st', w') := h
      unfold x_if2 at h2
      repeat' split at h2
      all_goals first | (cases h2; done) | (cases h2; exact fun _ _ q => q) | exact hto _ _ h2
    case tableswitch d lo hi offs =>
      have h2 : x_tsw d lo hi offs pc al st w = some (pc', al', st', w') := h
      unfold x_tsw at h2
      repeat' split at h2
      all_goals first | (cases h2; done) | (cases h2; exact fun _ _ q => q) | exact hto _ _ h2
    case lookupswitch d ps =>
      have h2 : x_lsw d ps pc al st w = some (pc', al', st', w') := h
      unfold x_lsw at h2
      repeat' split at h2
      all_goals first | (cases h2; done) | (cases h2; exact fun _ _ q => q) | exact hto _ _ h2
    case newarray at0 =>
      cases at0
      case int =>
        have h2 : x_newa pc al st w = some (pc', al', st', w') := h
        unfold x_newa at h2
        repeat' split at h2
        all_goals first | (cases h2; exact TgP_new) | (cases h2; done)
      all_goals exact nomatch (show (none : Option x_C) = some (pc', al', st', w') from h)
    case anewarray idx =>
      have h2 : x_anew oc idx pc al st w = some (pc', al', st', w') := h
      unfold x_anew at h2
      repeat' split at h2
      all_goals first | (cases h2; exact TgP_new) | (cases h2; done)
    case new idx =>
      have h2 : x_newo oc idx pc al st w = some (pc', al', st', w') := h
      unfold x_newo at h2
      repeat' split at h2
      all_goals first | (cases h2; exact TgP_new) | (cases h2; done)
    case invokevirtual idx =>
      have h2 : (if oc = 14 ∧ idx = 316 then x_clone pc al st w else none) = some (pc', al', st', w') := h
      unfold x_clone at h2
      repeat' split at h2
      all_goals first | (cases h2; exact TgP_new) | (cases h2; done)
    case invokestatic idx =>
      have h2 : (if x_isCopy oc idx = true then x_copy pc al st w else x_math oc idx pc al st w) = some (pc', al', st', w') := h
      unfold x_copy x_math at h2
      repeat' split at h2
      all_goals first | (cases h2; exact fun _ _ q => q) | (cases h2; done)
    case putfield idx =>
      have h2 : x_pf ini oc idx pc al st w = some (pc', al', st', w') := h
      unfold x_pf at h2
      repeat' split at h2
      all_goals first | (cases h2; exact fun _ _ q => q) | (cases h2; done)
    all_goals first
      | exact nomatch (show (none : Option x_C) = some (pc', al', st', w') from h)
      | (simp only [x_step, x_psh, x_bin, x_div, x_un, x_lbin, x_ldv, x_lcm, x_i2lF, x_ldI, x_ldL, x_ldA, x_stI, x_stA, x_stL, x_inc, x_du, x_du2, x_po, x_ldc, x_ldc2, x_gets, x_gf, x_iald, x_bald, x_iast, x_aald, x_aast, x_len, x_chk, x_ini] at h
         repeat' split at h
         all_goals first | (cases h; exact fun _ _ q => q) | (cases h; done))
  intro n
  induction n with
  | zero => intro d mid pc al st w r w' h; cases h
  | succ n ih =>
    intro d mid pc al st w r w' h
    unfold x_exec at h
    split at h
    · cases h
    · split at h
      · cases h
      · split at h
        · cases h; exact fun _ _ q => q
        · split at h
          · split at h
            · cases h
            · dsimp only at h
              split at h
              · split at h
                · rename_i r1 w1 h1
                  exact (ih _ _ _ _ _ _ _ _ h1).trans (ih _ _ _ _ _ _ _ _ h)
                · cases h
              · cases h
          · split at h
            · rename_i h1
              exact (hst _ _ _ _ _ _ _ _ _ _ _ h1).trans (ih _ _ _ _ _ _ _ _ h)
            · cases h
theorem x_ret_int {mid : Nat} {i : Instr} {st : List Value} {r : Option Value} (h : x_ret mid i st = some r) (ht : x_rt mid = some .int) : ∃ x, r = some (.int x) := by
  unfold x_ret at h
  split at h
  · rw [if_neg (by rw [ht]; intro z; cases z)] at h; cases h
  · rename_i v
    rw [ht] at h
    dsimp only at h
    split at h
    · cases h; exact ⟨v, rfl⟩
    · cases h
  · rw [if_neg (by rw [ht]; intro z; cases z)] at h; cases h
  · rw [ht] at h; cases h
  · cases h
theorem x_exec_int (L : Nat) (xs : Nat → Int32) : ∀ (n d mid pc : Nat) (al st : List Value) (w : x_W) (r : Option Value) (w' : x_W), x_exec L xs n d mid pc al st w = some (r, w') → x_rt mid = some .int → ∃ x, r = some (.int x) := by
  intro n
  induction n with
  | zero => intro d mid pc al st w r w' h; cases h
  | succ n ih =>
    intro d mid pc al st w r w' h ht
    unfold x_exec at h
    split at h
    · cases h
    · split at h
      · cases h
      · split at h
        · rename_i hr
          cases h
          exact x_ret_int hr ht
        · split at h
          · split at h
            · cases h
            · dsimp only at h
              split at h
              · split at h
                · exact ih _ _ _ _ _ _ _ _ h ht
                · cases h
              · cases h
          · split at h
            · exact ih _ _ _ _ _ _ _ _ h ht
            · cases h
theorem lg_self (x : Int64) : lg_cmp x x = nI 0 := by
  unfold lg_cmp
  rw [if_neg (Int64.lt_irrefl), if_pos rfl]
  rfl
section S9999939
variable {L : Nat} {xs : Nat → Int32} {d : Nat} {w : x_W} {Q : Option Value → x_W → Prop}
theorem X_out {mid : Nat} {al : List Value} {v : Value} {w1 : x_W} (ht : x_rt mid = some .int) (h : ∀ Q, X_R L xs d mid 0 al [] w Q = Q (some v) w1) : (∃ x, v = .int x) ∧ TgP w w1 := by
  have h1 : X_R L xs d mid 0 al [] w (fun r w' => r = some v ∧ w' = w1) := by rw [h]; exact ⟨rfl, rfl⟩
  obtain ⟨n, r, w', he, rfl, rfl⟩ := h1
  obtain ⟨x, hx⟩ := x_exec_int L xs n d mid 0 al [] w _ _ he ht
  exact ⟨⟨x, Option.some.inj hx⟩, x_exec_tag L xs n d mid 0 al [] w _ _ he⟩
theorem AQl.law {mx mm : Nat} {ax am : List Value} {S nt r : Nat} {kd td mo kt : Nat → Nat} {tls : Nat → Nat → Nat} {tks : Nat → Nat → Nat → Nat} {so : Nat → Int32} {sz : Nat → Nat} (h : AQl L xs d mx mm ax am w) (hJ : J w S kd td mo kt nt r tls tks so sz) (h41 : x_tag w 41 = some (0, 8)) : ∃ x w1 w', JJ w' ∧ x_tag w1 41 = some (0, 8) ∧ (∀ Q, X_R L xs d mx 0 ax [] w Q = Q (some (.long x)) w1) ∧ ∀ Q, X_R L xs d mm 0 am [] w1 Q = Q (some (.long x)) w' := by
  obtain ⟨x, w1, w', c, hF, e1, e2⟩ := h
  have h1 : X_R L xs d mx 0 ax [] w (fun r w' => r = some (.long x) ∧ w' = w1) := by rw [e1]; exact ⟨rfl, rfl⟩
  obtain ⟨n, r, w2, he, rfl, rfl⟩ := h1
  exact ⟨x, w2, w', (hJ.scO (scO_of c) hF).jj, x_exec_tag L xs n d mx 0 ax [] w _ _ he 41 _ h41, e1, e2⟩
/-- a call, as the law makes it -/
theorem CA.law {mx mm : Nat} {ax am : List Value} (h : CA L xs d mx mm ax am w) (ht : x_rt mx = some .int) (h41 : x_tag w 41 = some (0, 8)) : ∃ x w1 w', JJ w' ∧ x_tag w1 41 = some (0, 8) ∧ (∀ Q, X_R L xs d mx 0 ax [] w Q = Q (some (.int x)) w1) ∧ ∀ Q, X_R L xs d mm 0 am [] w1 Q = Q (some (.int x)) w' := by
  obtain ⟨v, w1, w', hj, e1, e2⟩ := h
  obtain ⟨⟨x, rfl⟩, hg⟩ := X_out ht e1
  exact ⟨x, w1, w', hj, hg 41 _ h41, e1, e2⟩
theorem law_0 (hJJ : JJ w) {i : Nat} (hix : ∀ k, k < 7 → x_ix (nI (i + k)) L) (hn : ∀ w', JJ w' → X_R L xs (d + 61) 0 1481 [.ref 999, .ref 0, .ref 41, .int (nI i)] [] w' Q) : X_R L xs (d + 61) 0 208 [.ref 999, .ref 0, .ref 41, .int (nI i)] [] w Q := by
  obtain ⟨S, kd, td, mo, kt, nt, r, tls, tks, so, sz, hJ⟩ := hJJ
  have hs := hJ.sh
  obtain ⟨x, w1, w', hj, t1, e1, e2⟩ := CA.law (CA_cord (L := L) (xs := xs) (d := d + 48) hJ (xs (nI (i + 1)).toNatClampNeg) (xs (nI (i + 2)).toNatClampNeg) (xs (nI (i + 3)).toNatClampNeg)) (by decide +kernel) (g_t41 hs)
  have e1' : ∀ Q, X_R L xs (d + 60) 3 0 _ [] w Q = Q (some (.int x)) w1 := e1
  have e2' : ∀ Q, X_R L xs (d + 60) 151 0 _ [] w1 Q = Q (some (.int x)) w' := e2
  have h := hn w' hj
  simp only [X0_208, X0_209, X0_210, X0_211, X0_212, X0_213, X0_213s, X0_214, X0_215, X0_216, X0_217, X0_218, X0_218s, X0_219, X0_220, X0_221, X0_222, X0_223, X0_223s, X0_224, X0_227, X0_228, X0_229, X0_230, X0_231, X0_232, X0_232s, X0_233, X0_234, X0_235, X0_236, X0_237, X0_237s, X0_238, X0_239, X0_240, X0_241, X0_242, X0_242s, X0_243, X0_246, Nat.zero_le, and_true, true_and, x_nb0, x_nb1, x_nbp, x_isL_int, x_isL_ref, x_isL_junk, x_isR_ref, x_cat_nil, x_cat_int, x_cat_ref, x_cat_long, Option.toList_some, Option.toList_none, List.cons_append, List.nil_append, Nat.reduceAdd, Nat.reduceLeDiff, Nat.reduceLT, t_tag_si, t_tag_sr, t_tag_sI, x_r_si, x_i_sr, t_r_sI, x_ia_si, x_ia_sI, x_ia_sr, x_ra_si, x_ra_sI, x_ra_sr, nI_add, hix 1 (by decide), hix 2 (by decide), hix 3 (by decide), g_t0 hs, e1', t1, e2', lg_self, if_true]
  exact h
theorem law_1 (hJJ : JJ w) {i : Nat} (hix : ∀ k, k < 7 → x_ix (nI (i + k)) L) (hn : ∀ w', JJ w' → X_R L xs (d + 61) 0 1481 [.ref 999, .ref 0, .ref 41, .int (nI i)] [] w' Q) : X_R L xs (d + 61) 0 251 [.ref 999, .ref 0, .ref 41, .int (nI i)] [] w Q := by
  obtain ⟨S, kd, td, mo, kt, nt, r, tls, tks, so, sz, hJ⟩ := hJJ
  have hs := hJ.sh
  obtain ⟨x, w1, w', hj, t1, e1, e2⟩ := CA.law (CA_corded (L := L) (xs := xs) (d := d + 48) hJ (xs (nI (i + 1)).toNatClampNeg) (xs (nI (i + 2)).toNatClampNeg)) (by decide +kernel) (g_t41 hs)
  have e1' : ∀ Q, X_R L xs (d + 60) 5 0 _ [] w Q = Q (some (.int x)) w1 := e1
  have e2' : ∀ Q, X_R L xs (d + 60) 154 0 _ [] w1 Q = Q (some (.int x)) w' := e2
  have h := hn w' hj
  simp only [X0_251, X0_252, X0_253, X0_254, X0_255, X0_256, X0_256s, X0_257, X0_258, X0_259, X0_260, X0_261, X0_261s, X0_262, X0_265, X0_266, X0_267, X0_268, X0_269, X0_270, X0_270s, X0_271, X0_272, X0_273, X0_274, X0_275, X0_275s, X0_276, X0_279, Nat.zero_le, and_true, true_and, x_nb0, x_nb1, x_nbp, x_isL_int, x_isL_ref, x_isL_junk, x_isR_ref, x_cat_nil, x_cat_int, x_cat_ref, x_cat_long, Option.toList_some, Option.toList_none, List.cons_append, List.nil_append, Nat.reduceAdd, Nat.reduceLeDiff, Nat.reduceLT, t_tag_si, t_tag_sr, t_tag_sI, x_r_si, x_i_sr, t_r_sI, x_ia_si, x_ia_sI, x_ia_sr, x_ra_si, x_ra_sI, x_ra_sr, nI_add, hix 1 (by decide), hix 2 (by decide), g_t0 hs, e1', t1, e2', lg_self, if_true]
  exact h
theorem law_2 (hJJ : JJ w) {i : Nat} (hix : ∀ k, k < 7 → x_ix (nI (i + k)) L) (hn : ∀ w', JJ w' → X_R L xs (d + 61) 0 1481 [.ref 999, .ref 0, .ref 41, .int (nI i)] [] w' Q) : X_R L xs (d + 61) 0 284 [.ref 999, .ref 0, .ref 41, .int (nI i)] [] w Q := by
  obtain ⟨S, kd, td, mo, kt, nt, r, tls, tks, so, sz, hJ⟩ := hJJ
  have hs := hJ.sh
  obtain ⟨x, w1, w', hj, t1, e1, e2⟩ := CA.law (CA_tie (L := L) (xs := xs) (d := d + 48) hJ (xs (nI (i + 1)).toNatClampNeg) (xs (nI (i + 2)).toNatClampNeg)) (by decide +kernel) (g_t41 hs)
  have e1' : ∀ Q, X_R L xs (d + 60) 6 0 _ [] w Q = Q (some (.int x)) w1 := e1
  have e2' : ∀ Q, X_R L xs (d + 60) 155 0 _ [] w1 Q = Q (some (.int x)) w' := e2
  have h := hn w' hj
  simp only [X0_284, X0_285, X0_286, X0_287, X0_288, X0_289, X0_289s, X0_290, X0_291, X0_292, X0_293, X0_294, X0_294s, X0_295, X0_298, X0_299, X0_300, X0_301, X0_302, X0_303, X0_303s, X0_304, X0_305, X0_306, X0_307, X0_308, X0_308s, X0_309, X0_312, Nat.zero_le, and_true, true_and, x_nb0, x_nb1, x_nbp, x_isL_int, x_isL_ref, x_isL_junk, x_isR_ref, x_cat_nil, x_cat_int, x_cat_ref, x_cat_long, Option.toList_some, Option.toList_none, List.cons_append, List.nil_append, Nat.reduceAdd, Nat.reduceLeDiff, Nat.reduceLT, t_tag_si, t_tag_sr, t_tag_sI, x_r_si, x_i_sr, t_r_sI, x_ia_si, x_ia_sI, x_ia_sr, x_ra_si, x_ra_sI, x_ra_sr, nI_add, hix 1 (by decide), hix 2 (by decide), g_t0 hs, e1', t1, e2', lg_self, if_true]
  exact h
theorem law_3 (hJJ : JJ w) {i : Nat} (hix : ∀ k, k < 7 → x_ix (nI (i + k)) L) (hn : ∀ w', JJ w' → X_R L xs (d + 61) 0 1481 [.ref 999, .ref 0, .ref 41, .int (nI i)] [] w' Q) : X_R L xs (d + 61) 0 317 [.ref 999, .ref 0, .ref 41, .int (nI i)] [] w Q := by
  obtain ⟨S, kd, td, mo, kt, nt, r, tls, tks, so, sz, hJ⟩ := hJJ
  have hs := hJ.sh
  obtain ⟨x, w1, w', hj, t1, e1, e2⟩ := CA.law (CA_count (L := L) (xs := xs) (d := d + 48) hJ (xs (nI (i + 1)).toNatClampNeg)) (by decide +kernel) (g_t41 hs)
  have e1' : ∀ Q, X_R L xs (d + 60) 7 0 _ [] w Q = Q (some (.int x)) w1 := e1
  have e2' : ∀ Q, X_R L xs (d + 60) 156 0 _ [] w1 Q = Q (some (.int x)) w' := e2
  have h := hn w' hj
  simp only [X0_317, X0_318, X0_319, X0_320, X0_321, X0_322, X0_322s, X0_323, X0_326, X0_327, X0_328, X0_329, X0_330, X0_331, X0_331s, X0_332, X0_335, Nat.zero_le, and_true, true_and, x_nb0, x_nb1, x_nbp, x_isL_int, x_isL_ref, x_isL_junk, x_isR_ref, x_cat_nil, x_cat_int, x_cat_ref, x_cat_long, Option.toList_some, Option.toList_none, List.cons_append, List.nil_append, Nat.reduceAdd, Nat.reduceLeDiff, Nat.reduceLT, t_tag_si, t_tag_sr, t_tag_sI, x_r_si, x_i_sr, t_r_sI, x_ia_si, x_ia_sI, x_ia_sr, x_ra_si, x_ra_sI, x_ra_sr, nI_add, hix 1 (by decide), g_t0 hs, e1', t1, e2', lg_self, if_true]
  exact h
theorem law_4 (hJJ : JJ w) {i : Nat} (hix : ∀ k, k < 7 → x_ix (nI (i + k)) L) (hn : ∀ w', JJ w' → X_R L xs (d + 61) 0 1481 [.ref 999, .ref 0, .ref 41, .int (nI i)] [] w' Q) : X_R L xs (d + 61) 0 340 [.ref 999, .ref 0, .ref 41, .int (nI i)] [] w Q := by
  obtain ⟨S, kd, td, mo, kt, nt, r, tls, tks, so, sz, hJ⟩ := hJJ
  have hs := hJ.sh
  obtain ⟨x, w1, w', hj, t1, e1, e2⟩ := CA.law (CA_feed (L := L) (xs := xs) (d := d + 48) hJ (xs (nI (i + 1)).toNatClampNeg) (xs (nI (i + 2)).toNatClampNeg) (xs (nI (i + 3)).toNatClampNeg) (xs (nI (i + 4)).toNatClampNeg) (xs (nI (i + 5)).toNatClampNeg) (xs (nI (i + 6)).toNatClampNeg)) (by decide +kernel) (g_t41 hs)
  have e1' : ∀ Q, X_R L xs (d + 60) 8 0 _ [] w Q = Q (some (.int x)) w1 := e1
  have e2' : ∀ Q, X_R L xs (d + 60) 159 0 _ [] w1 Q = Q (some (.int x)) w' := e2
  have h := hn w' hj
  simp only [X0_340, X0_341, X0_342, X0_343, X0_344, X0_345, X0_345s, X0_346, X0_347, X0_348, X0_349, X0_350, X0_350s, X0_351, X0_352, X0_353, X0_354, X0_355, X0_355s, X0_356, X0_357, X0_358, X0_359, X0_360, X0_360s, X0_361, X0_362, X0_363, X0_364, X0_365, X0_365s, X0_366, X0_367, X0_368, X0_370, X0_371, X0_371s, X0_372, X0_375, X0_376, X0_377, X0_378, X0_379, X0_380, X0_380s, X0_381, X0_382, X0_383, X0_384, X0_385, X0_385s, X0_386, X0_387, X0_388, X0_389, X0_390, X0_390s, X0_391, X0_392, X0_393, X0_394, X0_395, X0_395s, X0_396, X0_397, X0_398, X0_399, X0_400, X0_400s, X0_401, X0_402, X0_403, X0_405, X0_406, X0_406s, X0_407, X0_410, Nat.zero_le, and_true, true_and, x_nb0, x_nb1, x_nbp, x_isL_int, x_isL_ref, x_isL_junk, x_isR_ref, x_cat_nil, x_cat_int, x_cat_ref, x_cat_long, Option.toList_some, Option.toList_none, List.cons_append, List.nil_append, Nat.reduceAdd, Nat.reduceLeDiff, Nat.reduceLT, t_tag_si, t_tag_sr, t_tag_sI, x_r_si, x_i_sr, t_r_sI, x_ia_si, x_ia_sI, x_ia_sr, x_ra_si, x_ra_sI, x_ra_sr, nI_add, hix 1 (by decide), hix 2 (by decide), hix 3 (by decide), hix 4 (by decide), hix 5 (by decide), hix 6 (by decide), g_t0 hs, e1', t1, e2', lg_self, if_true]
  exact h
theorem law_5 (hJJ : JJ w) {i : Nat} (hix : ∀ k, k < 7 → x_ix (nI (i + k)) L) (hn : ∀ w', JJ w' → X_R L xs (d + 61) 0 1481 [.ref 999, .ref 0, .ref 41, .int (nI i)] [] w' Q) : X_R L xs (d + 61) 0 415 [.ref 999, .ref 0, .ref 41, .int (nI i)] [] w Q := by
  obtain ⟨S, kd, td, mo, kt, nt, r, tls, tks, so, sz, hJ⟩ := hJJ
  have hs := hJ.sh
  obtain ⟨x, w1, w', hj, t1, e1, e2⟩ := CA.law (CA_text (L := L) (xs := xs) (d := d) hJ ) (by decide +kernel) (g_t41 hs)
  have e1' : ∀ Q, X_R L xs (d + 60) 11 0 _ [] w Q = Q (some (.int x)) w1 := e1
  have e2' : ∀ Q, X_R L xs (d + 60) 140 0 _ [] w1 Q = Q (some (.int x)) w' := e2
  have h := hn w' hj
  simp only [X0_415, X0_416, X0_419, X0_420, X0_423, Nat.zero_le, and_true, true_and, x_nb0, x_nb1, x_nbp, x_isL_int, x_isL_ref, x_isL_junk, x_isR_ref, x_cat_nil, x_cat_int, x_cat_ref, x_cat_long, Option.toList_some, Option.toList_none, List.cons_append, List.nil_append, Nat.reduceAdd, Nat.reduceLeDiff, Nat.reduceLT, t_tag_si, t_tag_sr, t_tag_sI, x_r_si, x_i_sr, t_r_sI, x_ia_si, x_ia_sI, x_ia_sr, x_ra_si, x_ra_sI, x_ra_sr, nI_add, g_t0 hs, e1', t1, e2', lg_self, if_true]
  exact h
theorem law_6 (hJJ : JJ w) {i : Nat} (hix : ∀ k, k < 7 → x_ix (nI (i + k)) L) (hn : ∀ w', JJ w' → X_R L xs (d + 61) 0 1481 [.ref 999, .ref 0, .ref 41, .int (nI i)] [] w' Q) : X_R L xs (d + 61) 0 428 [.ref 999, .ref 0, .ref 41, .int (nI i)] [] w Q := by
  obtain ⟨S, kd, td, mo, kt, nt, r, tls, tks, so, sz, hJ⟩ := hJJ
  have hs := hJ.sh
  obtain ⟨x, w1, w', hj, t1, e1, e2⟩ := CA.law (CA_force (L := L) (xs := xs) (d := d + 48) hJ (xs (nI (i + 1)).toNatClampNeg)) (by decide +kernel) (g_t41 hs)
  have e1' : ∀ Q, X_R L xs (d + 60) 12 0 _ [] w Q = Q (some (.int x)) w1 := e1
  have e2' : ∀ Q, X_R L xs (d + 60) 161 0 _ [] w1 Q = Q (some (.int x)) w' := e2
  have h := hn w' hj
  simp only [X0_428, X0_429, X0_430, X0_431, X0_432, X0_433, X0_433s, X0_434, X0_437, X0_438, X0_439, X0_440, X0_441, X0_442, X0_442s, X0_443, X0_446, Nat.zero_le, and_true, true_and, x_nb0, x_nb1, x_nbp, x_isL_int, x_isL_ref, x_isL_junk, x_isR_ref, x_cat_nil, x_cat_int, x_cat_ref, x_cat_long, Option.toList_some, Option.toList_none, List.cons_append, List.nil_append, Nat.reduceAdd, Nat.reduceLeDiff, Nat.reduceLT, t_tag_si, t_tag_sr, t_tag_sI, x_r_si, x_i_sr, t_r_sI, x_ia_si, x_ia_sI, x_ia_sr, x_ra_si, x_ra_sI, x_ra_sr, nI_add, hix 1 (by decide), g_t0 hs, e1', t1, e2', lg_self, if_true]
  exact h
theorem law_7 (hJJ : JJ w) {i : Nat} (hix : ∀ k, k < 7 → x_ix (nI (i + k)) L) (hn : ∀ w', JJ w' → X_R L xs (d + 61) 0 1481 [.ref 999, .ref 0, .ref 41, .int (nI i)] [] w' Q) : X_R L xs (d + 61) 0 451 [.ref 999, .ref 0, .ref 41, .int (nI i)] [] w Q := by
  obtain ⟨S, kd, td, mo, kt, nt, r, tls, tks, so, sz, hJ⟩ := hJJ
  have hs := hJ.sh
  obtain ⟨x, w1, w', hj, t1, e1, e2⟩ := CA.law ((AQ_asks (L := L) (xs := xs) (d := d + 48) hJ.ag (xs (nI (i + 1)).toNatClampNeg) (xs (nI (i + 2)).toNatClampNeg) (xs (nI (i + 3)).toNatClampNeg) (xs (nI (i + 4)).toNatClampNeg) (xs (nI (i + 5)).toNatClampNeg)).ca hJ) (by decide +kernel) (g_t41 hs)
  have e1' : ∀ Q, X_R L xs (d + 60) 14 0 _ [] w Q = Q (some (.int x)) w1 := e1
  have e2' : ∀ Q, X_R L xs (d + 60) 162 0 _ [] w1 Q = Q (some (.int x)) w' := e2
  have h := hn w' hj
  simp only [X0_451, X0_452, X0_453, X0_454, X0_455, X0_456, X0_456s, X0_457, X0_458, X0_459, X0_460, X0_461, X0_461s, X0_462, X0_463, X0_464, X0_465, X0_466, X0_466s, X0_467, X0_468, X0_469, X0_470, X0_471, X0_471s, X0_472, X0_473, X0_474, X0_475, X0_476, X0_476s, X0_477, X0_480, X0_481, X0_482, X0_483, X0_484, X0_485, X0_485s, X0_486, X0_487, X0_488, X0_489, X0_490, X0_490s, X0_491, X0_492, X0_493, X0_494, X0_495, X0_495s, X0_496, X0_497, X0_498, X0_499, X0_500, X0_500s, X0_501, X0_502, X0_503, X0_504, X0_505, X0_505s, X0_506, X0_509, Nat.zero_le, and_true, true_and, x_nb0, x_nb1, x_nbp, x_isL_int, x_isL_ref, x_isL_junk, x_isR_ref, x_cat_nil, x_cat_int, x_cat_ref, x_cat_long, Option.toList_some, Option.toList_none, List.cons_append, List.nil_append, Nat.reduceAdd, Nat.reduceLeDiff, Nat.reduceLT, t_tag_si, t_tag_sr, t_tag_sI, x_r_si, x_i_sr, t_r_sI, x_ia_si, x_ia_sI, x_ia_sr, x_ra_si, x_ra_sI, x_ra_sr, nI_add, hix 1 (by decide), hix 2 (by decide), hix 3 (by decide), hix 4 (by decide), hix 5 (by decide), g_t0 hs, e1', t1, e2', lg_self, if_true]
  exact h
theorem law_8 (hJJ : JJ w) {i : Nat} (hix : ∀ k, k < 7 → x_ix (nI (i + k)) L) (hn : ∀ w', JJ w' → X_R L xs (d + 61) 0 1481 [.ref 999, .ref 0, .ref 41, .int (nI i)] [] w' Q) : X_R L xs (d + 61) 0 514 [.ref 999, .ref 0, .ref 41, .int (nI i)] [] w Q := by
  obtain ⟨S, kd, td, mo, kt, nt, r, tls, tks, so, sz, hJ⟩ := hJJ
  have hs := hJ.sh
  obtain ⟨x, w1, w', hj, t1, e1, e2⟩ := CA.law (CA_sleeper (L := L) (xs := xs) (d := d + 48) hJ (xs (nI (i + 1)).toNatClampNeg) (xs (nI (i + 2)).toNatClampNeg) (xs (nI (i + 3)).toNatClampNeg)) (by decide +kernel) (g_t41 hs)
  have e1' : ∀ Q, X_R L xs (d + 60) 15 0 _ [] w Q = Q (some (.int x)) w1 := e1
  have e2' : ∀ Q, X_R L xs (d + 60) 167 0 _ [] w1 Q = Q (some (.int x)) w' := e2
  have h := hn w' hj
  simp only [X0_514, X0_515, X0_516, X0_517, X0_518, X0_519, X0_519s, X0_520, X0_521, X0_522, X0_523, X0_524, X0_524s, X0_525, X0_526, X0_527, X0_528, X0_529, X0_529s, X0_530, X0_533, X0_534, X0_535, X0_536, X0_537, X0_538, X0_538s, X0_539, X0_540, X0_541, X0_542, X0_543, X0_543s, X0_544, X0_545, X0_546, X0_547, X0_548, X0_548s, X0_549, X0_552, Nat.zero_le, and_true, true_and, x_nb0, x_nb1, x_nbp, x_isL_int, x_isL_ref, x_isL_junk, x_isR_ref, x_cat_nil, x_cat_int, x_cat_ref, x_cat_long, Option.toList_some, Option.toList_none, List.cons_append, List.nil_append, Nat.reduceAdd, Nat.reduceLeDiff, Nat.reduceLT, t_tag_si, t_tag_sr, t_tag_sI, x_r_si, x_i_sr, t_r_sI, x_ia_si, x_ia_sI, x_ia_sr, x_ra_si, x_ra_sI, x_ra_sr, nI_add, hix 1 (by decide), hix 2 (by decide), hix 3 (by decide), g_t0 hs, e1', t1, e2', lg_self, if_true]
  exact h
theorem law_9 (hJJ : JJ w) {i : Nat} (hix : ∀ k, k < 7 → x_ix (nI (i + k)) L) (hn : ∀ w', JJ w' → X_R L xs (d + 61) 0 1481 [.ref 999, .ref 0, .ref 41, .int (nI i)] [] w' Q) : X_R L xs (d + 61) 0 557 [.ref 999, .ref 0, .ref 41, .int (nI i)] [] w Q := by
  obtain ⟨S, kd, td, mo, kt, nt, r, tls, tks, so, sz, hJ⟩ := hJJ
  have hs := hJ.sh
  obtain ⟨x, w1, w', hj, t1, e1, e2⟩ := CA.law ((AL_lie (L := L) (xs := xs) (d := d + 48) hJ.ag (xs (nI (i + 1)).toNatClampNeg) (xs (nI (i + 2)).toNatClampNeg)).ca hJ) (by decide +kernel) (g_t41 hs)
  have e1' : ∀ Q, X_R L xs (d + 60) 16 0 _ [] w Q = Q (some (.int x)) w1 := e1
  have e2' : ∀ Q, X_R L xs (d + 60) 168 0 _ [] w1 Q = Q (some (.int x)) w' := e2
  have h := hn w' hj
  simp only [X0_557, X0_558, X0_559, X0_560, X0_561, X0_562, X0_562s, X0_563, X0_564, X0_565, X0_566, X0_567, X0_567s, X0_568, X0_571, X0_572, X0_573, X0_574, X0_575, X0_576, X0_576s, X0_577, X0_578, X0_579, X0_580, X0_581, X0_581s, X0_582, X0_585, Nat.zero_le, and_true, true_and, x_nb0, x_nb1, x_nbp, x_isL_int, x_isL_ref, x_isL_junk, x_isR_ref, x_cat_nil, x_cat_int, x_cat_ref, x_cat_long, Option.toList_some, Option.toList_none, List.cons_append, List.nil_append, Nat.reduceAdd, Nat.reduceLeDiff, Nat.reduceLT, t_tag_si, t_tag_sr, t_tag_sI, x_r_si, x_i_sr, t_r_sI, x_ia_si, x_ia_sI, x_ia_sr, x_ra_si, x_ra_sI, x_ra_sr, nI_add, hix 1 (by decide), hix 2 (by decide), g_t0 hs, e1', t1, e2', lg_self, if_true]
  exact h
theorem law_10 (hJJ : JJ w) {i : Nat} (hix : ∀ k, k < 7 → x_ix (nI (i + k)) L) (hn : ∀ w', JJ w' → X_R L xs (d + 61) 0 1481 [.ref 999, .ref 0, .ref 41, .int (nI i)] [] w' Q) : X_R L xs (d + 61) 0 590 [.ref 999, .ref 0, .ref 41, .int (nI i)] [] w Q := by
  obtain ⟨S, kd, td, mo, kt, nt, r, tls, tks, so, sz, hJ⟩ := hJJ
  have hs := hJ.sh
  obtain ⟨x, w1, w', hj, t1, e1, e2⟩ := CA.law ((AQ_told (L := L) (xs := xs) (d := d + 48) hJ.ag (xs (nI (i + 1)).toNatClampNeg) (xs (nI (i + 2)).toNatClampNeg)).ca hJ) (by decide +kernel) (g_t41 hs)
  have e1' : ∀ Q, X_R L xs (d + 60) 17 0 _ [] w Q = Q (some (.int x)) w1 := e1
  have e2' : ∀ Q, X_R L xs (d + 60) 170 0 _ [] w1 Q = Q (some (.int x)) w' := e2
  have h := hn w' hj
  simp only [X0_590, X0_591, X0_592, X0_593, X0_594, X0_595, X0_595s, X0_596, X0_597, X0_598, X0_599, X0_600, X0_600s, X0_601, X0_604, X0_605, X0_606, X0_607, X0_608, X0_609, X0_609s, X0_610, X0_611, X0_612, X0_613, X0_614, X0_614s, X0_615, X0_618, Nat.zero_le, and_true, true_and, x_nb0, x_nb1, x_nbp, x_isL_int, x_isL_ref, x_isL_junk, x_isR_ref, x_cat_nil, x_cat_int, x_cat_ref, x_cat_long, Option.toList_some, Option.toList_none, List.cons_append, List.nil_append, Nat.reduceAdd, Nat.reduceLeDiff, Nat.reduceLT, t_tag_si, t_tag_sr, t_tag_sI, x_r_si, x_i_sr, t_r_sI, x_ia_si, x_ia_sI, x_ia_sr, x_ra_si, x_ra_sI, x_ra_sr, nI_add, hix 1 (by decide), hix 2 (by decide), g_t0 hs, e1', t1, e2', lg_self, if_true]
  exact h
theorem law_11 (hJJ : JJ w) {i : Nat} (hix : ∀ k, k < 7 → x_ix (nI (i + k)) L) (hn : ∀ w', JJ w' → X_R L xs (d + 61) 0 1481 [.ref 999, .ref 0, .ref 41, .int (nI i)] [] w' Q) : X_R L xs (d + 61) 0 623 [.ref 999, .ref 0, .ref 41, .int (nI i)] [] w Q := by
  obtain ⟨S, kd, td, mo, kt, nt, r, tls, tks, so, sz, hJ⟩ := hJJ
  have hs := hJ.sh
  obtain ⟨x, w1, w', hj, t1, e1, e2⟩ := CA.law ((AQ_depth (L := L) (xs := xs) (d := d + 48) hJ.ag (xs (nI (i + 1)).toNatClampNeg)).ca hJ) (by decide +kernel) (g_t41 hs)
  have e1' : ∀ Q, X_R L xs (d + 60) 18 0 _ [] w Q = Q (some (.int x)) w1 := e1
  have e2' : ∀ Q, X_R L xs (d + 60) 173 0 _ [] w1 Q = Q (some (.int x)) w' := e2
  have h := hn w' hj
  simp only [X0_623, X0_624, X0_625, X0_626, X0_627, X0_628, X0_628s, X0_629, X0_632, X0_633, X0_634, X0_635, X0_636, X0_637, X0_637s, X0_638, X0_641, Nat.zero_le, and_true, true_and, x_nb0, x_nb1, x_nbp, x_isL_int, x_isL_ref, x_isL_junk, x_isR_ref, x_cat_nil, x_cat_int, x_cat_ref, x_cat_long, Option.toList_some, Option.toList_none, List.cons_append, List.nil_append, Nat.reduceAdd, Nat.reduceLeDiff, Nat.reduceLT, t_tag_si, t_tag_sr, t_tag_sI, x_r_si, x_i_sr, t_r_sI, x_ia_si, x_ia_sI, x_ia_sr, x_ra_si, x_ra_sI, x_ra_sr, nI_add, hix 1 (by decide), g_t0 hs, e1', t1, e2', lg_self, if_true]
  exact h
theorem law_12 (hJJ : JJ w) {i : Nat} (hix : ∀ k, k < 7 → x_ix (nI (i + k)) L) (hn : ∀ w', JJ w' → X_R L xs (d + 61) 0 1481 [.ref 999, .ref 0, .ref 41, .int (nI i)] [] w' Q) : X_R L xs (d + 61) 0 646 [.ref 999, .ref 0, .ref 41, .int (nI i)] [] w Q := by
  obtain ⟨S, kd, td, mo, kt, nt, r, tls, tks, so, sz, hJ⟩ := hJJ
  have hs := hJ.sh
  obtain ⟨x, w1, w', hj, t1, e1, e2⟩ := CA.law ((AQ_pull (L := L) (xs := xs) (d := d + 48) hJ.ag (xs (nI (i + 1)).toNatClampNeg) (xs (nI (i + 2)).toNatClampNeg)).ca hJ) (by decide +kernel) (g_t41 hs)
  have e1' : ∀ Q, X_R L xs (d + 60) 19 0 _ [] w Q = Q (some (.int x)) w1 := e1
  have e2' : ∀ Q, X_R L xs (d + 60) 178 0 _ [] w1 Q = Q (some (.int x)) w' := e2
  have h := hn w' hj
  simp only [X0_646, X0_647, X0_648, X0_649, X0_650, X0_651, X0_651s, X0_652, X0_653, X0_654, X0_655, X0_656, X0_656s, X0_657, X0_660, X0_661, X0_662, X0_663, X0_664, X0_665, X0_665s, X0_666, X0_667, X0_668, X0_669, X0_670, X0_670s, X0_671, X0_674, Nat.zero_le, and_true, true_and, x_nb0, x_nb1, x_nbp, x_isL_int, x_isL_ref, x_isL_junk, x_isR_ref, x_cat_nil, x_cat_int, x_cat_ref, x_cat_long, Option.toList_some, Option.toList_none, List.cons_append, List.nil_append, Nat.reduceAdd, Nat.reduceLeDiff, Nat.reduceLT, t_tag_si, t_tag_sr, t_tag_sI, x_r_si, x_i_sr, t_r_sI, x_ia_si, x_ia_sI, x_ia_sr, x_ra_si, x_ra_sI, x_ra_sr, nI_add, hix 1 (by decide), hix 2 (by decide), g_t0 hs, e1', t1, e2', lg_self, if_true]
  exact h
theorem law_13 (hJJ : JJ w) {i : Nat} (hix : ∀ k, k < 7 → x_ix (nI (i + k)) L) (hn : ∀ w', JJ w' → X_R L xs (d + 61) 0 1481 [.ref 999, .ref 0, .ref 41, .int (nI i)] [] w' Q) : X_R L xs (d + 61) 0 679 [.ref 999, .ref 0, .ref 41, .int (nI i)] [] w Q := by
  obtain ⟨S, kd, td, mo, kt, nt, r, tls, tks, so, sz, hJ⟩ := hJJ
  have hs := hJ.sh
  obtain ⟨x, w1, w', hj, t1, e1, e2⟩ := CA.law ((AQ_hang (L := L) (xs := xs) (d := d + 48) hJ.ag (xs (nI (i + 1)).toNatClampNeg)).ca hJ) (by decide +kernel) (g_t41 hs)
  have e1' : ∀ Q, X_R L xs (d + 60) 20 0 _ [] w Q = Q (some (.int x)) w1 := e1
  have e2' : ∀ Q, X_R L xs (d + 60) 179 0 _ [] w1 Q = Q (some (.int x)) w' := e2
  have h := hn w' hj
  simp only [X0_679, X0_680, X0_681, X0_682, X0_683, X0_684, X0_684s, X0_685, X0_688, X0_689, X0_690, X0_691, X0_692, X0_693, X0_693s, X0_694, X0_697, Nat.zero_le, and_true, true_and, x_nb0, x_nb1, x_nbp, x_isL_int, x_isL_ref, x_isL_junk, x_isR_ref, x_cat_nil, x_cat_int, x_cat_ref, x_cat_long, Option.toList_some, Option.toList_none, List.cons_append, List.nil_append, Nat.reduceAdd, Nat.reduceLeDiff, Nat.reduceLT, t_tag_si, t_tag_sr, t_tag_sI, x_r_si, x_i_sr, t_r_sI, x_ia_si, x_ia_sI, x_ia_sr, x_ra_si, x_ra_sI, x_ra_sr, nI_add, hix 1 (by decide), g_t0 hs, e1', t1, e2', lg_self, if_true]
  exact h
theorem law_14 (hJJ : JJ w) {i : Nat} (hix : ∀ k, k < 7 → x_ix (nI (i + k)) L) (hn : ∀ w', JJ w' → X_R L xs (d + 61) 0 1481 [.ref 999, .ref 0, .ref 41, .int (nI i)] [] w' Q) : X_R L xs (d + 61) 0 702 [.ref 999, .ref 0, .ref 41, .int (nI i)] [] w Q := by
  obtain ⟨S, kd, td, mo, kt, nt, r, tls, tks, so, sz, hJ⟩ := hJJ
  have hs := hJ.sh
  obtain ⟨x, w1, w', hj, t1, e1, e2⟩ := CA.law ((AL_roll (L := L) (xs := xs) (d := d + 48) hJ.ag (xs (nI (i + 1)).toNatClampNeg)).ca hJ) (by decide +kernel) (g_t41 hs)
  have e1' : ∀ Q, X_R L xs (d + 60) 21 0 _ [] w Q = Q (some (.int x)) w1 := e1
  have e2' : ∀ Q, X_R L xs (d + 60) 183 0 _ [] w1 Q = Q (some (.int x)) w' := e2
  have h := hn w' hj
  simp only [X0_702, X0_703, X0_704, X0_705, X0_706, X0_707, X0_707s, X0_708, X0_711, X0_712, X0_713, X0_714, X0_715, X0_716, X0_716s, X0_717, X0_720, Nat.zero_le, and_true, true_and, x_nb0, x_nb1, x_nbp, x_isL_int, x_isL_ref, x_isL_junk, x_isR_ref, x_cat_nil, x_cat_int, x_cat_ref, x_cat_long, Option.toList_some, Option.toList_none, List.cons_append, List.nil_append, Nat.reduceAdd, Nat.reduceLeDiff, Nat.reduceLT, t_tag_si, t_tag_sr, t_tag_sI, x_r_si, x_i_sr, t_r_sI, x_ia_si, x_ia_sI, x_ia_sr, x_ra_si, x_ra_sI, x_ra_sr, nI_add, hix 1 (by decide), g_t0 hs, e1', t1, e2', lg_self, if_true]
  exact h
theorem law_15 (hJJ : JJ w) {i : Nat} (hix : ∀ k, k < 7 → x_ix (nI (i + k)) L) (hn : ∀ w', JJ w' → X_R L xs (d + 61) 0 1481 [.ref 999, .ref 0, .ref 41, .int (nI i)] [] w' Q) : X_R L xs (d + 61) 0 725 [.ref 999, .ref 0, .ref 41, .int (nI i)] [] w Q := by
  obtain ⟨S, kd, td, mo, kt, nt, r, tls, tks, so, sz, hJ⟩ := hJJ
  have hs := hJ.sh
  obtain ⟨x, w1, w', hj, t1, e1, e2⟩ := CA.law ((AQ_rolled (L := L) (xs := xs) (d := d + 48) hJ.ag (xs (nI (i + 1)).toNatClampNeg) (xs (nI (i + 2)).toNatClampNeg)).ca hJ) (by decide +kernel) (g_t41 hs)
  have e1' : ∀ Q, X_R L xs (d + 60) 22 0 _ [] w Q = Q (some (.int x)) w1 := e1
  have e2' : ∀ Q, X_R L xs (d + 60) 187 0 _ [] w1 Q = Q (some (.int x)) w' := e2
  have h := hn w' hj
  simp only [X0_725, X0_726, X0_727, X0_728, X0_729, X0_730, X0_730s, X0_731, X0_732, X0_733, X0_734, X0_735, X0_735s, X0_736, X0_739, X0_740, X0_741, X0_742, X0_743, X0_744, X0_744s, X0_745, X0_746, X0_747, X0_748, X0_749, X0_749s, X0_750, X0_753, Nat.zero_le, and_true, true_and, x_nb0, x_nb1, x_nbp, x_isL_int, x_isL_ref, x_isL_junk, x_isR_ref, x_cat_nil, x_cat_int, x_cat_ref, x_cat_long, Option.toList_some, Option.toList_none, List.cons_append, List.nil_append, Nat.reduceAdd, Nat.reduceLeDiff, Nat.reduceLT, t_tag_si, t_tag_sr, t_tag_sI, x_r_si, x_i_sr, t_r_sI, x_ia_si, x_ia_sI, x_ia_sr, x_ra_si, x_ra_sI, x_ra_sr, nI_add, hix 1 (by decide), hix 2 (by decide), g_t0 hs, e1', t1, e2', lg_self, if_true]
  exact h
theorem law_16 (hJJ : JJ w) {i : Nat} (hix : ∀ k, k < 7 → x_ix (nI (i + k)) L) (hn : ∀ w', JJ w' → X_R L xs (d + 61) 0 1481 [.ref 999, .ref 0, .ref 41, .int (nI i)] [] w' Q) : X_R L xs (d + 61) 0 758 [.ref 999, .ref 0, .ref 41, .int (nI i)] [] w Q := by
  obtain ⟨S, kd, td, mo, kt, nt, r, tls, tks, so, sz, hJ⟩ := hJJ
  have hs := hJ.sh
  obtain ⟨x, w1, w', hj, t1, e1, e2⟩ := CA.law ((AQ_felt (L := L) (xs := xs) (d := d + 48) hJ.ag (xs (nI (i + 1)).toNatClampNeg) (xs (nI (i + 2)).toNatClampNeg)).ca hJ) (by decide +kernel) (g_t41 hs)
  have e1' : ∀ Q, X_R L xs (d + 60) 23 0 _ [] w Q = Q (some (.int x)) w1 := e1
  have e2' : ∀ Q, X_R L xs (d + 60) 190 0 _ [] w1 Q = Q (some (.int x)) w' := e2
  have h := hn w' hj
  simp only [X0_758, X0_759, X0_760, X0_761, X0_762, X0_763, X0_763s, X0_764, X0_765, X0_766, X0_767, X0_768, X0_768s, X0_769, X0_772, X0_773, X0_774, X0_775, X0_776, X0_777, X0_777s, X0_778, X0_779, X0_780, X0_781, X0_782, X0_782s, X0_783, X0_786, Nat.zero_le, and_true, true_and, x_nb0, x_nb1, x_nbp, x_isL_int, x_isL_ref, x_isL_junk, x_isR_ref, x_cat_nil, x_cat_int, x_cat_ref, x_cat_long, Option.toList_some, Option.toList_none, List.cons_append, List.nil_append, Nat.reduceAdd, Nat.reduceLeDiff, Nat.reduceLT, t_tag_si, t_tag_sr, t_tag_sI, x_r_si, x_i_sr, t_r_sI, x_ia_si, x_ia_sI, x_ia_sr, x_ra_si, x_ra_sI, x_ra_sr, nI_add, hix 1 (by decide), hix 2 (by decide), g_t0 hs, e1', t1, e2', lg_self, if_true]
  exact h
theorem law_17 (hJJ : JJ w) {i : Nat} (hix : ∀ k, k < 7 → x_ix (nI (i + k)) L) (hn : ∀ w', JJ w' → X_R L xs (d + 61) 0 1481 [.ref 999, .ref 0, .ref 41, .int (nI i)] [] w' Q) : X_R L xs (d + 61) 0 791 [.ref 999, .ref 0, .ref 41, .int (nI i)] [] w Q := by
  obtain ⟨S, kd, td, mo, kt, nt, r, tls, tks, so, sz, hJ⟩ := hJJ
  have hs := hJ.sh
  obtain ⟨x, w1, w', hj, t1, e1, e2⟩ := CA.law ((AQ_wakes (L := L) (xs := xs) (d := d + 48) hJ.ag (xs (nI (i + 1)).toNatClampNeg) (xs (nI (i + 2)).toNatClampNeg)).ca hJ) (by decide +kernel) (g_t41 hs)
  have e1' : ∀ Q, X_R L xs (d + 60) 24 0 _ [] w Q = Q (some (.int x)) w1 := e1
  have e2' : ∀ Q, X_R L xs (d + 60) 194 0 _ [] w1 Q = Q (some (.int x)) w' := e2
  have h := hn w' hj
  simp only [X0_791, X0_792, X0_793, X0_794, X0_795, X0_796, X0_796s, X0_797, X0_798, X0_799, X0_800, X0_801, X0_801s, X0_802, X0_805, X0_806, X0_807, X0_808, X0_809, X0_810, X0_810s, X0_811, X0_812, X0_813, X0_814, X0_815, X0_815s, X0_816, X0_819, Nat.zero_le, and_true, true_and, x_nb0, x_nb1, x_nbp, x_isL_int, x_isL_ref, x_isL_junk, x_isR_ref, x_cat_nil, x_cat_int, x_cat_ref, x_cat_long, Option.toList_some, Option.toList_none, List.cons_append, List.nil_append, Nat.reduceAdd, Nat.reduceLeDiff, Nat.reduceLT, t_tag_si, t_tag_sr, t_tag_sI, x_r_si, x_i_sr, t_r_sI, x_ia_si, x_ia_sI, x_ia_sr, x_ra_si, x_ra_sI, x_ra_sr, nI_add, hix 1 (by decide), hix 2 (by decide), g_t0 hs, e1', t1, e2', lg_self, if_true]
  exact h
theorem law_18 (hJJ : JJ w) {i : Nat} (hix : ∀ k, k < 7 → x_ix (nI (i + k)) L) (hn : ∀ w', JJ w' → X_R L xs (d + 61) 0 1481 [.ref 999, .ref 0, .ref 41, .int (nI i)] [] w' Q) : X_R L xs (d + 61) 0 824 [.ref 999, .ref 0, .ref 41, .int (nI i)] [] w Q := by
  obtain ⟨S, kd, td, mo, kt, nt, r, tls, tks, so, sz, hJ⟩ := hJJ
  have hs := hJ.sh
  obtain ⟨x, w1, w', hj, t1, e1, e2⟩ := CA.law ((AQ_night (L := L) (xs := xs) (d := d + 48) hJ.ag ).ca hJ) (by decide +kernel) (g_t41 hs)
  have e1' : ∀ Q, X_R L xs (d + 60) 25 0 _ [] w Q = Q (some (.int x)) w1 := e1
  have e2' : ∀ Q, X_R L xs (d + 60) 199 0 _ [] w1 Q = Q (some (.int x)) w' := e2
  have h := hn w' hj
  simp only [X0_824, X0_825, X0_828, X0_829, X0_832, Nat.zero_le, and_true, true_and, x_nb0, x_nb1, x_nbp, x_isL_int, x_isL_ref, x_isL_junk, x_isR_ref, x_cat_nil, x_cat_int, x_cat_ref, x_cat_long, Option.toList_some, Option.toList_none, List.cons_append, List.nil_append, Nat.reduceAdd, Nat.reduceLeDiff, Nat.reduceLT, t_tag_si, t_tag_sr, t_tag_sI, x_r_si, x_i_sr, t_r_sI, x_ia_si, x_ia_sI, x_ia_sr, x_ra_si, x_ra_sI, x_ra_sr, nI_add, g_t0 hs, e1', t1, e2', lg_self, if_true]
  exact h
theorem law_19 (hJJ : JJ w) {i : Nat} (hix : ∀ k, k < 7 → x_ix (nI (i + k)) L) (hn : ∀ w', JJ w' → X_R L xs (d + 61) 0 1481 [.ref 999, .ref 0, .ref 41, .int (nI i)] [] w' Q) : X_R L xs (d + 61) 0 837 [.ref 999, .ref 0, .ref 41, .int (nI i)] [] w Q := by
  obtain ⟨S, kd, td, mo, kt, nt, r, tls, tks, so, sz, hJ⟩ := hJJ
  have hs := hJ.sh
  obtain ⟨x, w1, w', hj, t1, e1, e2⟩ := CA.law ((AQ_woken (L := L) (xs := xs) (d := d + 48) hJ.ag (xs (nI (i + 1)).toNatClampNeg)).ca hJ) (by decide +kernel) (g_t41 hs)
  have e1' : ∀ Q, X_R L xs (d + 60) 26 0 _ [] w Q = Q (some (.int x)) w1 := e1
  have e2' : ∀ Q, X_R L xs (d + 60) 200 0 _ [] w1 Q = Q (some (.int x)) w' := e2
  have h := hn w' hj
  simp only [X0_837, X0_838, X0_839, X0_840, X0_841, X0_842, X0_842s, X0_843, X0_846, X0_847, X0_848, X0_849, X0_850, X0_851, X0_851s, X0_852, X0_855, Nat.zero_le, and_true, true_and, x_nb0, x_nb1, x_nbp, x_isL_int, x_isL_ref, x_isL_junk, x_isR_ref, x_cat_nil, x_cat_int, x_cat_ref, x_cat_long, Option.toList_some, Option.toList_none, List.cons_append, List.nil_append, Nat.reduceAdd, Nat.reduceLeDiff, Nat.reduceLT, t_tag_si, t_tag_sr, t_tag_sI, x_r_si, x_i_sr, t_r_sI, x_ia_si, x_ia_sI, x_ia_sr, x_ra_si, x_ra_sI, x_ra_sr, nI_add, hix 1 (by decide), g_t0 hs, e1', t1, e2', lg_self, if_true]
  exact h
theorem law_20 (hJJ : JJ w) {i : Nat} (hix : ∀ k, k < 7 → x_ix (nI (i + k)) L) (hn : ∀ w', JJ w' → X_R L xs (d + 61) 0 1481 [.ref 999, .ref 0, .ref 41, .int (nI i)] [] w' Q) : X_R L xs (d + 61) 0 860 [.ref 999, .ref 0, .ref 41, .int (nI i)] [] w Q := by
  obtain ⟨S, kd, td, mo, kt, nt, r, tls, tks, so, sz, hJ⟩ := hJJ
  have hs := hJ.sh
  obtain ⟨x, w1, w', hj, t1, e1, e2⟩ := CA.law ((AQ_place (L := L) (xs := xs) (d := d + 48) hJ.ag (xs (nI (i + 1)).toNatClampNeg) (xs (nI (i + 2)).toNatClampNeg)).ca hJ) (by decide +kernel) (g_t41 hs)
  have e1' : ∀ Q, X_R L xs (d + 60) 27 0 _ [] w Q = Q (some (.int x)) w1 := e1
  have e2' : ∀ Q, X_R L xs (d + 60) 202 0 _ [] w1 Q = Q (some (.int x)) w' := e2
  have h := hn w' hj
  simp only [X0_860, X0_861, X0_862, X0_863, X0_864, X0_865, X0_865s, X0_866, X0_867, X0_868, X0_869, X0_870, X0_870s, X0_871, X0_874, X0_875, X0_876, X0_877, X0_878, X0_879, X0_879s, X0_880, X0_881, X0_882, X0_883, X0_884, X0_884s, X0_885, X0_888, Nat.zero_le, and_true, true_and, x_nb0, x_nb1, x_nbp, x_isL_int, x_isL_ref, x_isL_junk, x_isR_ref, x_cat_nil, x_cat_int, x_cat_ref, x_cat_long, Option.toList_some, Option.toList_none, List.cons_append, List.nil_append, Nat.reduceAdd, Nat.reduceLeDiff, Nat.reduceLT, t_tag_si, t_tag_sr, t_tag_sI, x_r_si, x_i_sr, t_r_sI, x_ia_si, x_ia_sI, x_ia_sr, x_ra_si, x_ra_sI, x_ra_sr, nI_add, hix 1 (by decide), hix 2 (by decide), g_t0 hs, e1', t1, e2', lg_self, if_true]
  exact h
theorem law_21 (hJJ : JJ w) {i : Nat} (hix : ∀ k, k < 7 → x_ix (nI (i + k)) L) (hn : ∀ w', JJ w' → X_R L xs (d + 61) 0 1481 [.ref 999, .ref 0, .ref 41, .int (nI i)] [] w' Q) : X_R L xs (d + 61) 0 893 [.ref 999, .ref 0, .ref 41, .int (nI i)] [] w Q := by
  obtain ⟨S, kd, td, mo, kt, nt, r, tls, tks, so, sz, hJ⟩ := hJJ
  have hs := hJ.sh
  obtain ⟨x, w1, w', hj, t1, e1, e2⟩ := CA.law ((AQ_swap (L := L) (xs := xs) (d := d + 48) hJ.ag (xs (nI (i + 1)).toNatClampNeg)).ca hJ) (by decide +kernel) (g_t41 hs)
  have e1' : ∀ Q, X_R L xs (d + 60) 28 0 _ [] w Q = Q (some (.int x)) w1 := e1
  have e2' : ∀ Q, X_R L xs (d + 60) 203 0 _ [] w1 Q = Q (some (.int x)) w' := e2
  have h := hn w' hj
  simp only [X0_893, X0_894, X0_895, X0_896, X0_897, X0_898, X0_898s, X0_899, X0_902, X0_903, X0_904, X0_905, X0_906, X0_907, X0_907s, X0_908, X0_911, Nat.zero_le, and_true, true_and, x_nb0, x_nb1, x_nbp, x_isL_int, x_isL_ref, x_isL_junk, x_isR_ref, x_cat_nil, x_cat_int, x_cat_ref, x_cat_long, Option.toList_some, Option.toList_none, List.cons_append, List.nil_append, Nat.reduceAdd, Nat.reduceLeDiff, Nat.reduceLT, t_tag_si, t_tag_sr, t_tag_sI, x_r_si, x_i_sr, t_r_sI, x_ia_si, x_ia_sI, x_ia_sr, x_ra_si, x_ra_sI, x_ra_sr, nI_add, hix 1 (by decide), g_t0 hs, e1', t1, e2', lg_self, if_true]
  exact h
theorem law_22 (hJJ : JJ w) {i : Nat} (hix : ∀ k, k < 7 → x_ix (nI (i + k)) L) (hn : ∀ w', JJ w' → X_R L xs (d + 61) 0 1481 [.ref 999, .ref 0, .ref 41, .int (nI i)] [] w' Q) : X_R L xs (d + 61) 0 916 [.ref 999, .ref 0, .ref 41, .int (nI i)] [] w Q := by
  obtain ⟨S, kd, td, mo, kt, nt, r, tls, tks, so, sz, hJ⟩ := hJJ
  have hs := hJ.sh
  obtain ⟨x, w1, w', hj, t1, e1, e2⟩ := CA.law ((AQ_rest (L := L) (xs := xs) (d := d + 48) hJ.ag ).ca hJ) (by decide +kernel) (g_t41 hs)
  have e1' : ∀ Q, X_R L xs (d + 60) 29 0 _ [] w Q = Q (some (.int x)) w1 := e1
  have e2' : ∀ Q, X_R L xs (d + 60) 205 0 _ [] w1 Q = Q (some (.int x)) w' := e2
  have h := hn w' hj
  simp only [X0_916, X0_917, X0_920, X0_921, X0_924, Nat.zero_le, and_true, true_and, x_nb0, x_nb1, x_nbp, x_isL_int, x_isL_ref, x_isL_junk, x_isR_ref, x_cat_nil, x_cat_int, x_cat_ref, x_cat_long, Option.toList_some, Option.toList_none, List.cons_append, List.nil_append, Nat.reduceAdd, Nat.reduceLeDiff, Nat.reduceLT, t_tag_si, t_tag_sr, t_tag_sI, x_r_si, x_i_sr, t_r_sI, x_ia_si, x_ia_sI, x_ia_sr, x_ra_si, x_ra_sI, x_ra_sr, nI_add, g_t0 hs, e1', t1, e2', lg_self, if_true]
  exact h
theorem law_23 (hJJ : JJ w) {i : Nat} (hix : ∀ k, k < 7 → x_ix (nI (i + k)) L) (hn : ∀ w', JJ w' → X_R L xs (d + 61) 0 1481 [.ref 999, .ref 0, .ref 41, .int (nI i)] [] w' Q) : X_R L xs (d + 61) 0 929 [.ref 999, .ref 0, .ref 41, .int (nI i)] [] w Q := by
  obtain ⟨S, kd, td, mo, kt, nt, r, tls, tks, so, sz, hJ⟩ := hJJ
  have hs := hJ.sh
  obtain ⟨x, w1, w', hj, t1, e1, e2⟩ := CA.law ((AQ_order (L := L) (xs := xs) (d := d + 48) hJ.ag (xs (nI (i + 1)).toNatClampNeg)).ca hJ) (by decide +kernel) (g_t41 hs)
  have e1' : ∀ Q, X_R L xs (d + 60) 30 0 _ [] w Q = Q (some (.int x)) w1 := e1
  have e2' : ∀ Q, X_R L xs (d + 60) 208 0 _ [] w1 Q = Q (some (.int x)) w' := e2
  have h := hn w' hj
  simp only [X0_929, X0_930, X0_931, X0_932, X0_933, X0_934, X0_934s, X0_935, X0_938, X0_939, X0_940, X0_941, X0_942, X0_943, X0_943s, X0_944, X0_947, Nat.zero_le, and_true, true_and, x_nb0, x_nb1, x_nbp, x_isL_int, x_isL_ref, x_isL_junk, x_isR_ref, x_cat_nil, x_cat_int, x_cat_ref, x_cat_long, Option.toList_some, Option.toList_none, List.cons_append, List.nil_append, Nat.reduceAdd, Nat.reduceLeDiff, Nat.reduceLT, t_tag_si, t_tag_sr, t_tag_sI, x_r_si, x_i_sr, t_r_sI, x_ia_si, x_ia_sI, x_ia_sr, x_ra_si, x_ra_sI, x_ra_sr, nI_add, hix 1 (by decide), g_t0 hs, e1', t1, e2', lg_self, if_true]
  exact h
theorem law_24 (hJJ : JJ w) {i : Nat} (hix : ∀ k, k < 7 → x_ix (nI (i + k)) L) (hn : ∀ w', JJ w' → X_R L xs (d + 61) 0 1481 [.ref 999, .ref 0, .ref 41, .int (nI i)] [] w' Q) : X_R L xs (d + 61) 0 952 [.ref 999, .ref 0, .ref 41, .int (nI i)] [] w Q := by
  obtain ⟨S, kd, td, mo, kt, nt, r, tls, tks, so, sz, hJ⟩ := hJJ
  have hs := hJ.sh
  obtain ⟨x, w1, w', hj, t1, e1, e2⟩ := CA.law ((AQ_mend (L := L) (xs := xs) (d := d + 48) hJ.ag (xs (nI (i + 1)).toNatClampNeg)).ca hJ) (by decide +kernel) (g_t41 hs)
  have e1' : ∀ Q, X_R L xs (d + 60) 31 0 _ [] w Q = Q (some (.int x)) w1 := e1
  have e2' : ∀ Q, X_R L xs (d + 60) 210 0 _ [] w1 Q = Q (some (.int x)) w' := e2
  have h := hn w' hj
  simp only [X0_952, X0_953, X0_954, X0_955, X0_956, X0_957, X0_957s, X0_958, X0_961, X0_962, X0_963, X0_964, X0_965, X0_966, X0_966s, X0_967, X0_970, Nat.zero_le, and_true, true_and, x_nb0, x_nb1, x_nbp, x_isL_int, x_isL_ref, x_isL_junk, x_isR_ref, x_cat_nil, x_cat_int, x_cat_ref, x_cat_long, Option.toList_some, Option.toList_none, List.cons_append, List.nil_append, Nat.reduceAdd, Nat.reduceLeDiff, Nat.reduceLT, t_tag_si, t_tag_sr, t_tag_sI, x_r_si, x_i_sr, t_r_sI, x_ia_si, x_ia_sI, x_ia_sr, x_ra_si, x_ra_sI, x_ra_sr, nI_add, hix 1 (by decide), g_t0 hs, e1', t1, e2', lg_self, if_true]
  exact h
theorem law_25 (hJJ : JJ w) {i : Nat} (hix : ∀ k, k < 7 → x_ix (nI (i + k)) L) (hn : ∀ w', JJ w' → X_R L xs (d + 61) 0 1481 [.ref 999, .ref 0, .ref 41, .int (nI i)] [] w' Q) : X_R L xs (d + 61) 0 975 [.ref 999, .ref 0, .ref 41, .int (nI i)] [] w Q := by
  obtain ⟨S, kd, td, mo, kt, nt, r, tls, tks, so, sz, hJ⟩ := hJJ
  have hs := hJ.sh
  obtain ⟨x, w1, w', hj, t1, e1, e2⟩ := CA.law ((AQ_rim (L := L) (xs := xs) (d := d + 48) hJ.ag (xs (nI (i + 1)).toNatClampNeg)).ca hJ) (by decide +kernel) (g_t41 hs)
  have e1' : ∀ Q, X_R L xs (d + 60) 32 0 _ [] w Q = Q (some (.int x)) w1 := e1
  have e2' : ∀ Q, X_R L xs (d + 60) 212 0 _ [] w1 Q = Q (some (.int x)) w' := e2
  have h := hn w' hj
  simp only [X0_975, X0_976, X0_977, X0_978, X0_979, X0_980, X0_980s, X0_981, X0_984, X0_985, X0_986, X0_987, X0_988, X0_989, X0_989s, X0_990, X0_993, Nat.zero_le, and_true, true_and, x_nb0, x_nb1, x_nbp, x_isL_int, x_isL_ref, x_isL_junk, x_isR_ref, x_cat_nil, x_cat_int, x_cat_ref, x_cat_long, Option.toList_some, Option.toList_none, List.cons_append, List.nil_append, Nat.reduceAdd, Nat.reduceLeDiff, Nat.reduceLT, t_tag_si, t_tag_sr, t_tag_sI, x_r_si, x_i_sr, t_r_sI, x_ia_si, x_ia_sI, x_ia_sr, x_ra_si, x_ra_sI, x_ra_sr, nI_add, hix 1 (by decide), g_t0 hs, e1', t1, e2', lg_self, if_true]
  exact h
theorem law_26 (hJJ : JJ w) {i : Nat} (hix : ∀ k, k < 7 → x_ix (nI (i + k)) L) (hn : ∀ w', JJ w' → X_R L xs (d + 61) 0 1481 [.ref 999, .ref 0, .ref 41, .int (nI i)] [] w' Q) : X_R L xs (d + 61) 0 998 [.ref 999, .ref 0, .ref 41, .int (nI i)] [] w Q := by
  obtain ⟨S, kd, td, mo, kt, nt, r, tls, tks, so, sz, hJ⟩ := hJJ
  have hs := hJ.sh
  obtain ⟨x, w1, w', hj, t1, e1, e2⟩ := CA.law ((AQ_turned (L := L) (xs := xs) (d := d + 48) hJ.ag (xs (nI (i + 1)).toNatClampNeg) (xs (nI (i + 2)).toNatClampNeg)).ca hJ) (by decide +kernel) (g_t41 hs)
  have e1' : ∀ Q, X_R L xs (d + 60) 33 0 _ [] w Q = Q (some (.int x)) w1 := e1
  have e2' : ∀ Q, X_R L xs (d + 60) 213 0 _ [] w1 Q = Q (some (.int x)) w' := e2
  have h := hn w' hj
  simp only [X0_998, X0_999, X0_1000, X0_1001, X0_1002, X0_1003, X0_1003s, X0_1004, X0_1005, X0_1006, X0_1007, X0_1008, X0_1008s, X0_1009, X0_1012, X0_1013, X0_1014, X0_1015, X0_1016, X0_1017, X0_1017s, X0_1018, X0_1019, X0_1020, X0_1021, X0_1022, X0_1022s, X0_1023, X0_1026, Nat.zero_le, and_true, true_and, x_nb0, x_nb1, x_nbp, x_isL_int, x_isL_ref, x_isL_junk, x_isR_ref, x_cat_nil, x_cat_int, x_cat_ref, x_cat_long, Option.toList_some, Option.toList_none, List.cons_append, List.nil_append, Nat.reduceAdd, Nat.reduceLeDiff, Nat.reduceLT, t_tag_si, t_tag_sr, t_tag_sI, x_r_si, x_i_sr, t_r_sI, x_ia_si, x_ia_sI, x_ia_sr, x_ra_si, x_ra_sI, x_ra_sr, nI_add, hix 1 (by decide), hix 2 (by decide), g_t0 hs, e1', t1, e2', lg_self, if_true]
  exact h
theorem law_27 (hJJ : JJ w) {i : Nat} (hix : ∀ k, k < 7 → x_ix (nI (i + k)) L) (hn : ∀ w', JJ w' → X_R L xs (d + 61) 0 1481 [.ref 999, .ref 0, .ref 41, .int (nI i)] [] w' Q) : X_R L xs (d + 61) 0 1031 [.ref 999, .ref 0, .ref 41, .int (nI i)] [] w Q := by
  obtain ⟨S, kd, td, mo, kt, nt, r, tls, tks, so, sz, hJ⟩ := hJJ
  have hs := hJ.sh
  obtain ⟨x, w1, w', hj, t1, e1, e2⟩ := CA.law ((AQ_laws (L := L) (xs := xs) (d := d + 48) hJ.1 (xs (nI (i + 1)).toNatClampNeg) (xs (nI (i + 2)).toNatClampNeg)).ca hJ) (by decide +kernel) (g_t41 hs)
  have e1' : ∀ Q, X_R L xs (d + 60) 34 0 _ [] w Q = Q (some (.int x)) w1 := e1
  have e2' : ∀ Q, X_R L xs (d + 60) 214 0 _ [] w1 Q = Q (some (.int x)) w' := e2
  have h := hn w' hj
  simp only [X0_1031, X0_1032, X0_1033, X0_1034, X0_1035, X0_1036, X0_1036s, X0_1037, X0_1038, X0_1039, X0_1040, X0_1041, X0_1041s, X0_1042, X0_1045, X0_1046, X0_1047, X0_1048, X0_1049, X0_1050, X0_1050s, X0_1051, X0_1052, X0_1053, X0_1054, X0_1055, X0_1055s, X0_1056, X0_1059, Nat.zero_le, and_true, true_and, x_nb0, x_nb1, x_nbp, x_isL_int, x_isL_ref, x_isL_junk, x_isR_ref, x_cat_nil, x_cat_int, x_cat_ref, x_cat_long, Option.toList_some, Option.toList_none, List.cons_append, List.nil_append, Nat.reduceAdd, Nat.reduceLeDiff, Nat.reduceLT, t_tag_si, t_tag_sr, t_tag_sI, x_r_si, x_i_sr, t_r_sI, x_ia_si, x_ia_sI, x_ia_sr, x_ra_si, x_ra_sI, x_ra_sr, nI_add, hix 1 (by decide), hix 2 (by decide), g_t0 hs, e1', t1, e2', lg_self, if_true]
  exact h
theorem law_28 (hJJ : JJ w) {i : Nat} (hix : ∀ k, k < 7 → x_ix (nI (i + k)) L) (hn : ∀ w', JJ w' → X_R L xs (d + 61) 0 1481 [.ref 999, .ref 0, .ref 41, .int (nI i)] [] w' Q) : X_R L xs (d + 61) 0 1064 [.ref 999, .ref 0, .ref 41, .int (nI i)] [] w Q := by
  obtain ⟨S, kd, td, mo, kt, nt, r, tls, tks, so, sz, hJ⟩ := hJJ
  have hs := hJ.sh
  obtain ⟨x, w1, w', hj, t1, e1, e2⟩ := CA.law ((AQ_judge (L := L) (xs := xs) (d := d + 48) hJ.ag hJ.2.1 (xs (nI (i + 1)).toNatClampNeg)).ca hJ) (by decide +kernel) (g_t41 hs)
  have e1' : ∀ Q, X_R L xs (d + 60) 35 0 _ [] w Q = Q (some (.int x)) w1 := e1
  have e2' : ∀ Q, X_R L xs (d + 60) 215 0 _ [] w1 Q = Q (some (.int x)) w' := e2
  have h := hn w' hj
  simp only [X0_1064, X0_1065, X0_1066, X0_1067, X0_1068, X0_1069, X0_1069s, X0_1070, X0_1073, X0_1074, X0_1075, X0_1076, X0_1077, X0_1078, X0_1078s, X0_1079, X0_1082, Nat.zero_le, and_true, true_and, x_nb0, x_nb1, x_nbp, x_isL_int, x_isL_ref, x_isL_junk, x_isR_ref, x_cat_nil, x_cat_int, x_cat_ref, x_cat_long, Option.toList_some, Option.toList_none, List.cons_append, List.nil_append, Nat.reduceAdd, Nat.reduceLeDiff, Nat.reduceLT, t_tag_si, t_tag_sr, t_tag_sI, x_r_si, x_i_sr, t_r_sI, x_ia_si, x_ia_sI, x_ia_sr, x_ra_si, x_ra_sI, x_ra_sr, nI_add, hix 1 (by decide), g_t0 hs, e1', t1, e2', lg_self, if_true]
  exact h
theorem law_29 (hJJ : JJ w) {i : Nat} (hix : ∀ k, k < 7 → x_ix (nI (i + k)) L) (hn : ∀ w', JJ w' → X_R L xs (d + 61) 0 1481 [.ref 999, .ref 0, .ref 41, .int (nI i)] [] w' Q) : X_R L xs (d + 61) 0 1087 [.ref 999, .ref 0, .ref 41, .int (nI i)] [] w Q := by
  obtain ⟨S, kd, td, mo, kt, nt, r, tls, tks, so, sz, hJ⟩ := hJJ
  have hs := hJ.sh
  obtain ⟨x, w1, w', hj, t1, e1, e2⟩ := CA.law ((AQ_where (L := L) (xs := xs) (d := d + 48) hJ.ag hJ.2.1 (xs (nI (i + 1)).toNatClampNeg) (xs (nI (i + 2)).toNatClampNeg)).ca hJ) (by decide +kernel) (g_t41 hs)
  have e1' : ∀ Q, X_R L xs (d + 60) 39 0 _ [] w Q = Q (some (.int x)) w1 := e1
  have e2' : ∀ Q, X_R L xs (d + 60) 218 0 _ [] w1 Q = Q (some (.int x)) w' := e2
  have h := hn w' hj
  simp only [X0_1087, X0_1088, X0_1089, X0_1090, X0_1091, X0_1092, X0_1092s, X0_1093, X0_1094, X0_1095, X0_1096, X0_1097, X0_1097s, X0_1098, X0_1101, X0_1102, X0_1103, X0_1104, X0_1105, X0_1106, X0_1106s, X0_1107, X0_1108, X0_1109, X0_1110, X0_1111, X0_1111s, X0_1112, X0_1115, Nat.zero_le, and_true, true_and, x_nb0, x_nb1, x_nbp, x_isL_int, x_isL_ref, x_isL_junk, x_isR_ref, x_cat_nil, x_cat_int, x_cat_ref, x_cat_long, Option.toList_some, Option.toList_none, List.cons_append, List.nil_append, Nat.reduceAdd, Nat.reduceLeDiff, Nat.reduceLT, t_tag_si, t_tag_sr, t_tag_sI, x_r_si, x_i_sr, t_r_sI, x_ia_si, x_ia_sI, x_ia_sr, x_ra_si, x_ra_sI, x_ra_sr, nI_add, hix 1 (by decide), hix 2 (by decide), g_t0 hs, e1', t1, e2', lg_self, if_true]
  exact h
theorem law_30 (hJJ : JJ w) {i : Nat} (hix : ∀ k, k < 7 → x_ix (nI (i + k)) L) (hn : ∀ w', JJ w' → X_R L xs (d + 61) 0 1481 [.ref 999, .ref 0, .ref 41, .int (nI i)] [] w' Q) : X_R L xs (d + 61) 0 1120 [.ref 999, .ref 0, .ref 41, .int (nI i)] [] w Q := by
  obtain ⟨S, kd, td, mo, kt, nt, r, tls, tks, so, sz, hJ⟩ := hJJ
  have hs := hJ.sh
  obtain ⟨x, w1, w', hj, t1, e1, e2⟩ := CA.law (CA_film (L := L) (xs := xs) (d := d + 48) hJ (xs (nI (i + 1)).toNatClampNeg)) (by decide +kernel) (g_t41 hs)
  have e1' : ∀ Q, X_R L xs (d + 60) 40 0 _ [] w Q = Q (some (.int x)) w1 := e1
  have e2' : ∀ Q, X_R L xs (d + 60) 219 0 _ [] w1 Q = Q (some (.int x)) w' := e2
  have h := hn w' hj
  simp only [X0_1120, X0_1121, X0_1122, X0_1123, X0_1124, X0_1125, X0_1125s, X0_1126, X0_1129, X0_1130, X0_1131, X0_1132, X0_1133, X0_1134, X0_1134s, X0_1135, X0_1138, Nat.zero_le, and_true, true_and, x_nb0, x_nb1, x_nbp, x_isL_int, x_isL_ref, x_isL_junk, x_isR_ref, x_cat_nil, x_cat_int, x_cat_ref, x_cat_long, Option.toList_some, Option.toList_none, List.cons_append, List.nil_append, Nat.reduceAdd, Nat.reduceLeDiff, Nat.reduceLT, t_tag_si, t_tag_sr, t_tag_sI, x_r_si, x_i_sr, t_r_sI, x_ia_si, x_ia_sI, x_ia_sr, x_ra_si, x_ra_sI, x_ra_sr, nI_add, hix 1 (by decide), g_t0 hs, e1', t1, e2', lg_self, if_true]
  exact h
theorem law_31 (hJJ : JJ w) {i : Nat} (hix : ∀ k, k < 7 → x_ix (nI (i + k)) L) (hn : ∀ w', JJ w' → X_R L xs (d + 61) 0 1481 [.ref 999, .ref 0, .ref 41, .int (nI i)] [] w' Q) : X_R L xs (d + 61) 0 1143 [.ref 999, .ref 0, .ref 41, .int (nI i)] [] w Q := by
  obtain ⟨S, kd, td, mo, kt, nt, r, tls, tks, so, sz, hJ⟩ := hJJ
  have hs := hJ.sh
  obtain ⟨x, w1, w', hj, t1, e1, e2⟩ := CA.law ((AQ_drawn (L := L) (xs := xs) (d := d + 48) hJ.ag (xs (nI (i + 1)).toNatClampNeg) (xs (nI (i + 2)).toNatClampNeg)).ca hJ) (by decide +kernel) (g_t41 hs)
  have e1' : ∀ Q, X_R L xs (d + 60) 41 0 _ [] w Q = Q (some (.int x)) w1 := e1
  have e2' : ∀ Q, X_R L xs (d + 60) 220 0 _ [] w1 Q = Q (some (.int x)) w' := e2
  have h := hn w' hj
  simp only [X0_1143, X0_1144, X0_1145, X0_1146, X0_1147, X0_1148, X0_1148s, X0_1149, X0_1150, X0_1151, X0_1152, X0_1153, X0_1153s, X0_1154, X0_1157, X0_1158, X0_1159, X0_1160, X0_1161, X0_1162, X0_1162s, X0_1163, X0_1164, X0_1165, X0_1166, X0_1167, X0_1167s, X0_1168, X0_1171, Nat.zero_le, and_true, true_and, x_nb0, x_nb1, x_nbp, x_isL_int, x_isL_ref, x_isL_junk, x_isR_ref, x_cat_nil, x_cat_int, x_cat_ref, x_cat_long, Option.toList_some, Option.toList_none, List.cons_append, List.nil_append, Nat.reduceAdd, Nat.reduceLeDiff, Nat.reduceLT, t_tag_si, t_tag_sr, t_tag_sI, x_r_si, x_i_sr, t_r_sI, x_ia_si, x_ia_sI, x_ia_sr, x_ra_si, x_ra_sI, x_ra_sr, nI_add, hix 1 (by decide), hix 2 (by decide), g_t0 hs, e1', t1, e2', lg_self, if_true]
  exact h
theorem law_32 (hJJ : JJ w) {i : Nat} (hix : ∀ k, k < 7 → x_ix (nI (i + k)) L) (hn : ∀ w', JJ w' → X_R L xs (d + 61) 0 1481 [.ref 999, .ref 0, .ref 41, .int (nI i)] [] w' Q) : X_R L xs (d + 61) 0 1176 [.ref 999, .ref 0, .ref 41, .int (nI i)] [] w Q := by
  obtain ⟨S, kd, td, mo, kt, nt, r, tls, tks, so, sz, hJ⟩ := hJJ
  have hs := hJ.sh
  obtain ⟨x, w1, w', hj, t1, e1, e2⟩ := AQl.law (AQl_odds (L := L) (xs := xs) (d := d + 48) hJ.ag (xs (nI (i + 1)).toNatClampNeg) (xs (nI (i + 2)).toNatClampNeg) (xs (nI (i + 3)).toNatClampNeg)) hJ (g_t41 hs)
  have e1' : ∀ Q, X_R L xs (d + 60) 43 0 _ [] w Q = Q (some (.long x)) w1 := e1
  have e2' : ∀ Q, X_R L xs (d + 60) 222 0 _ [] w1 Q = Q (some (.long x)) w' := e2
  have h := hn w' hj
  simp only [X0_1176, X0_1177, X0_1178, X0_1179, X0_1180, X0_1181, X0_1181s, X0_1182, X0_1183, X0_1184, X0_1185, X0_1186, X0_1186s, X0_1187, X0_1188, X0_1189, X0_1190, X0_1191, X0_1191s, X0_1192, X0_1195, X0_1196, X0_1197, X0_1198, X0_1199, X0_1200, X0_1200s, X0_1201, X0_1202, X0_1203, X0_1204, X0_1205, X0_1205s, X0_1206, X0_1207, X0_1208, X0_1209, X0_1210, X0_1210s, X0_1211, X0_1214, X0_1215, Nat.zero_le, and_true, true_and, x_nb0, x_nb1, x_nbp, x_isL_int, x_isL_ref, x_isL_junk, x_isR_ref, x_cat_nil, x_cat_int, x_cat_ref, x_cat_long, Option.toList_some, Option.toList_none, List.cons_append, List.nil_append, Nat.reduceAdd, Nat.reduceLeDiff, Nat.reduceLT, t_tag_si, t_tag_sr, t_tag_sI, x_r_si, x_i_sr, t_r_sI, x_ia_si, x_ia_sI, x_ia_sr, x_ra_si, x_ra_sI, x_ra_sr, nI_add, hix 1 (by decide), hix 2 (by decide), hix 3 (by decide), g_t0 hs, e1', t1, e2', lg_self, if_true]
  exact h
theorem law_33 (hJJ : JJ w) {i : Nat} (hix : ∀ k, k < 7 → x_ix (nI (i + k)) L) (hn : ∀ w', JJ w' → X_R L xs (d + 61) 0 1481 [.ref 999, .ref 0, .ref 41, .int (nI i)] [] w' Q) : X_R L xs (d + 61) 0 1220 [.ref 999, .ref 0, .ref 41, .int (nI i)] [] w Q := by
  obtain ⟨S, kd, td, mo, kt, nt, r, tls, tks, so, sz, hJ⟩ := hJJ
  have hs := hJ.sh
  obtain ⟨x, w1, w', hj, t1, e1, e2⟩ := CA.law (CA_image (L := L) (xs := xs) (d := d + 48) hJ ) (by decide +kernel) (g_t41 hs)
  have e1' : ∀ Q, X_R L xs (d + 60) 44 0 _ [] w Q = Q (some (.int x)) w1 := e1
  have e2' : ∀ Q, X_R L xs (d + 60) 224 0 _ [] w1 Q = Q (some (.int x)) w' := e2
  have h := hn w' hj
  simp only [X0_1220, X0_1221, X0_1224, X0_1225, X0_1228, Nat.zero_le, and_true, true_and, x_nb0, x_nb1, x_nbp, x_isL_int, x_isL_ref, x_isL_junk, x_isR_ref, x_cat_nil, x_cat_int, x_cat_ref, x_cat_long, Option.toList_some, Option.toList_none, List.cons_append, List.nil_append, Nat.reduceAdd, Nat.reduceLeDiff, Nat.reduceLT, t_tag_si, t_tag_sr, t_tag_sI, x_r_si, x_i_sr, t_r_sI, x_ia_si, x_ia_sI, x_ia_sr, x_ra_si, x_ra_sI, x_ra_sr, nI_add, g_t0 hs, e1', t1, e2', lg_self, if_true]
  exact h
theorem law_34 (hJJ : JJ w) {i : Nat} (hix : ∀ k, k < 7 → x_ix (nI (i + k)) L) (hn : ∀ w', JJ w' → X_R L xs (d + 61) 0 1481 [.ref 999, .ref 0, .ref 41, .int (nI i)] [] w' Q) : X_R L xs (d + 61) 0 1233 [.ref 999, .ref 0, .ref 41, .int (nI i)] [] w Q := by
  obtain ⟨S, kd, td, mo, kt, nt, r, tls, tks, so, sz, hJ⟩ := hJJ
  have hs := hJ.sh
  obtain ⟨x, w1, w', hj, t1, e1, e2⟩ := CA.law (CA_back (L := L) (xs := xs) (d := d + 48) hJ ) (by decide +kernel) (g_t41 hs)
  have e1' : ∀ Q, X_R L xs (d + 60) 45 0 _ [] w Q = Q (some (.int x)) w1 := e1
  have e2' : ∀ Q, X_R L xs (d + 60) 225 0 _ [] w1 Q = Q (some (.int x)) w' := e2
  have h := hn w' hj
  simp only [X0_1233, X0_1234, X0_1237, X0_1238, X0_1241, Nat.zero_le, and_true, true_and, x_nb0, x_nb1, x_nbp, x_isL_int, x_isL_ref, x_isL_junk, x_isR_ref, x_cat_nil, x_cat_int, x_cat_ref, x_cat_long, Option.toList_some, Option.toList_none, List.cons_append, List.nil_append, Nat.reduceAdd, Nat.reduceLeDiff, Nat.reduceLT, t_tag_si, t_tag_sr, t_tag_sI, x_r_si, x_i_sr, t_r_sI, x_ia_si, x_ia_sI, x_ia_sr, x_ra_si, x_ra_sI, x_ra_sr, nI_add, g_t0 hs, e1', t1, e2', lg_self, if_true]
  exact h
theorem law_35 (hJJ : JJ w) {i : Nat} (hix : ∀ k, k < 7 → x_ix (nI (i + k)) L) (hn : ∀ w', JJ w' → X_R L xs (d + 61) 0 1481 [.ref 999, .ref 0, .ref 41, .int (nI i)] [] w' Q) : X_R L xs (d + 61) 0 1246 [.ref 999, .ref 0, .ref 41, .int (nI i)] [] w Q := by
  obtain ⟨S, kd, td, mo, kt, nt, r, tls, tks, so, sz, hJ⟩ := hJJ
  have hs := hJ.sh
  obtain ⟨x, w1, w', hj, t1, e1, e2⟩ := CA.law (CA_sheet (L := L) (xs := xs) (d := d + 48) hJ (xs (nI (i + 1)).toNatClampNeg) (xs (nI (i + 2)).toNatClampNeg) (xs (nI (i + 3)).toNatClampNeg)) (by decide +kernel) (g_t41 hs)
  have e1' : ∀ Q, X_R L xs (d + 60) 46 0 _ [] w Q = Q (some (.int x)) w1 := e1
  have e2' : ∀ Q, X_R L xs (d + 60) 226 0 _ [] w1 Q = Q (some (.int x)) w' := e2
  have h := hn w' hj
  simp only [X0_1246, X0_1247, X0_1248, X0_1249, X0_1250, X0_1251, X0_1251s, X0_1252, X0_1253, X0_1254, X0_1255, X0_1256, X0_1256s, X0_1257, X0_1258, X0_1259, X0_1260, X0_1261, X0_1261s, X0_1262, X0_1265, X0_1266, X0_1267, X0_1268, X0_1269, X0_1270, X0_1270s, X0_1271, X0_1272, X0_1273, X0_1274, X0_1275, X0_1275s, X0_1276, X0_1277, X0_1278, X0_1279, X0_1280, X0_1280s, X0_1281, X0_1284, Nat.zero_le, and_true, true_and, x_nb0, x_nb1, x_nbp, x_isL_int, x_isL_ref, x_isL_junk, x_isR_ref, x_cat_nil, x_cat_int, x_cat_ref, x_cat_long, Option.toList_some, Option.toList_none, List.cons_append, List.nil_append, Nat.reduceAdd, Nat.reduceLeDiff, Nat.reduceLT, t_tag_si, t_tag_sr, t_tag_sI, x_r_si, x_i_sr, t_r_sI, x_ia_si, x_ia_sI, x_ia_sr, x_ra_si, x_ra_sI, x_ra_sr, nI_add, hix 1 (by decide), hix 2 (by decide), hix 3 (by decide), g_t0 hs, e1', t1, e2', lg_self, if_true]
  exact h
theorem law_36 (hJJ : JJ w) {i : Nat} (hix : ∀ k, k < 7 → x_ix (nI (i + k)) L) (hn : ∀ w', JJ w' → X_R L xs (d + 61) 0 1481 [.ref 999, .ref 0, .ref 41, .int (nI i)] [] w' Q) : X_R L xs (d + 61) 0 1289 [.ref 999, .ref 0, .ref 41, .int (nI i)] [] w Q := by
  obtain ⟨S, kd, td, mo, kt, nt, r, tls, tks, so, sz, hJ⟩ := hJJ
  have hs := hJ.sh
  obtain ⟨x, w1, w', hj, t1, e1, e2⟩ := CA.law (CA_cell (L := L) (xs := xs) (d := d + 48) hJ (xs (nI (i + 1)).toNatClampNeg) (xs (nI (i + 2)).toNatClampNeg) (xs (nI (i + 3)).toNatClampNeg)) (by decide +kernel) (g_t41 hs)
  have e1' : ∀ Q, X_R L xs (d + 60) 47 0 _ [] w Q = Q (some (.int x)) w1 := e1
  have e2' : ∀ Q, X_R L xs (d + 60) 227 0 _ [] w1 Q = Q (some (.int x)) w' := e2
  have h := hn w' hj
  simp only [X0_1289, X0_1290, X0_1291, X0_1292, X0_1293, X0_1294, X0_1294s, X0_1295, X0_1296, X0_1297, X0_1298, X0_1299, X0_1299s, X0_1300, X0_1301, X0_1302, X0_1303, X0_1304, X0_1304s, X0_1305, X0_1308, X0_1309, X0_1310, X0_1311, X0_1312, X0_1313, X0_1313s, X0_1314, X0_1315, X0_1316, X0_1317, X0_1318, X0_1318s, X0_1319, X0_1320, X0_1321, X0_1322, X0_1323, X0_1323s, X0_1324, X0_1327, Nat.zero_le, and_true, true_and, x_nb0, x_nb1, x_nbp, x_isL_int, x_isL_ref, x_isL_junk, x_isR_ref, x_cat_nil, x_cat_int, x_cat_ref, x_cat_long, Option.toList_some, Option.toList_none, List.cons_append, List.nil_append, Nat.reduceAdd, Nat.reduceLeDiff, Nat.reduceLT, t_tag_si, t_tag_sr, t_tag_sI, x_r_si, x_i_sr, t_r_sI, x_ia_si, x_ia_sI, x_ia_sr, x_ra_si, x_ra_sI, x_ra_sr, nI_add, hix 1 (by decide), hix 2 (by decide), hix 3 (by decide), g_t0 hs, e1', t1, e2', lg_self, if_true]
  exact h
theorem law_37 (hJJ : JJ w) {i : Nat} (hix : ∀ k, k < 7 → x_ix (nI (i + k)) L) (hn : ∀ w', JJ w' → X_R L xs (d + 61) 0 1481 [.ref 999, .ref 0, .ref 41, .int (nI i)] [] w' Q) : X_R L xs (d + 61) 0 1332 [.ref 999, .ref 0, .ref 41, .int (nI i)] [] w Q := by
  obtain ⟨S, kd, td, mo, kt, nt, r, tls, tks, so, sz, hJ⟩ := hJJ
  have hs := hJ.sh
  obtain ⟨x, w1, w', hj, t1, e1, e2⟩ := CA.law (CA_copy (L := L) (xs := xs) (d := d + 48) hJ (xs (nI (i + 1)).toNatClampNeg) (xs (nI (i + 2)).toNatClampNeg) (xs (nI (i + 3)).toNatClampNeg) (xs (nI (i + 4)).toNatClampNeg) (xs (nI (i + 5)).toNatClampNeg)) (by decide +kernel) (g_t41 hs)
  have e1' : ∀ Q, X_R L xs (d + 60) 48 0 _ [] w Q = Q (some (.int x)) w1 := e1
  have e2' : ∀ Q, X_R L xs (d + 60) 228 0 _ [] w1 Q = Q (some (.int x)) w' := e2
  have h := hn w' hj
  simp only [X0_1332, X0_1333, X0_1334, X0_1335, X0_1336, X0_1337, X0_1337s, X0_1338, X0_1339, X0_1340, X0_1341, X0_1342, X0_1342s, X0_1343, X0_1344, X0_1345, X0_1346, X0_1347, X0_1347s, X0_1348, X0_1349, X0_1350, X0_1351, X0_1352, X0_1352s, X0_1353, X0_1354, X0_1355, X0_1356, X0_1357, X0_1357s, X0_1358, X0_1361, X0_1362, X0_1363, X0_1364, X0_1365, X0_1366, X0_1366s, X0_1367, X0_1368, X0_1369, X0_1370, X0_1371, X0_1371s, X0_1372, X0_1373, X0_1374, X0_1375, X0_1376, X0_1376s, X0_1377, X0_1378, X0_1379, X0_1380, X0_1381, X0_1381s, X0_1382, X0_1383, X0_1384, X0_1385, X0_1386, X0_1386s, X0_1387, X0_1390, Nat.zero_le, and_true, true_and, x_nb0, x_nb1, x_nbp, x_isL_int, x_isL_ref, x_isL_junk, x_isR_ref, x_cat_nil, x_cat_int, x_cat_ref, x_cat_long, Option.toList_some, Option.toList_none, List.cons_append, List.nil_append, Nat.reduceAdd, Nat.reduceLeDiff, Nat.reduceLT, t_tag_si, t_tag_sr, t_tag_sI, x_r_si, x_i_sr, t_r_sI, x_ia_si, x_ia_sI, x_ia_sr, x_ra_si, x_ra_sI, x_ra_sr, nI_add, hix 1 (by decide), hix 2 (by decide), hix 3 (by decide), hix 4 (by decide), hix 5 (by decide), g_t0 hs, e1', t1, e2', lg_self, if_true]
  exact h
theorem law_38 (hJJ : JJ w) {i : Nat} (hix : ∀ k, k < 7 → x_ix (nI (i + k)) L) (hn : ∀ w', JJ w' → X_R L xs (d + 61) 0 1481 [.ref 999, .ref 0, .ref 41, .int (nI i)] [] w' Q) : X_R L xs (d + 61) 0 1395 [.ref 999, .ref 0, .ref 41, .int (nI i)] [] w Q := by
  obtain ⟨S, kd, td, mo, kt, nt, r, tls, tks, so, sz, hJ⟩ := hJJ
  have hs := hJ.sh
  obtain ⟨x, w1, w', hj, t1, e1, e2⟩ := CA.law (CA_sleepersBy (L := L) (xs := xs) (d := d + 48) hJ (xs (nI (i + 1)).toNatClampNeg) (xs (nI (i + 2)).toNatClampNeg) (xs (nI (i + 3)).toNatClampNeg) (xs (nI (i + 4)).toNatClampNeg)) (by decide +kernel) (g_t41 hs)
  have e1' : ∀ Q, X_R L xs (d + 60) 49 0 _ [] w Q = Q (some (.int x)) w1 := e1
  have e2' : ∀ Q, X_R L xs (d + 60) 229 0 _ [] w1 Q = Q (some (.int x)) w' := e2
  have h := hn w' hj
  simp only [X0_1395, X0_1396, X0_1397, X0_1398, X0_1399, X0_1400, X0_1400s, X0_1401, X0_1402, X0_1403, X0_1404, X0_1405, X0_1405s, X0_1406, X0_1407, X0_1408, X0_1409, X0_1410, X0_1410s, X0_1411, X0_1412, X0_1413, X0_1414, X0_1415, X0_1415s, X0_1416, X0_1419, X0_1420, X0_1421, X0_1422, X0_1423, X0_1424, X0_1424s, X0_1425, X0_1426, X0_1427, X0_1428, X0_1429, X0_1429s, X0_1430, X0_1431, X0_1432, X0_1433, X0_1434, X0_1434s, X0_1435, X0_1436, X0_1437, X0_1438, X0_1439, X0_1439s, X0_1440, X0_1443, Nat.zero_le, and_true, true_and, x_nb0, x_nb1, x_nbp, x_isL_int, x_isL_ref, x_isL_junk, x_isR_ref, x_cat_nil, x_cat_int, x_cat_ref, x_cat_long, Option.toList_some, Option.toList_none, List.cons_append, List.nil_append, Nat.reduceAdd, Nat.reduceLeDiff, Nat.reduceLT, t_tag_si, t_tag_sr, t_tag_sI, x_r_si, x_i_sr, t_r_sI, x_ia_si, x_ia_sI, x_ia_sr, x_ra_si, x_ra_sI, x_ra_sr, nI_add, hix 1 (by decide), hix 2 (by decide), hix 3 (by decide), hix 4 (by decide), g_t0 hs, e1', t1, e2', lg_self, if_true]
  exact h
theorem law_39 (hJJ : JJ w) {i : Nat} (hix : ∀ k, k < 7 → x_ix (nI (i + k)) L) (hn : ∀ w', JJ w' → X_R L xs (d + 61) 0 1481 [.ref 999, .ref 0, .ref 41, .int (nI i)] [] w' Q) : X_R L xs (d + 61) 0 1448 [.ref 999, .ref 0, .ref 41, .int (nI i)] [] w Q := by
  obtain ⟨S, kd, td, mo, kt, nt, r, tls, tks, so, sz, hJ⟩ := hJJ
  have hs := hJ.sh
  obtain ⟨x, w1, w', hj, t1, e1, e2⟩ := CA.law ((AQ_taken (L := L) (xs := xs) (d := d + 48) hJ.ag (xs (nI (i + 1)).toNatClampNeg) (xs (nI (i + 2)).toNatClampNeg)).ca hJ) (by decide +kernel) (g_t41 hs)
  have e1' : ∀ Q, X_R L xs (d + 60) 50 0 _ [] w Q = Q (some (.int x)) w1 := e1
  have e2' : ∀ Q, X_R L xs (d + 60) 230 0 _ [] w1 Q = Q (some (.int x)) w' := e2
  have h := hn w' hj
  simp only [X0_1448, X0_1449, X0_1450, X0_1451, X0_1452, X0_1453, X0_1453s, X0_1454, X0_1455, X0_1456, X0_1457, X0_1458, X0_1458s, X0_1459, X0_1462, X0_1463, X0_1464, X0_1465, X0_1466, X0_1467, X0_1467s, X0_1468, X0_1469, X0_1470, X0_1471, X0_1472, X0_1472s, X0_1473, X0_1476, Nat.zero_le, and_true, true_and, x_nb0, x_nb1, x_nbp, x_isL_int, x_isL_ref, x_isL_junk, x_isR_ref, x_cat_nil, x_cat_int, x_cat_ref, x_cat_long, Option.toList_some, Option.toList_none, List.cons_append, List.nil_append, Nat.reduceAdd, Nat.reduceLeDiff, Nat.reduceLT, t_tag_si, t_tag_sr, t_tag_sI, x_r_si, x_i_sr, t_r_sI, x_ia_si, x_ia_sI, x_ia_sr, x_ra_si, x_ra_sI, x_ra_sr, nI_add, hix 1 (by decide), hix 2 (by decide), g_t0 hs, e1', t1, e2', lg_self, if_true]
  exact h
end S9999939
