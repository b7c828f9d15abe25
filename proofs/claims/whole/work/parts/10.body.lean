/-! ===== THE MACHINE DOES WHAT THE INTERPRETER DOES, 7: calls, and a whole run ===== -/
theorem x_exec_mono (L : Nat) (xs : Nat → Int32) : ∀ (n d mid pc : Nat) (al st : List Value) (w : x_W) (r : Option Value) (w' : x_W), x_exec L xs n d mid pc al st w = some (r, w') → w.1.length ≤ w'.1.length := by
  have hst : ∀ (ini : Bool) (oc : Nat) (i : Instr) (pc : Nat) (al st : List Value) (w : x_W) (pc' : Nat) (al' st' : List Value) (w' : x_W), x_step L xs ini oc i pc al st w = some (pc', al', st', w') → w.1.length ≤ w'.1.length := by
    intro ini oc i pc al st w pc' al' st' w' h
    have hto : ∀ (off : Int) (st0 : List Value), x_to pc off al st0 w = some (pc', al', st', w') → w.1.length ≤ w'.1.length := by
      intro off st0 h
      obtain ⟨-, -, -, rfl⟩ := x_to_inv h
      exact Nat.le_refl _
    cases i
    case goto off => exact hto _ _ h
    case ifCond cn off =>
      have h2 : x_if cn off pc al st w = some (pc', al', st', w') := h
      unfold x_if at h2
      repeat' split at h2
      all_goals first | (cases h2; done) | (cases h2; exact Nat.le_refl _) | exact hto _ _ h2
    case if_icmp cn off =>
      have h2 : x_if2 cn off pc al st w = some (pc', al', st', w') := h
      unfold x_if2 at h2
      repeat' split at h2
      all_goals first | (cases h2; done) | (cases h2; exact Nat.le_refl _) | exact hto _ _ h2
    case tableswitch d lo hi offs =>
      have h2 : x_tsw d lo hi offs pc al st w = some (pc', al', st', w') := h
      unfold x_tsw at h2
      repeat' split at h2
      all_goals first | (cases h2; done) | (cases h2; exact Nat.le_refl _) | exact hto _ _ h2
    case lookupswitch d ps =>
      have h2 : x_lsw d ps pc al st w = some (pc', al', st', w') := h
      unfold x_lsw at h2
      repeat' split at h2
      all_goals first | (cases h2; done) | (cases h2; exact Nat.le_refl _) | exact hto _ _ h2
    case newarray at0 =>
      cases at0
      case int =>
        have h2 : x_newa pc al st w = some (pc', al', st', w') := h
        unfold x_newa at h2
        repeat' split at h2
        all_goals first | (cases h2; rw [x_newlen]; omega) | (cases h2; done)
      all_goals exact nomatch (show (none : Option x_C) = some (pc', al', st', w') from h)
    case anewarray idx =>
      have h2 : x_anew oc idx pc al st w = some (pc', al', st', w') := h
      unfold x_anew at h2
      repeat' split at h2
      all_goals first | (cases h2; rw [x_newlen]; omega) | (cases h2; done)
    case new idx =>
      have h2 : x_newo oc idx pc al st w = some (pc', al', st', w') := h
      unfold x_newo at h2
      repeat' split at h2
      all_goals first | (cases h2; rw [x_newlen]; omega) | (cases h2; done)
    case invokevirtual idx =>
      have h2 : (if oc = 14 ∧ idx = 316 then x_clone pc al st w else none) = some (pc', al', st', w') := h
      unfold x_clone at h2
      repeat' split at h2
      all_goals first | (cases h2; rw [x_newlen]; omega) | (cases h2; done)
    case invokestatic idx =>
      have h2 : (if x_isCopy oc idx = true then x_copy pc al st w else x_math oc idx pc al st w) = some (pc', al', st', w') := h
      unfold x_copy x_math at h2
      repeat' split at h2
      all_goals first | (cases h2; exact Nat.le_refl _) | (cases h2; done)
    case putfield idx =>
      have h2 : x_pf ini oc idx pc al st w = some (pc', al', st', w') := h
      unfold x_pf at h2
      repeat' split at h2
      all_goals first | (cases h2; exact Nat.le_refl _) | (cases h2; done)
    all_goals first
      | exact nomatch (show (none : Option x_C) = some (pc', al', st', w') from h)
      | (simp only [x_step, x_psh, x_bin, x_div, x_un, x_lbin, x_ldv, x_lcm, x_i2lF, x_ldI, x_ldL, x_ldA, x_stI, x_stA, x_stL, x_inc, x_du, x_du2, x_po, x_ldc, x_ldc2, x_gets, x_gf, x_iald, x_bald, x_iast, x_aald, x_aast, x_len, x_chk, x_ini] at h
         repeat' split at h
         all_goals first | (cases h; exact Nat.le_refl _) | (cases h; done))
  intro n
  induction n with
  | zero => intro d mid pc al st w r w' h; cases h
  | succ n ih =>
    intro d mid pc al st w r w' h
    unfold x_exec at h
    split at h
    · cases h
    · split at h
      · cases h
      · split at h
        · cases h; exact Nat.le_refl _
        · split at h
          · split at h
            · cases h
            · dsimp only at h
              split at h
              · split at h
                · rename_i r1 w1 h1
                  exact Nat.le_trans (ih _ _ _ _ _ _ _ _ h1) (ih _ _ _ _ _ _ _ _ h)
                · cases h
              · cases h
          · split at h
            · rename_i h1
              exact Nat.le_trans (hst _ _ _ _ _ _ _ _ _ _ _ h1) (ih _ _ _ _ _ _ _ _ h)
            · cases h
-- the locals at the entry
theorem x_ent_len (z0 : Nat) (ro : Nat → Nat) (vs : List Value) : (lg_sl (vs.map (x_tr z0 ro))).length = (x_ent vs).length := by
  induction vs with
  | nil => rfl
  | cons v vs ih =>
    simp only [List.map_cons, lg_sl, List.flatMap_cons, List.length_append, x_tr_cat, x_ent] at ih ⊢
    by_cases h : v.category = 2
    · simp only [h, if_true, List.length_cons, List.length_nil]
      have : (List.flatMap (fun v => if v.category = 2 then [Slot.val v, Slot.second] else [Slot.val v]) (List.map (x_tr z0 ro) vs)).length = (x_ent vs).length := ih
      omega
    · simp only [h, if_false, List.length_cons, List.length_nil]
      have : (List.flatMap (fun v => if v.category = 2 then [Slot.val v, Slot.second] else [Slot.val v]) (List.map (x_tr z0 ro) vs)).length = (x_ent vs).length := ih
      omega
theorem x_ent_args (z0 : Nat) (ro : Nat → Nat) (vs : List Value) : ∀ (i j : Nat) (v : Value), (x_ent vs)[j]? = some v → x_isJ v = false → (i + j, x_tr z0 ro v) ∈ lv_args i (vs.map (x_tr z0 ro)) := by
  induction vs with
  | nil => intro i j v h; simp [x_ent] at h
  | cons u vs ih =>
    intro i j v h hv
    simp only [List.map_cons, lv_args, x_tr_cat]
    unfold x_ent at h
    by_cases hc : u.category = 2
    · rw [if_pos hc] at h
      rw [if_pos hc]
      match j, h with
      | 0, h => cases h; exact List.mem_cons_self
      | 1, h => cases h; cases hv
      | j + 2, h =>
        have := ih (i + 2) j v (by simpa using h) hv
        rw [show i + (j + 2) = i + 2 + j by omega]
        exact List.mem_cons_of_mem _ this
    · rw [if_neg hc] at h
      rw [if_neg hc]
      match j, h with
      | 0, h => cases h; exact List.mem_cons_self
      | j + 1, h =>
        have := ih (i + 1) j v (by simpa using h) hv
        rw [show i + (j + 1) = i + 1 + j by omega]
        exact List.mem_cons_of_mem _ this
theorem x_L_entry (z0 : Nat) (ro : Nat → Nat) (mid : Nat) (vs : List Value) (h : (x_ent vs).length ≤ x_ml mid) : x_L z0 ro (x_loc mid vs) ((lg_sl (vs.map (x_tr z0 ro)) ++ List.replicate (x_ml mid - (lg_sl (vs.map (x_tr z0 ro))).length) Slot.unset).toArray) (x_ml mid) := by
  have h0 := lv_entry (vs.map (x_tr z0 ro)) (n := x_ml mid) (by rw [x_ent_len]; exact h)
  refine ⟨?_, h0.1, h0.2.1, fun j v hj hv => ?_⟩
  · unfold x_loc
    rw [List.length_append, List.length_replicate]
    omega
  · unfold x_loc at hj
    by_cases hl : j < (x_ent vs).length
    · rw [List.getElem?_append_left hl] at hj
      have := x_ent_args z0 ro vs 0 j v hj hv
      rw [Nat.zero_add] at this
      exact h0.2.2 _ this
    · rw [List.getElem?_append_right (by omega)] at hj
      have := List.eq_of_mem_replicate (List.mem_of_getElem? hj)
      rw [this] at hv
      cases hv
section XR
variable {p : Program} {l : Launch} {e : Env} {R : Room} {s : State} {m : MethodId} {args : Array Value} {below : List Frame} {meth : Method} {c : Code} {Q : State → Prop}
variable {z0 nL pc mid d nF L : Nat} {xs : Nat → Int32} {ro : Nat → Nat} {D : va_G} {cA : Nat → ClassId} {al st al' st' : List Value} {w w' : x_W} {pc' : Nat}
theorem x_callW {H : Heap} {locs : List Loc} {cells slots mc ms : Nat} {ls : Array Slot} {st0 rest : List Value} {Qa : State → Outcome → State → Prop} {free : Addr → Prop} (hr : va_Run p l e R s m args below meth c H locs cells slots mc ms (F0 m pc ls st0) rest Qa free)
    (kk : ∀ (v : Option Value) (st₀ t : State) (H1 : Heap) (L1 : List Loc), st₀.heap = H → Qa st₀ (.returned v) t → t.heap = H1 → (∀ q ∈ L1, free q.base) → W p l e R s m args below meth c H1 (locs ++ L1) (cells + mc) (slots + ms) Q (F0 m (pc + 3) ls (v.toList ++ rest))) : W p l e R s m args below meth c H locs cells slots Q (F0 m pc ls st0) := by
  intro T hT X
  obtain ⟨v, st₀, t, T', L, h0, X', hL, e1, e2, hq, st⟩ := hr T hT X
  obtain ⟨t2, a1, b1⟩ := kk v st₀ t T'.heap L h0 hq e1.symm hL T' rfl X'
  exact ⟨t2, st t2 a1, b1⟩
/-- behind a call -/
theorem x_OK.call {H H1 : Heap} {locs L1 : List Loc} {ls : Array Slot} {cells slots : Nat} {st₀ t : State} {w1 : x_W} (ok : x_OK s z0 ro D cA nL al w H locs ls cells slots) (hmono : w.1.length ≤ w1.1.length) (h0 : st₀.heap = H) (ht : t.heap = H1) (hsz : t.heap.size = z0 + w1.1.length) (h9 : w1.1.length ≤ 900) (hP : va_P D x_cl (x_ws z0 ro cA w1) t.heap) (hF : va_F (x_A z0) st₀ t) (hL : ∀ q ∈ L1, x_A z0 q.base) : x_OK s z0 ro D cA nL al w1 H1 (locs ++ L1) ls (cells + (w1.1.length - w.1.length)) (slots + 2000 * (w1.1.length - w.1.length)) := by
  obtain ⟨h1, h2, h3, h4, h5, h6, h7⟩ := ok
  subst ht
  subst h0
  refine ⟨hsz, h9, hP, h4, ⟨Nat.le_trans h5.1 hF.1, fun q hq hA => ?_, fun q hq => ?_⟩, by omega, by omega⟩
  · rw [hF.2 q (Nat.lt_of_lt_of_le hq h5.1) hA]
    exact h5.2.1 q hq hA
  · rcases List.mem_append.mp hq with z | z
    · exact h5.2.2 q z
    · exact hL q z
theorem x_site_mem {oc k mid2 : Nat} {i : Instr} (h : x_site oc i = some (k, mid2)) : ∃ (idx : Nat) (ps : List Nat), ((oc, idx), (k, mid2), ps) ∈ x_cs ∧ ((i = .invokestatic idx ∧ (k = 0 ∨ k = 4)) ∨ (i = .invokevirtual idx ∧ k = 1) ∨ (i = .invokespecial idx ∧ (k = 2 ∨ k = 3))) := by
  unfold x_site at h
  split at h
  · rename_i idx
    split at h
    · rename_i mid3 ps hlk
      cases h
      exact ⟨idx, ps, x_lk_mem hlk, Or.inl ⟨rfl, Or.inl rfl⟩⟩
    · rename_i mid3 ps hlk
      cases h
      exact ⟨idx, ps, x_lk_mem hlk, Or.inl ⟨rfl, Or.inr rfl⟩⟩
    · cases h
  · rename_i idx
    split at h
    · rename_i mid3 ps hlk
      cases h
      exact ⟨idx, ps, x_lk_mem hlk, Or.inr (Or.inl ⟨rfl, rfl⟩)⟩
    · cases h
  · rename_i idx
    split at h
    · rename_i mid3 ps hlk
      cases h
      exact ⟨idx, ps, x_lk_mem hlk, Or.inr (Or.inr ⟨rfl, Or.inl rfl⟩)⟩
    · rename_i mid3 ps hlk
      cases h
      exact ⟨idx, ps, x_lk_mem hlk, Or.inr (Or.inr ⟨rfl, Or.inr rfl⟩)⟩
    · cases h
  · cases h
set_option maxHeartbeats 4000000 in
theorem x_call_sound (C : x_MC p R s m args meth c mid (d + 1) nF z0 ro L xs D cA) (hnL : nL = x_ml mid) {i : Instr} {len k mid2 : Nat} (hd : decode (x_code mid) pc = .ok (i, len)) (hl : x_ln i len = true) (hs : x_site (x_oc mid) i = some (k, mid2)) {vs rest : List Value} {r : Option Value} {w1 : x_W} (hst : st = vs.reverse ++ rest) (hna : vs.length = x_na mid2) (h8 : x_cat rest ≤ 8) (hrc : x_rcv k mid2 vs w = true) (hmono : w.1.length ≤ w1.1.length) (hF : w1.1.length ≤ nF)
    (hM : Met l (x_y mid2) (x_wsM mid2) (x_rm d (w1.1.length - w.1.length)) (x_Pc z0 ro L xs D cA vs w) (x_Qc z0 ro D cA r w1) (w1.1.length - w.1.length) (2000 * (w1.1.length - w.1.length)) (x_A z0))
    (kk : x_J p l e R s m args below meth c Q z0 ro D cA nL (pc + 3) al (r.toList ++ rest) w1) : x_J p l e R s m args below meth c Q z0 ro D cA nL pc al st w := by
  obtain ⟨hx, hb, hml, hown, hts, hSt, hz, -, hfr, hlo, hcl, hsl⟩ := C
  obtain ⟨idx, ps, hmem, hkind⟩ := x_site_mem hs
  have hok := List.all_eq_true.mp x_csOk _ hmem
  intro H locs ls cells slots ok
  have ok0 := ok
  obtain ⟨q1, q2, q3, q4, q5, q6, q7⟩ := ok
  have hsize : ls.size = nL := q4.2.1
  have hmidlt : 0 < mid2 ∧ mid2 < 247 := by
    unfold x_csB at hok
    simp only [Bool.and_eq_true, decide_eq_true_eq] at hok
    exact hok.1
  obtain ⟨hcls, hmh, hml2⟩ := x_meOk hmidlt.1 hmidlt.2
  have hmh' : (x_y mid2).cls ≠ "java/lang/invoke/MethodHandle" ∧ (x_y mid2).cls ≠ "java/lang/invoke/VarHandle" := by
    simp only [x_mh, Bool.and_eq_true, decide_eq_true_eq] at hmh
    exact hmh.1
  have S : CallFix p m c (x_code mid) nL s args x_gw (x_own (x_oc mid)) := ⟨hx, hb, by rw [hnL]; exact hml, hown, hts⟩
  have hG := x_gwGood hmidlt.1 hmidlt.2
  have hPU : ∀ U : State, U.heap = H → s.WarmedH U.vm → x_Pc z0 ro L xs D cA vs w (vs.map (x_tr z0 ro)).toArray U := by
    intro U hU hW
    refine ⟨rfl, ?_, by rw [hU]; exact q1, q2, by rw [hU]; exact q3⟩
    rw [hU]
    exact hSt.warm hW q5.1 q5.2.1
  have hroom : (x_rm d (w1.1.length - w.1.length)).frames + 1 ≤ R.frames ∧ 8 + (x_ml mid2 + 11) + (x_rm d (w1.1.length - w.1.length)).locals ≤ R.locals := by
    refine ⟨hfr, ?_⟩
    show 8 + (x_ml mid2 + 11) + 64 * (d + 1) ≤ R.locals
    omega
  have hcr : 2 * (F0 m pc ls (st.map (x_tr z0 ro))).monitorRoom + ((rest.map (x_tr z0 ro)).map fun v => v.category).sum ≤ 8 := lv_room (by rw [x_cat_tr]; exact h8)
  have hf : cells + (w1.1.length - w.1.length) ≤ R.cells ∧ slots + 2000 * (w1.1.length - w.1.length) ≤ R.slots := by omega
  have fin : ∀ (v : Option Value) (st₀ t : State) (H1 : Heap) (L1 : List Loc), st₀.heap = H → x_Qc z0 ro D cA r w1 (vs.map (x_tr z0 ro)).toArray st₀ (.returned v) t → t.heap = H1 → (∀ q ∈ L1, x_A z0 q.base) → W p l e R s m args below meth c H1 (locs ++ L1) (cells + (w1.1.length - w.1.length)) (slots + 2000 * (w1.1.length - w.1.length)) Q (F0 m (pc + 3) ls (v.toList ++ rest.map (x_tr z0 ro))) := by
    intro v st₀ t H1 L1 h0 hQ ht hL
    obtain ⟨hv, g1, g2, g3, g4⟩ := hQ
    have hv' : v = r.map (x_tr z0 ro) := Outcome.returned.inj hv
    have k1 := kk H1 (locs ++ L1) ls _ _ (ok0.call hmono h0 ht g1 g2 g3 g4 hL)
    rw [List.map_append] at k1
    have e : v.toList ++ rest.map (x_tr z0 ro) = r.toList.map (x_tr z0 ro) ++ rest.map (x_tr z0 ro) := by
      rw [hv']
      cases r <;> rfl
    rw [e]
    exact k1
  have hstk : st.map (x_tr z0 ro) = (vs.map (x_tr z0 ro)).reverse ++ rest.map (x_tr z0 ro) := by rw [hst, List.map_append, List.map_reverse]
  unfold x_csB at hok
  rw [Bool.and_eq_true] at hok
  have hok := hok.2
  split at hok
  · -- static
    rename_i a1 a2 a3 _ _
    have hki : i = .invokestatic idx := by
      rcases hkind with ⟨z, -⟩ | ⟨-, z⟩ | ⟨-, z⟩
      · exact z
      · cases z
      · rcases z with z | z <;> cases z
    subst hki
    (have e1 : len = 3 := eq_of_beq hl); subst e1
    simp only [Bool.and_eq_true] at hok
    obtain ⟨⟨⟨o1, o2⟩, o3⟩, o4⟩ := hok
    have cb : CallB R s args (x_own (x_oc mid)) idx (x_y mid2) (x_code mid2) (x_ml mid2) (x_rt mid2) (x_wsM mid2) (x_rm d (w1.1.length - w.1.length)) (w1.1.length - w.1.length) (2000 * (w1.1.length - w.1.length)) (x_na mid2) := callB_of (x_na mid2) hts hG rfl rfl rfl (hts _ (x_w_mem o3)) (hts _ (x_w_mem o1)) ⟨hmh'.1, hmh'.2, of_decide_eq_true o4⟩ hroom
    exact x_callW (va_runS S hM ⟨cb, hts _ (x_w_mem o2)⟩ ⟨x_Pc.blind, hPU⟩ rfl (by rw [List.length_map]; exact hna) hsize hstk hcr hd hf) fin
  · -- virtual
    rename_i a1 a2 a3 a4 _ _
    have hki : i = .invokevirtual idx := by
      rcases hkind with ⟨-, z⟩ | ⟨z, -⟩ | ⟨-, z⟩
      · rcases z with z | z <;> cases z
      · exact z
      · rcases z with z | z <;> cases z
    subst hki
    (have e1 : len = 3 := eq_of_beq hl); subst e1
    simp only [Bool.and_eq_true, decide_eq_true_eq] at hok
    obtain ⟨⟨⟨⟨⟨o1, o2⟩, o3⟩, o4⟩, o5⟩, o6⟩ := hok
    have hsel : (Cond.selects (x_y mid2).cls (x_y mid2) (x_y mid2)).before args s = true := hts _ (x_w_mem o4)
    unfold x_rcv at hrc
    split at hrc
    · first | omega | contradiction
    · rename_i a vs' _
      have hna' : vs'.length + 1 = x_na mid2 := hna
      have cb : CallB R s args (x_own (x_oc mid)) idx (x_y mid2) (x_code mid2) (x_ml mid2) (x_rt mid2) (x_wsM mid2) (x_rm d (w1.1.length - w.1.length)) (w1.1.length - w.1.length) (2000 * (w1.1.length - w.1.length)) (x_na mid2 - 1) := callB_of (x_na mid2 - 1) hts hG rfl rfl rfl (hts _ (x_w_mem o3)) (hts _ (x_w_mem o1)) ⟨hmh'.1, hmh'.2, of_decide_eq_true o5⟩ hroom
      have hrecv : ∃ cellB : Cell, H[x_ad z0 ro a]? = some cellB ∧ cellB.vm.isStatics = false ∧ s.vm.findClass (x_y mid2).cls = some cellB.cls := by
        split at hrc
        · rename_i h9
          have ht := of_decide_eq_true hrc
          have := va_recv hSt.2.2 q3 (x_cl_at _ h9) (x_ws_obj (H := H) (locs := locs) (ls := ls) (cells := cells) (slots := slots) ht)
          rw [x_adm (x_lt900 q2 ht), hcls]
          exact this
        · obtain ⟨z1, z2, z3, z4⟩ := of_decide_eq_true hrc
          obtain ⟨b, hba⟩ : ∃ b : Nat, b = a := ⟨a, rfl⟩
          subst hba
          have z2' : 1000 ≤ b := z2
          have z3' : b < 1028 := z3
          have z4' : b % 2 = 0 := z4
          have h9 : ¬ b < 900 := by omega
          have hi : (b - 1000) / 2 < 14 := by omega
          have ea : 1000 + 2 * ((b - 1000) / 2) = b := by omega
          have := vk_recv (H := H) (locs := locs) hSt.1.2.2.2.2.2 hi q5
          simp only [ea] at this
          rw [hcls, z1]
          unfold x_ad
          rw [if_neg h9]
          exact this
      have hstk2 : st.map (x_tr z0 ro) = (vs'.map (x_tr z0 ro)).reverse ++ Value.ref (x_ad z0 ro a) :: rest.map (x_tr z0 ro) := by
        rw [hstk, List.map_cons, List.reverse_cons, List.append_assoc]
        rfl
      exact x_callW (va_runV S hM ⟨cb, hts _ (x_w_mem o2), hsel⟩ ⟨x_Pc.blind, hrecv, hPU⟩ rfl (by rw [List.length_map]; omega) hsize hstk2 hcr hd hf) fin
    · first | omega | contradiction
    · first | omega | contradiction
    · first | omega | contradiction
    · cases hrc
  · -- special
    rename_i a1 a2 a3 _ _
    have hki : i = .invokespecial idx := by
      rcases hkind with ⟨-, z⟩ | ⟨-, z⟩ | ⟨z, -⟩
      · rcases z with z | z <;> cases z
      · cases z
      · exact z
    subst hki
    (have e1 : len = 3 := eq_of_beq hl); subst e1
    simp only [Bool.and_eq_true, decide_eq_true_eq] at hok
    obtain ⟨⟨⟨⟨⟨⟨o1, o2⟩, o3⟩, o4⟩, o5⟩, o6⟩, o7⟩ := hok
    unfold x_rcv at hrc
    split at hrc
    · first | omega | contradiction
    · first | omega | contradiction
    · first | omega | contradiction
    · rename_i a vs' _
      have hna' : vs'.length + 1 = x_na mid2 := hna
      have cb : CallB R s args (x_own (x_oc mid)) idx (x_y mid2) (x_code mid2) (x_ml mid2) none (x_wsM mid2) (x_rm d (w1.1.length - w.1.length)) (w1.1.length - w.1.length) (2000 * (w1.1.length - w.1.length)) (x_na mid2 - 1) := callB_of (x_na mid2 - 1) hts hG (by unfold x_wsM; rw [o7]) rfl rfl (hts _ (x_w_mem o3)) (hts _ (x_w_mem o1)) ⟨hmh'.1, hmh'.2, of_decide_eq_true o5⟩ hroom
      have hstk2 : st.map (x_tr z0 ro) = (vs'.map (x_tr z0 ro)).reverse ++ Value.ref (x_ad z0 ro a) :: rest.map (x_tr z0 ro) := by
        rw [hstk, List.map_cons, List.reverse_cons, List.append_assoc]
        rfl
      exact x_callW (va_runI S hM ⟨cb, o4, hts _ (x_w_mem o2)⟩ ⟨x_Pc.blind, hPU⟩ rfl (by rw [List.length_map]; omega) hsize hstk2 hcr hd hf) fin
    · first | omega | contradiction
    · cases hrc
  · -- special, a nest mate's
    rename_i a1 a2 a3 _ _
    have hki : i = .invokespecial idx := by
      rcases hkind with ⟨-, z⟩ | ⟨-, z⟩ | ⟨z, -⟩
      · rcases z with z | z <;> cases z
      · cases z
      · exact z
    subst hki
    (have e1 : len = 3 := eq_of_beq hl); subst e1
    simp only [Bool.and_eq_true, decide_eq_true_eq] at hok
    obtain ⟨⟨⟨⟨⟨⟨o1, o2⟩, o3⟩, o4⟩, o5⟩, o6⟩, o7⟩ := hok
    unfold x_rcv at hrc
    split at hrc
    · first | omega | contradiction
    · first | omega | contradiction
    · first | omega | contradiction
    · first | omega | contradiction
    · rename_i a vs' _
      have hna' : vs'.length + 1 = x_na mid2 := hna
      have cb := va_cnB (R := R) (s := s) (args := args) (own := x_own (x_oc mid)) (host := "OneNet") (index := idx) (y := x_y mid2) (bytes := x_code mid2) (maxL := x_ml mid2) (ret := none) (Ts := x_gw) (ws := x_wsM mid2) (rm := x_rm d (w1.1.length - w.1.length)) (mc := w1.1.length - w.1.length) (ms := 2000 * (w1.1.length - w.1.length)) (x_na mid2 - 1) hts hG (by unfold x_wsM; rw [o7]) rfl rfl (hSt.2.1.1 _ (x_wb_mem o1) rfl) (hts _ (x_w_mem o3)) ⟨hmh'.1, hmh'.2, of_decide_eq_true o5⟩ hroom
      have hstk2 : st.map (x_tr z0 ro) = (vs'.map (x_tr z0 ro)).reverse ++ Value.ref (x_ad z0 ro a) :: rest.map (x_tr z0 ro) := by
        rw [hstk, List.map_cons, List.reverse_cons, List.append_assoc]
        rfl
      exact x_callW (va_runIN S hM ⟨cb, o4, hts _ (x_w_mem o2)⟩ ⟨x_Pc.blind, hPU⟩ rfl (by rw [List.length_map]; omega) hsize hstk2 hcr hd hf) fin
    · cases hrc
  · -- static, a nest mate's
    rename_i a1 a2 a3 _ _
    have hki : i = .invokestatic idx := by
      rcases hkind with ⟨z, -⟩ | ⟨-, z⟩ | ⟨-, z⟩
      · exact z
      · cases z
      · rcases z with z | z <;> cases z
    subst hki
    (have e1 : len = 3 := eq_of_beq hl); subst e1
    simp only [Bool.and_eq_true] at hok
    obtain ⟨⟨⟨o1, o2⟩, o3⟩, o4⟩ := hok
    have cb := va_cnB (R := R) (s := s) (args := args) (own := x_own (x_oc mid)) (host := "OneNet") (index := idx) (y := x_y mid2) (bytes := x_code mid2) (maxL := x_ml mid2) (ret := x_rt mid2) (Ts := x_gw) (ws := x_wsM mid2) (rm := x_rm d (w1.1.length - w.1.length)) (mc := w1.1.length - w.1.length) (ms := 2000 * (w1.1.length - w.1.length)) (x_na mid2) hts hG rfl rfl rfl (hSt.2.1.1 _ (x_wb_mem o1) rfl) (hts _ (x_w_mem o3)) ⟨hmh'.1, hmh'.2, of_decide_eq_true o4⟩ hroom
    exact x_callW (va_runSN S hM ⟨cb, hts _ (x_w_mem o2), trivial⟩ ⟨x_Pc.blind, hPU⟩ rfl (by rw [List.length_map]; exact hna) hsize hstk hcr hd hf) fin
  · cases hok
end XR
