/-! ===== THE MACHINE DOES WHAT THE INTERPRETER DOES, 6: a step, a call, a whole run ===== -/
section XQ
variable {p : Program} {l : Launch} {e : Env} {R : Room} {s : State} {m : MethodId} {args : Array Value} {below : List Frame} {meth : Method} {c : Code} {Q : State → Prop}
variable {z0 nL pc mid d nF L : Nat} {xs : Nat → Int32} {ro : Nat → Nat} {D : va_G} {cA : Nat → ClassId} {al st al' st' : List Value} {w w' : x_W} {pc' : Nat}
set_option maxHeartbeats 4000000 in
theorem x_step_sound (C : x_MC p R s m args meth c mid d nF z0 ro L xs D cA) (hnL : nL = x_ml mid) {i : Instr} {len : Nat} (hd : decode (x_code mid) pc = .ok (i, len)) (hl : x_ln i len = true) (h : x_step L xs (decide ((x_y mid).name = "<init>")) (x_oc mid) i pc al st w = some (pc', al', st', w')) (hF : w'.1.length ≤ nF) (k : x_J p l e R s m args below meth c Q z0 ro D cA nL pc' al' st' w') : x_J p l e R s m args below meth c Q z0 ro D cA nL pc al st w := by
  have hx := C.1
  have hb := C.2.1
  cases i
  case iconst n => (have e1 : len = 1 := eq_of_beq hl); subst e1; exact xb_psh (fun _ _ _ _ _ _ q => lv_iconst hx hb hd rfl q) h k
  case bipush n => (have e1 : len = 2 := eq_of_beq hl); subst e1; exact xb_psh (fun _ _ _ _ _ _ q => lv_bipush hx hb hd rfl q) h k
  case sipush n => (have e1 : len = 3 := eq_of_beq hl); subst e1; exact xb_psh (fun _ _ _ _ _ _ q => lv_sipush hx hb hd rfl q) h k
  case lconst n => (have e1 : len = 1 := eq_of_beq hl); subst e1; exact xb_psh (fun _ _ _ _ _ _ q => lv_lconst hx hb hd rfl q) h k
  case ldc idx => (have e1 : len = 2 := eq_of_beq hl); subst e1; exact xb_ldc C (Or.inl ⟨rfl, hd⟩) h k
  case ldc_w idx => (have e1 : len = 3 := eq_of_beq hl); subst e1; exact xb_ldc C (Or.inr ⟨rfl, hd⟩) h k
  case ldc2_w idx => (have e1 : len = 3 := eq_of_beq hl); subst e1; exact xb_ldc2 C hd h k
  case iload i => (have e1 : len = 2 := eq_of_beq hl); subst e1; exact xb_ldI (fun _ _ _ _ _ _ _ z q => lv_iload hx hb hd z q) h k
  case iload_n i => (have e1 : len = 1 := eq_of_beq hl); subst e1; exact xb_ldI (fun _ _ _ _ _ _ _ z q => lv_iload_n hx hb hd rfl z q) h k
  case lload i => (have e1 : len = 2 := eq_of_beq hl); subst e1; exact xb_ldL (fun _ _ _ _ _ _ _ z q => lv_lload hx hb hd z q) h k
  case lload_n i => (have e1 : len = 1 := eq_of_beq hl); subst e1; exact xb_ldL (fun _ _ _ _ _ _ _ z q => lv_lload_n hx hb hd rfl z q) h k
  case aload i => (have e1 : len = 2 := eq_of_beq hl); subst e1; exact xb_ldA (fun _ _ _ _ _ _ _ z q => lv_aload hx hb hd z q) h k
  case aload_n i => (have e1 : len = 1 := eq_of_beq hl); subst e1; exact xb_ldA (fun _ _ _ _ _ _ _ z q => lv_aload_n hx hb hd rfl z q) h k
  case istore i => (have e1 : len = 2 := eq_of_beq hl); subst e1; exact xb_stI (fun _ _ _ _ _ _ _ _ z1 z2 q => lv_istore hx hb hd z1 z2 rfl q) h k
  case istore_n i => (have e1 : len = 1 := eq_of_beq hl); subst e1; exact xb_stI (fun _ _ _ _ _ _ _ _ z1 z2 q => lv_istore_n hx hb hd rfl z1 z2 rfl q) h k
  case lstore i => (have e1 : len = 2 := eq_of_beq hl); subst e1; exact xb_stL (fun _ _ _ _ _ _ _ _ z1 z2 q => lv_lstore hx hb hd z1 z2 rfl q) h k
  case lstore_n i => (have e1 : len = 1 := eq_of_beq hl); subst e1; exact xb_stL (fun _ _ _ _ _ _ _ _ z1 z2 q => lv_lstore_n hx hb hd rfl z1 z2 rfl q) h k
  case astore i => (have e1 : len = 2 := eq_of_beq hl); subst e1; exact xb_stA (fun _ _ _ _ _ _ _ _ z1 z2 q => lv_astore hx hb hd z1 z2 rfl q) h k
  case astore_n i => (have e1 : len = 1 := eq_of_beq hl); subst e1; exact xb_stA (fun _ _ _ _ _ _ _ _ z1 z2 q => lv_astore_n hx hb hd rfl z1 z2 rfl q) h k
  case iinc i n => (have e1 : len = 3 := eq_of_beq hl); subst e1; exact xb_inc hx hb hd h k
  case dup => (have e1 : len = 1 := eq_of_beq hl); subst e1; exact xb_du hx hb hd h k
  case dup2 => (have e1 : len = 1 := eq_of_beq hl); subst e1; exact xb_du2 hx hb hd h k
  case pop => (have e1 : len = 1 := eq_of_beq hl); subst e1; exact xb_po hx hb hd h k
  case iadd => (have e1 : len = 1 := eq_of_beq hl); subst e1; exact xb_bin (fun _ _ _ _ _ _ _ _ q => lv_iadd hx hb hd q) h k
  case isub => (have e1 : len = 1 := eq_of_beq hl); subst e1; exact xb_bin (fun _ _ _ _ _ _ _ _ q => lv_isub hx hb hd q) h k
  case imul => (have e1 : len = 1 := eq_of_beq hl); subst e1; exact xb_bin (fun _ _ _ _ _ _ _ _ q => lv_imul hx hb hd q) h k
  case iand => (have e1 : len = 1 := eq_of_beq hl); subst e1; exact xb_bin (fun _ _ _ _ _ _ _ _ q => lv_iand hx hb hd q) h k
  case ior => (have e1 : len = 1 := eq_of_beq hl); subst e1; exact xb_bin (fun _ _ _ _ _ _ _ _ q => lv_ior hx hb hd q) h k
  case ixor => (have e1 : len = 1 := eq_of_beq hl); subst e1; exact xb_bin (fun _ _ _ _ _ _ _ _ q => lv_ixor hx hb hd q) h k
  case ishl => (have e1 : len = 1 := eq_of_beq hl); subst e1; exact xb_bin (fun _ _ _ _ _ _ _ _ q => lv_ishl hx hb hd q) h k
  case ishr => (have e1 : len = 1 := eq_of_beq hl); subst e1; exact xb_bin (fun _ _ _ _ _ _ _ _ q => lv_ishr hx hb hd q) h k
  case iushr => (have e1 : len = 1 := eq_of_beq hl); subst e1; exact xb_bin (fun _ _ _ _ _ _ _ _ q => lv_iushr hx hb hd rfl q) h k
  case idiv => (have e1 : len = 1 := eq_of_beq hl); subst e1; exact xb_div (fun _ _ _ _ _ _ _ _ z q => lv_idiv hx hb hd z q) h k
  case irem => (have e1 : len = 1 := eq_of_beq hl); subst e1; exact xb_div (fun _ _ _ _ _ _ _ _ z q => lv_irem hx hb hd z q) h k
  case ineg => (have e1 : len = 1 := eq_of_beq hl); subst e1; exact xb_un (fun _ _ _ _ _ _ _ q => lv_ineg hx hb hd q) h k
  case i2b => (have e1 : len = 1 := eq_of_beq hl); subst e1; exact xb_un (fun _ _ _ _ _ _ _ q => lv_i2b hx hb hd rfl q) h k
  case i2s => (have e1 : len = 1 := eq_of_beq hl); subst e1; exact xb_un (fun _ _ _ _ _ _ _ q => lv_i2s hx hb hd rfl q) h k
  case i2c => (have e1 : len = 1 := eq_of_beq hl); subst e1; exact xb_un (fun _ _ _ _ _ _ _ q => lv_i2c hx hb hd rfl q) h k
  case i2l => (have e1 : len = 1 := eq_of_beq hl); subst e1; exact xb_i2l hx hb hd h k
  case ladd => (have e1 : len = 1 := eq_of_beq hl); subst e1; exact xb_lbin (fun _ _ _ _ _ _ _ _ q => lv_ladd hx hb hd q) h k
  case lmul => (have e1 : len = 1 := eq_of_beq hl); subst e1; exact xb_lbin (fun _ _ _ _ _ _ _ _ q => lv_lmul hx hb hd q) h k
  case ldiv => (have e1 : len = 1 := eq_of_beq hl); subst e1; exact xb_ldv (fun _ _ _ _ _ _ _ _ z q => lv_ldiv hx hb hd z q) h k
  case lrem => (have e1 : len = 1 := eq_of_beq hl); subst e1; exact xb_ldv (fun _ _ _ _ _ _ _ _ z q => lv_lrem hx hb hd z q) h k
  case lcmp => (have e1 : len = 1 := eq_of_beq hl); subst e1; exact xb_lcm hx hb hd h k
  case ifCond cn off => (have e1 : len = 3 := eq_of_beq hl); subst e1; exact xb_if hx hb hd h k
  case if_icmp cn off => (have e1 : len = 3 := eq_of_beq hl); subst e1; exact xb_if2 hx hb hd h k
  case goto off => (have e1 : len = 3 := eq_of_beq hl); subst e1; exact xb_goto hx hb hd h k
  case tableswitch d lo hi offs => exact xb_tsw hx hb hd h k
  case lookupswitch d ps => exact xb_lsw hx hb hd h k
  case getstatic idx => (have e1 : len = 3 := eq_of_beq hl); subst e1; exact xb_gets C hd h k
  case getfield idx => (have e1 : len = 3 := eq_of_beq hl); subst e1; exact xb_gf C hd h k
  case putfield idx => (have e1 : len = 3 := eq_of_beq hl); subst e1; exact xb_pf C hd h k
  case iaload => (have e1 : len = 1 := eq_of_beq hl); subst e1; exact xb_iald C hd h k
  case baload => (have e1 : len = 1 := eq_of_beq hl); subst e1; exact xb_bald C hd h k
  case iastore => (have e1 : len = 1 := eq_of_beq hl); subst e1; exact xb_iast C hd h k
  case aaload => (have e1 : len = 1 := eq_of_beq hl); subst e1; exact xb_aald C hd h k
  case aastore => (have e1 : len = 1 := eq_of_beq hl); subst e1; exact xb_aast C hd h k
  case arraylength => (have e1 : len = 1 := eq_of_beq hl); subst e1; exact xb_len C hd h k
  case newarray at0 =>
    (have e1 : len = 2 := eq_of_beq hl); subst e1
    cases at0
    case int => exact xb_newa C hd h hF k
    all_goals exact nomatch (show (none : Option x_C) = some (pc', al', st', w') from h)
  case anewarray idx => (have e1 : len = 3 := eq_of_beq hl); subst e1; exact xb_anew C hd h hF k
  case new idx => (have e1 : len = 3 := eq_of_beq hl); subst e1; exact xb_newo C hd h hF k
  case invokestatic idx =>
    (have e1 : len = 3 := eq_of_beq hl); subst e1
    have h : (if x_isCopy (x_oc mid) idx = true then x_copy pc al st w else x_math (x_oc mid) idx pc al st w) = some (pc', al', st', w') := h
    split at h
    · rename_i hc; exact xb_copy C hnL hc hd h k
    · exact xb_math C hnL hd h hF k
  case invokevirtual idx =>
    (have e1 : len = 3 := eq_of_beq hl); subst e1
    have h2 : (if x_oc mid = 14 ∧ idx = 316 then x_clone pc al st w else none) = some (pc', al', st', w') := h
    clear h
    split at h2
    · rename_i hc
      obtain ⟨h1, rfl⟩ := hc
      exact xb_clone C hnL h1 hd h2 hF k
    · cases h2
  case invokespecial idx => (have e1 : len = 3 := eq_of_beq hl); subst e1; exact xb_ini C hnL hd h k
  case checkcast idx =>
    (have e1 : len = 3 := eq_of_beq hl); subst e1
    have h2 : (if x_oc mid = 14 ∧ idx = 317 then x_chk pc al st w else none) = some (pc', al', st', w') := h
    clear h
    split at h2
    · rename_i hc
      obtain ⟨h1, rfl⟩ := hc
      exact xb_chk C h1 hd h2 k
    · cases h2
  all_goals exact nomatch (show (none : Option x_C) = some (pc', al', st', w') from h)
theorem x_VM.warm {U : State} (hW : s.WarmedH U.vm) (h : x_VM ro s) : x_VM ro U := by
  refine ⟨fun w hw hbad => ?_, fun q hq => (h.2 q hq).warm hW⟩
  have h1 := h.1 w hw hbad
  cases w with
  | methodLinkNest a i x hh => exact va_Nw.warmM hW h1
  | castable a b => exact va_Nw.warmC hW h1
  | arrayOver ty =>
    cases ty with
    | object C => exact va_AO.moved hW.alike h1
    | _ => cases hbad
  | _ => cases hbad
theorem x_RO.warm {U : State} {H : Heap} (hW : s.WarmedH U.vm) (hz : s.heap.size ≤ H.size) (hk : ∀ a : Nat, a < s.heap.size → ¬ x_A z0 a → H[a]? = s.heap[a]?) (h : x_RO z0 ro L xs s s.heap) : x_RO z0 ro L xs U H := by
  obtain ⟨⟨x1, x2, x3⟩, h1, h2, ⟨h3, h4⟩, ⟨h5, h6⟩, h7⟩ := h
  have ha := hW.alike
  exact ⟨⟨(x1.moved ha).kept (hk _ x3 (Nat.not_le.mpr x2)), x2, Nat.lt_of_lt_of_le x3 hz⟩, (h1.moved ha).kept hk, (h2.moved ha).kept hk, ⟨(h3.moved ha).kept hk, (h4.moved ha).kept hk⟩, ⟨(h5.moved ha).kept hk, (h6.moved ha).kept hk⟩, (h7.moved ha).kept hk⟩
theorem x_St.warm {U : State} {H : Heap} (hW : s.WarmedH U.vm) (hz : s.heap.size ≤ H.size) (hk : ∀ a : Nat, a < s.heap.size → ¬ x_A z0 a → H[a]? = s.heap[a]?) (h : x_St z0 ro L xs D cA s s.heap) : x_St z0 ro L xs D cA U H := ⟨h.1.warm hW hz hk, h.2.1.warm hW, h.2.2.moved hW.alike⟩
-- a method's contract
def x_Pc (z0 : Nat) (ro : Nat → Nat) (L : Nat) (xs : Nat → Int32) (D : va_G) (cA : Nat → ClassId) (vs : List Value) (w : x_W) : Array Value → State → Prop := fun v U => v = (vs.map (x_tr z0 ro)).toArray ∧ x_St z0 ro L xs D cA U U.heap ∧ U.heap.size = z0 + w.1.length ∧ w.1.length ≤ 900 ∧ va_P D x_cl (x_ws z0 ro cA w) U.heap
def x_Qc (z0 : Nat) (ro : Nat → Nat) (D : va_G) (cA : Nat → ClassId) (r : Option Value) (w' : x_W) : Array Value → State → Outcome → State → Prop := fun _ st o t => o = .returned (r.map (x_tr z0 ro)) ∧ t.heap.size = z0 + w'.1.length ∧ w'.1.length ≤ 900 ∧ va_P D x_cl (x_ws z0 ro cA w') t.heap ∧ va_F (x_A z0) st t
def x_rm (d mc : Nat) : Room := { frames := d + 1, cells := mc, slots := 2000 * mc, locals := 64 * (d + 1) }
def x_wsM (mid : Nat) : List Jvm.Cond := .code (x_y mid) (x_code mid) (x_ml mid) (x_rt mid) :: x_gw
theorem x_Pc.blind {vs : List Value} : FrameBlind (x_Pc z0 ro L xs D cA vs w) := by
  intro a U g mk h
  obtain ⟨h1, h2, h3, h4, h5⟩ := h
  exact ⟨h1, x_St.warm (U := U.calling g mk a) (State.WarmedH.refl U) (Nat.le_refl _) (fun _ _ _ => rfl) h2, h3, h4, h5⟩
theorem x_memT {mid : Nat} (h : mid < 247) : x_me mid = x_mt.getD mid (0, ⟨"", "", ""⟩, ⟨#[]⟩, 0, none, 0, 0) := by
  unfold x_me
  rw [List.getD_eq_getElem?_getD]
theorem x_mwAll : ∀ me ∈ x_mt.drop 1, lw_tbl[me.2.2.2.2.2.2]? = some (x_cw me) := by
  have key : ∀ (t : List x_M), t.map (fun me => lw_tbl[me.2.2.2.2.2.2]?) = t.map (fun me => some (x_cw me)) → ∀ me ∈ t, lw_tbl[me.2.2.2.2.2.2]? = some (x_cw me) := by
    intro t ht me hme
    obtain ⟨i, hi⟩ := List.getElem?_of_mem hme
    have h1 : (t.map (fun me => lw_tbl[me.2.2.2.2.2.2]?))[i]? = (t.map (fun me => some (x_cw me)))[i]? := by rw [ht]
    rw [List.getElem?_map, List.getElem?_map, hi] at h1
    exact Option.some.inj h1
  have hd : x_mt.drop 1 = x_mt_0.drop 1 ++ (x_mt_1 ++ (x_mt_2 ++ (x_mt_3 ++ (x_mt_4 ++ (x_mt_5 ++ (x_mt_6 ++ (x_mt_7 ++ x_mt_8))))))) := by rfl
  rw [hd]
  intro me hme
  simp only [List.mem_append] at hme
  rcases hme with q | q | q | q | q | q | q | q | q
  · exact key _ x_mw0 me q
  · exact key _ x_mw1 me q
  · exact key _ x_mw2 me q
  · exact key _ x_mw3 me q
  · exact key _ x_mw4 me q
  · exact key _ x_mw5 me q
  · exact key _ x_mw6 me q
  · exact key _ x_mw7 me q
  · exact key _ x_mw8 me q
theorem x_mlen : x_mt.length = 247 := by decide +kernel
theorem x_meMem {mid : Nat} (h0 : 0 < mid) (h : mid < 247) : x_me mid ∈ x_mt.drop 1 := by
  have h1 : (x_mt.drop 1)[mid - 1]? = some (x_me mid) := by
    rw [List.getElem?_drop, show 1 + (mid - 1) = mid by omega]
    unfold x_me
    rw [List.getElem?_eq_getElem (by rw [x_mlen]; exact h)]
    rfl
  exact List.mem_of_getElem? h1
theorem x_codeIn {mid : Nat} (h0 : 0 < mid) (h : mid < 247) : Cond.code (x_y mid) (x_code mid) (x_ml mid) (x_rt mid) ∈ x_gw := List.mem_filter.mpr ⟨List.mem_of_getElem? (x_mwAll _ (x_meMem h0 h)), rfl⟩
theorem x_meOk {mid : Nat} (h0 : 0 < mid) (h : mid < 247) : (x_y mid).cls = x_own (x_oc mid) ∧ x_mh (x_y mid) = true ∧ x_ml mid ≤ 40 := by
  have h1 := List.all_eq_true.mp x_mtOk _ (x_meMem h0 h)
  simp only [x_meB, Bool.and_eq_true, decide_eq_true_eq] at h1
  exact ⟨h1.1.1, h1.1.2, h1.2⟩
theorem x_gwGood {mid : Nat} (h0 : 0 < mid) (h : mid < 247) : GoodIn x_gw (x_wsM mid) := by
  intro w hw
  have hin : w ∈ x_gw := by
    rcases List.mem_cons.mp hw with q | q
    · rw [q]; exact x_codeIn h0 h
    · exact q
  exact ⟨hin, good_of_word (List.mem_filter.mp hin).2⟩
end XQ
