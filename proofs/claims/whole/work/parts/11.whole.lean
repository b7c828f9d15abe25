/-! ===== THE MACHINE DOES WHAT THE INTERPRETER DOES, 8: the induction ===== -/
def x_BodyOk (l : Launch) (L : Nat) (xs : Nat → Int32) (z0 : Nat) (ro : Nat → Nat) (D : va_G) (cA : Nat → ClassId) (n : Nat) : Prop :=
  ∀ (d mid pc : Nat) (al st : List Value) (w : x_W) (r : Option Value) (w' : x_W), x_exec L xs n d mid pc al st w = some (r, w') →
  ∀ (p : Program) (e : Env) (R : Room) (s : State) (m : MethodId) (args : Array Value) (below : List Frame) (meth : Method) (c : Code) (Q : State → Prop) (nF : Nat), x_MC p R s m args meth c mid d nF z0 ro L xs D cA → w'.1.length ≤ nF →
  (∀ (pc : Nat) (al st : List Value) (i : Instr) (len : Nat), decode (x_code mid) pc = .ok (i, len) → x_ln i len = true → x_ret mid i st = some r → x_J p l e R s m args below meth c Q z0 ro D cA (x_ml mid) pc al st w') →
  x_J p l e R s m args below meth c Q z0 ro D cA (x_ml mid) pc al st w
set_option maxHeartbeats 4000000 in
theorem x_met_of {l : Launch} {L : Nat} {xs : Nat → Int32} {z0 : Nat} {ro : Nat → Nat} {D : va_G} {cA : Nat → ClassId} {n : Nat} (hB : x_BodyOk l L xs z0 ro D cA n) {d mid : Nat} (h0 : 0 < mid) (h7 : mid < 247) {vs : List Value} {w w' : x_W} {r : Option Value} (hvs : (x_ent vs).length ≤ x_ml mid) (h : x_exec L xs n d mid 0 (x_loc mid vs) [] w = some (r, w')) :
    Met l (x_y mid) (x_wsM mid) (x_rm d (w'.1.length - w.1.length)) (x_Pc z0 ro L xs D cA vs w) (x_Qc z0 ro D cA r w') (w'.1.length - w.1.length) (2000 * (w'.1.length - w.1.length)) (x_A z0) := by
  obtain ⟨hcls, hmh, hml2⟩ := x_meOk h0 h7
  simp only [x_mh, Bool.and_eq_true, decide_eq_true_eq] at hmh
  have hmono := x_exec_mono L xs n d mid 0 _ _ w r w' h
  refine Met.ofW (cc := x_code mid) (maxL := x_ml mid) (ret := x_rt mid) hmh.2 rfl ?_
  intro p e s m args below meth c s₁ B hml hv
  obtain ⟨rfl, hSt, hsz, h9, hP⟩ := hv
  have hpre := atoms_spec (ws := x_wsM mid) B.pre
  have hlocks := B.notSynchronized
  have hown : s.vm.findClass (x_own (x_oc mid)) = some m.cls := by rw [← hcls]; exact findClass_of_methodNamed B.named
  have hr0 := B.returns
  have hx := B.exec
  have hb := B.bytes
  have C : x_MC p (headSpec (x_wsM mid) (x_rm d (w'.1.length - w.1.length))).room s m (vs.map (x_tr z0 ro)).toArray meth c mid d w'.1.length z0 ro L xs D cA := by
    refine ⟨B.exec, B.bytes, hml, hown, fun w hw => hpre w (List.mem_cons_of_mem _ hw), hSt, by omega, fun q => ((name_of_methodNamed B.named B.method).1).trans q, ?_, ?_, ?_, ?_⟩
    · show d + 1 ≤ d + 1
      exact Nat.le_refl _
    · show 64 * (d + 1) ≤ 64 * (d + 1)
      exact Nat.le_refl _
    · show z0 + w'.1.length - s.heap.size ≤ w'.1.length - w.1.length
      omega
    · show 2000 * (z0 + w'.1.length - s.heap.size) ≤ 2000 * (w'.1.length - w.1.length)
      omega
  rw [lg_entry_eq]
  have hJ := hB d mid 0 (x_loc mid vs) [] w r w' h p e (headSpec (x_wsM mid) (x_rm d (w'.1.length - w.1.length))).room s m (vs.map (x_tr z0 ro)).toArray below meth c (MQ below (x_Qc z0 ro D cA r w') (vs.map (x_tr z0 ro)).toArray s (w'.1.length - w.1.length) (2000 * (w'.1.length - w.1.length)) (x_A z0)) w'.1.length C (Nat.le_refl _) ?_
  · exact hJ s.heap [] _ 0 0 ⟨hsz, h9, hP, x_L_entry z0 ro mid vs hvs, va_S.rf, rfl, Nat.zero_le _⟩
  · intro pc al st i len hd hl hr H locs ls cells slots ok
    obtain ⟨q1, q2, q3, q4, q5, q6, q7⟩ := ok
    have hc : cells = w'.1.length - w.1.length := by omega
    subst hc
    refine W.widen (k := w'.1.length - w.1.length) (n := 2000 * (w'.1.length - w.1.length)) (Nat.le_refl _) q7 ?_
    have hQ : ∀ t : State, t.heap = H → x_Qc z0 ro D cA r w' (vs.map (x_tr z0 ro)).toArray s (.returned (r.map (x_tr z0 ro))) t := fun t ht => ⟨rfl, by rw [ht]; exact q1, q2, by rw [ht]; exact q3, q5.F ht⟩
    unfold x_ret at hr
    split at hr
    · split at hr
      · rename_i hrt
        cases hr
        (have e1 : len = 1 := eq_of_beq hl); subst e1
        exact W.vret hx hb (hr0.trans hrt) (fun t ht _ => hQ t ht) q5.2.2 hd hlocks
      · cases hr
    · rename_i v
      split at hr
      · rename_i ty hrt
        split at hr
        · rename_i hn
          cases hr
          (have e1 : len = 1 := eq_of_beq hl); subst e1
          exact W.zret hx hb (hr0.trans hrt) hn (fun t ht _ => hQ t ht) q5.2.2 hd hlocks
        · cases hr
      · cases hr
    · rename_i v
      split at hr
      · rename_i hrt
        cases hr
        (have e1 : len = 1 := eq_of_beq hl); subst e1
        exact W.lret hx hb (hr0.trans hrt) (fun t ht _ => hQ t ht) q5.2.2 hd hlocks
      · cases hr
    · rename_i a
      split at hr
      · rename_i C hrt
        cases hr
        (have e1 : len = 1 := eq_of_beq hl); subst e1
        exact W.aret hx hb (hr0.trans hrt) (Or.inl ⟨_, rfl⟩) (Or.inr ⟨_, rfl⟩) (fun t ht _ => hQ t ht) q5.2.2 hd hlocks
      · rename_i C hrt
        cases hr
        (have e1 : len = 1 := eq_of_beq hl); subst e1
        exact W.aret hx hb (hr0.trans hrt) (Or.inr ⟨_, rfl⟩) (Or.inr ⟨_, rfl⟩) (fun t ht _ => hQ t ht) q5.2.2 hd hlocks
      · cases hr
    · cases hr
theorem x_siteLt {oc k mid2 : Nat} {i : Instr} (h : x_site oc i = some (k, mid2)) : 0 < mid2 ∧ mid2 < 247 := by
  obtain ⟨idx, ps, hmem, -⟩ := x_site_mem h
  have hok := List.all_eq_true.mp x_csOk _ hmem
  unfold x_csB at hok
  simp only [Bool.and_eq_true, decide_eq_true_eq] at hok
  exact hok.1
/-- THE MACHINE DOES WHAT THE INTERPRETER DOES -/
theorem x_body (l : Launch) (L : Nat) (xs : Nat → Int32) (z0 : Nat) (ro : Nat → Nat) (D : va_G) (cA : Nat → ClassId) : ∀ n, x_BodyOk l L xs z0 ro D cA n := by
  intro n
  induction n with
  | zero => intro d mid pc al st w r w' h; cases h
  | succ n ih =>
    intro d mid pc al st w r w' h p e R s m args below meth c Q nF C hF hend
    unfold x_exec at h
    split at h
    · cases h
    · rename_i i len hd
      split at h
      · cases h
      · rename_i hl0
        have hl : x_ln i len = true := by simpa using hl0
        split at h
        · rename_i r1 hr
          cases h
          exact hend pc al st i len hd hl hr
        · split at h
          · rename_i k mid2 hs
            split at h
            · cases h
            · rename_i d
              dsimp only at h
              split at h
              · rename_i hc
                obtain ⟨c1, c2, c3, c4⟩ := hc
                split at h
                · rename_i r1 w1 h1
                  have hm1 := x_exec_mono L xs n _ _ _ _ _ _ _ _ h1
                  have hm2 := x_exec_mono L xs n _ _ _ _ _ _ _ _ h
                  obtain ⟨g0, g7⟩ := x_siteLt hs
                  refine x_call_sound C rfl hd hl hs (vs := (st.take (x_na mid2)).reverse) (rest := st.drop (x_na mid2)) (r := r1) (w1 := w1) (by rw [List.reverse_reverse, List.take_append_drop]) (by rw [List.length_reverse, List.length_take]; omega) c2 c4 hm1 (by omega) (x_met_of ih g0 g7 c3 h1) ?_
                  exact ih _ _ _ _ _ _ _ _ h p e R s m args below meth c Q nF C hF hend
                · cases h
              · cases h
          · split at h
            · rename_i pc' al' st' w1 h1
              have hm2 := x_exec_mono L xs n _ _ _ _ _ _ _ _ h
              exact x_step_sound C rfl hd hl h1 (by omega) (ih _ _ _ _ _ _ _ _ h p e R s m args below meth c Q nF C hF hend)
            · cases h
