/-! ===== THE MACHINE DOES WHAT THE INTERPRETER DOES, 4: the natives ===== -/
section XO
variable {p : Program} {l : Launch} {e : Env} {R : Room} {s : State} {m : MethodId} {args : Array Value} {below : List Frame} {meth : Method} {c : Code} {Q : State → Prop}
variable {z0 nL pc mid d nF L : Nat} {xs : Nat → Int32} {ro : Nat → Nat} {D : va_G} {cA : Nat → ClassId} {al st al' st' : List Value} {w w' : x_W} {pc' : Nat}
theorem x_cp1 : Cond.native arraycopyName ∈ x_gw := x_w_mem (i := 395) (by decide +kernel)
theorem x_cp2 : Cond.static arraycopyName ∈ x_gw := x_w_mem (i := 394) (by decide +kernel)
theorem x_cp3 : Cond.initialized "java/lang/System" ∈ x_gw := x_w_mem (i := 83) (by decide +kernel)
theorem x_cpl {oc idx : Nat} (h : x_isCopy oc idx = true) : Cond.methodLink (x_own oc) idx arraycopyName ∈ x_gw := by
  simp only [x_isCopy, Bool.or_eq_true, Bool.and_eq_true, beq_iff_eq] at h
  rcases h with (((⟨rfl, rfl⟩ | ⟨rfl, rfl⟩) | ⟨rfl, rfl⟩) | ⟨rfl, rfl⟩) | ⟨rfl, rfl⟩
  · exact x_w_mem (i := 800) (by decide +kernel)
  · exact x_w_mem (i := 972) (by decide +kernel)
  · exact x_w_mem (i := 985) (by decide +kernel)
  · exact x_w_mem (i := 1006) (by decide +kernel)
  · exact x_w_mem (i := 393) (by decide +kernel)
theorem xb_copy (C : x_MC p R s m args meth c mid d nF z0 ro L xs D cA) (hnL : nL = x_ml mid) {idx : Nat} (hcp : x_isCopy (x_oc mid) idx = true) (hd : decode (x_code mid) pc = .ok (.invokestatic idx, 3)) (h : x_copy pc al st w = some (pc', al', st', w')) (k : x_J p l e R s m args below meth c Q z0 ro D cA nL pc' al' st' w') : x_J p l e R s m args below meth c Q z0 ro D cA nL pc al st w := by
  obtain ⟨hx, hb, hml, hown, hts, ⟨-, hVM, hK⟩, hz, -, hfr, hlo, -⟩ := C
  unfold x_copy at h
  split at h
  · rename_i n dp b sp a st1
    split at h
    · rename_i na nb hta htb
      split at h
      · cases h
      · rename_i hc
        cases h
        have e1 : ¬ n < 0 := fun q => hc (Or.inl q)
        have e2 : ¬ sp < 0 := fun q => hc (Or.inr (Or.inl q))
        have e3 : ¬ dp < 0 := fun q => hc (Or.inr (Or.inr (Or.inl q)))
        have e4 : sp.toNatClampNeg + n.toNatClampNeg ≤ na := by
          rcases Nat.lt_or_ge na (sp.toNatClampNeg + n.toNatClampNeg) with q | q
          · exact absurd (Or.inr (Or.inr (Or.inr (Or.inl q)))) hc
          · exact q
        have e5 : dp.toNatClampNeg + n.toNatClampNeg ≤ nb := by
          rcases Nat.lt_or_ge nb (dp.toNatClampNeg + n.toNatClampNeg) with q | q
          · exact absurd (Or.inr (Or.inr (Or.inr (Or.inr (Or.inl q))))) hc
          · exact q
        have e6 : x_cat st' ≤ 8 := by
          rcases Nat.lt_or_ge 8 (x_cat st') with q | q
          · exact absurd (Or.inr (Or.inr (Or.inr (Or.inr (Or.inr q))))) hc
          · exact q
        intro H locs ls cells slots ok
        have ha := x_lt900 ok.2.1 hta
        have hb9 := x_lt900 ok.2.1 htb
        simp only [List.map_cons]
        rw [x_trRef ha, x_trRef hb9]
        have hnw : nativeFrameWords "java/lang/System" "arraycopy" 5 + 11 ≤ 50 := by decide +kernel
        refine va_copyi hx hb (by rw [hml, ok.2.2.2.1.2.1, hnL]) hown (hts _ (x_cpl hcp)) (hts _ x_cp1) (hts _ x_cp2) (hts _ x_cp3) hK ok.2.2.1 (x_wsD z0 ro cA w) (x_vaS ok) a b 0 0 (x_ws_ints hta) (x_ws_ints htb) rfl rfl rfl e2 e3 e1 e4 e5 (fun _ _ => rfl) (by omega) (by rw [x_cat_tr]; omega) hd (fun H1 locs1 hP1 _ hS1 => ?_)
        have hset := x_ws_set (z0 := z0) (ro := ro) (cA := cA) (w := w) (w' := x_sI w b (va_cpy (x_i w a) (x_i w b) sp.toNatClampNeg dp.toNatClampNeg n.toNatClampNeg)) (q := .inl (cA 0, nb, .inl (va_cpy (x_i w a) (x_i w b) sp.toNatClampNeg dp.toNatClampNeg n.toNatClampNeg))) rfl htb (by simp only [x_cell, x_i_sI]) (fun b q hb => x_cell_ne (x_i_sIn _ _ _ hb) rfl)
        rw [hset] at hP1
        exact x_bound fun hsz => k H1 locs1 ls cells slots (ok.put rfl hP1 hS1 hsz)
    · cases h
  · cases h
theorem x_cl1 : Cond.methodLink "java/util/Arrays" 316 ⟨"[I", "clone", "()Ljava/lang/Object;"⟩ ∈ x_gw := x_w_mem (i := 385) (by decide +kernel)
theorem x_cl2 : Cond.sameMethod "[I" "java/lang/Object" "clone" "()Ljava/lang/Object;" ∈ x_gw := x_w_mem (i := 386) (by decide +kernel)
theorem x_cl3 : Cond.native ⟨"java/lang/Object", "clone", "()Ljava/lang/Object;"⟩ ∈ x_gw := x_w_mem (i := 387) (by decide +kernel)
theorem x_cl4 : Cond.instanceMethod ⟨"java/lang/Object", "clone", "()Ljava/lang/Object;"⟩ ∈ x_gw := x_w_mem (i := 388) (by decide +kernel)
theorem x_cl5 : Cond.selects "[I" ⟨"[I", "clone", "()Ljava/lang/Object;"⟩ ⟨"java/lang/Object", "clone", "()Ljava/lang/Object;"⟩ ∈ x_gw := x_w_mem (i := 389) (by decide +kernel)
theorem x_cl6 : Cond.castable "[I" "java/lang/Cloneable" ∈ lw_tbl := x_wb_mem (i := 390) (by decide +kernel)
theorem x_cl7 : Cond.classLink "java/util/Arrays" 317 "[I" ∈ x_gw := x_w_mem (i := 391) (by decide +kernel)
theorem xb_clone (C : x_MC p R s m args meth c mid d nF z0 ro L xs D cA) (hnL : nL = x_ml mid) (hoc : x_oc mid = 14) (hd : decode (x_code mid) pc = .ok (.invokevirtual 316, 3)) (h : x_clone pc al st w = some (pc', al', st', w')) (hF : w'.1.length ≤ nF) (k : x_J p l e R s m args below meth c Q z0 ro D cA nL pc' al' st' w') : x_J p l e R s m args below meth c Q z0 ro D cA nL pc al st w := by
  have C0 := C
  obtain ⟨hx, hb, hml, hown, hts, ⟨-, hVM, hK⟩, hz, -, hfr, hlo, -⟩ := C
  rw [hoc] at hown
  unfold x_clone at h
  split at h
  · rename_i a st1
    split at h
    · rename_i n hta
      split at h
      · cases h
      · rename_i hc
        cases h
        have e1 : x_cat st1 ≤ 8 := by
          rcases Nat.lt_or_ge 8 (x_cat st1) with q | q
          · exact absurd (Or.inl q) hc
          · exact q
        have h2 : n ≤ 2000 := by
          rcases Nat.lt_or_ge 2000 n with q | q
          · exact absurd (Or.inr (Or.inl q)) hc
          · exact q
        have h3 : ¬ 899 < w.1.length := fun q => hc (Or.inr (Or.inr q))
        intro H locs ls cells slots ok
        rw [x_newlen] at hF
        have hrm := x_roomOf C0 ok hF h2
        have ha := x_lt900 ok.2.1 hta
        rw [List.map_cons, x_trRef ha]
        refine va_clone hx hb (by rw [hml, ok.2.2.2.1.2.1, hnL]) hown (hts _ x_cl1) (hts _ x_cl2) (hts _ x_cl3) (hts _ x_cl4) (hts _ x_cl5) (hVM.1 _ x_cl6 rfl) hK ok.2.2.1 (x_wsD z0 ro cA w) (x_vaS ok) (fun q hq => Nat.le_trans (by have := ok.1; omega) hq) a 0 (x_ws_ints hta) rfl (hK.2 0 _ rfl).2 (fun i v hv => ?_) (by omega) (by rw [x_cat_tr]; omega) hrm.1 hrm.2 hd (fun q H1 hK1 hP1 hD1 hS1 => ?_)
        · rw [vp_cell_i] at hv
          have hi : i < n := by
            have := (Array.getElem?_eq_some_iff.mp hv).1
            rw [arrV_size] at this
            exact this
          rw [arrV_read _ _ hi] at hv
          cases hv
          rfl
        · refine x_bound fun hsz => ?_
          obtain ⟨rfl, ok'⟩ := ok.new (t := (1, n)) (f := x_i w a) h3 h2 hP1 hD1 hS1 hsz (by simp only [x_cell, x_i_new])
          have kk := k H1 locs ls _ _ ok'
          rw [List.map_cons, x_trRef (by omega)] at kk
          exact kk
    · cases h
  · cases h
theorem xb_chk (C : x_MC p R s m args meth c mid d nF z0 ro L xs D cA) (hoc : x_oc mid = 14) (hd : decode (x_code mid) pc = .ok (.checkcast 317, 3)) (h : x_chk pc al st w = some (pc', al', st', w')) (k : x_J p l e R s m args below meth c Q z0 ro D cA nL pc' al' st' w') : x_J p l e R s m args below meth c Q z0 ro D cA nL pc al st w := by
  obtain ⟨hx, hb, hml, hown, hts, ⟨-, hVM, hK⟩, -⟩ := C
  rw [hoc] at hown
  unfold x_chk at h
  split at h
  · rename_i a st1
    split at h
    · rename_i n hta
      cases h
      intro H locs ls cells slots ok
      have ha := x_lt900 ok.2.1 hta
      have kk := k H locs ls cells slots ok
      rw [List.map_cons, x_trRef ha] at kk ⊢
      exact va_castA hx hb hown (hts _ x_cl7) ok.2.2.1 a (x_ws_ints hta) (hK.2 0 _ rfl).2 hd kk
    · cases h
  · cases h
end XO
