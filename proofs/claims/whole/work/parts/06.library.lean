/-! ===== THE MACHINE DOES WHAT THE INTERPRETER DOES, 3: makings, the library's own, a step ===== -/
section XN
variable {p : Program} {l : Launch} {e : Env} {R : Room} {s : State} {m : MethodId} {args : Array Value} {below : List Frame} {meth : Method} {c : Code} {Q : State → Prop}
variable {z0 nL pc mid d nF L : Nat} {xs : Nat → Int32} {ro : Nat → Nat} {D : va_G} {cA : Nat → ClassId} {al st al' st' : List Value} {w w' : x_W} {pc' : Nat}
theorem x_newlen (w : x_W) (t : Nat × Nat) (f : Nat → Int32) : (x_new w t f).1.length = w.1.length + 1 := by simp [x_new]
theorem x_wb_mem {i : Nat} {w : Jvm.Cond} (h : x_wb i w = true) : w ∈ lw_tbl := List.mem_of_getElem? (of_decide_eq_true h)
theorem xb_anew (C : x_MC p R s m args meth c mid d nF z0 ro L xs D cA) {idx : Nat} (hd : decode (x_code mid) pc = .ok (.anewarray idx, 3)) (h : x_anew (x_oc mid) idx pc al st w = some (pc', al', st', w')) (hF : w'.1.length ≤ nF) (k : x_J p l e R s m args below meth c Q z0 ro D cA nL pc' al' st' w') : x_J p l e R s m args below meth c Q z0 ro D cA nL pc al st w := by
  have C0 := C
  obtain ⟨hx, hb, hml, hown, hts, ⟨-, hVM, hK⟩, hz, -⟩ := C
  unfold x_anew at h
  split at h
  · rename_i n st1
    split at h
    · rename_i t ps hlk
      split at h
      · cases h
      · rename_i hc
        cases h
        have h1 : ¬ n < 0 := fun q => hc (Or.inl q)
        have h2 : n.toNatClampNeg ≤ 2000 := by
          rcases Nat.lt_or_ge 2000 n.toNatClampNeg with q | q
          · exact absurd (Or.inr (Or.inl q)) hc
          · exact q
        have h3 : ¬ 899 < w.1.length := fun q => hc (Or.inr (Or.inr q))
        have hok := List.all_eq_true.mp x_asOk _ (x_lk_mem hlk)
        unfold x_asB at hok
        split at hok
        · rename_i oc' idx' t' a b heq
          cases heq
          simp only [Bool.and_eq_true, decide_eq_true_eq] at hok
          obtain ⟨⟨⟨ht0, ht4⟩, hcl⟩, hov⟩ := hok
          obtain ⟨t, rfl⟩ : ∃ u, t = u + 1 := ⟨t - 1, by omega⟩
          intro H locs ls cells slots ok
          rw [x_newlen] at hF
          have hrm := x_roomOf C0 ok hF h2
          have hty := hK.2 (t + 1) _ (x_tys_at (by omega))
          obtain ⟨kA, comp, -, -, -, hfc⟩ := hty.2
          rw [List.map_cons]
          refine va_newq hx hb hown (hts _ (x_w_mem hcl)) (hVM.1 _ (x_wb_mem hov) rfl) hK ok.2.2.1 (x_wsD z0 ro cA w) (x_vaS ok) (fun q hq => Nat.le_trans (by have := ok.1; omega) hq) h1 rfl (by omega) hrm.1 hrm.2 hd (fun q cI H1 hK1 hP1 hD1 hS1 => ?_)
          have hcI' : cI = cA (t + 1) := by
            obtain ⟨kB, compB, -, -, -, hfc2⟩ := (hK1.2 4 _ rfl).2
            exact Option.some.inj (hfc2.symm.trans hfc)
          subst hcI'
          refine x_bound fun hsz => ?_
          obtain ⟨rfl, ok'⟩ := ok.new (t := (t + 1 + 1, n.toNatClampNeg)) (f := fun _ => 0) h3 h2 hP1 hD1 hS1 hsz (by simp only [x_cell, x_r_new, x_opt])
          have kk := k H1 locs ls _ _ ok'
          rw [List.map_cons, x_trRef (by omega)] at kk
          exact kk
        · cases hok
    · cases h
  · cases h
theorem x_defOk : ∀ ci, ci < 9 → ∀ k, k < x_nf ci → defaultValue (x_ty ci k) = if x_refT (x_ty ci k) = true then .null else .int 0 := by
  intro ci h1 k h2
  rcases x_tyK ci h1 k h2 with q | q | q
  · rw [q]; rfl
  · rw [q]; rfl
  · rw [if_pos q]
    revert q
    cases x_ty ci k <;> first | (intro _; rfl) | (intro q; cases q)
theorem xb_newo (C : x_MC p R s m args meth c mid d nF z0 ro L xs D cA) {idx : Nat} (hd : decode (x_code mid) pc = .ok (.new idx, 3)) (h : x_newo (x_oc mid) idx pc al st w = some (pc', al', st', w')) (hF : w'.1.length ≤ nF) (k : x_J p l e R s m args below meth c Q z0 ro D cA nL pc' al' st' w') : x_J p l e R s m args below meth c Q z0 ro D cA nL pc al st w := by
  have C0 := C
  obtain ⟨hx, hb, hml, hown, hts, ⟨-, hVM, hK⟩, hz, -⟩ := C
  unfold x_newo at h
  split at h
  · rename_i ci ps hlk
    split at h
    · cases h
    · rename_i h3
      cases h
      have hok := List.all_eq_true.mp x_nsOk _ (x_lk_mem hlk)
      unfold x_nsB at hok
      split at hok
      · rename_i oc' idx' ci0 a b c' heq
        cases heq
        simp only [Bool.and_eq_true, decide_eq_true_eq] at hok
        obtain ⟨⟨⟨hci, hcl⟩, hin⟩, hit⟩ := hok
        intro H locs ls cells slots ok
        rw [x_newlen] at hF
        have hn9 : x_nf ci ≤ 2000 := by
          have : (List.range 9).all (fun ci => decide (x_nf ci ≤ 2000)) = true := by decide +kernel
          exact of_decide_eq_true (List.all_eq_true.mp this ci (List.mem_range.mpr hci))
        have hrm := x_roomOf C0 ok hF hn9
        refine va_new (fs := (List.range (x_nf ci)).map (fun k => x_tr z0 ro (x_rd (x_new w (0, ci) (fun _ => 0)) w.1.length ci k))) hx hb hts (x_u_in hci) (x_ty ci) (x_tyOk ci hci) hown (hts _ (x_w_mem hcl)) (hts _ (x_w_mem hin)) (hts _ (x_w_mem hit)) hK ok.2.2.1 (x_wsD z0 ro cA w) (x_vaS ok) (fun q hq => Nat.le_trans (by have := ok.1; omega) hq) (x_cl_at ci hci) (fun j hj => ?_) hrm.1 hrm.2 hd (fun q H1 hP1 hD1 hS1 => ?_)
        · unfold vp_V
          rw [List.getD_eq_getElem?_getD, List.getElem?_map, List.getElem?_range hj, x_defOk ci hci j hj]
          simp only [Option.map_some, Option.getD_some, x_rd, x_i_new, x_r_new]
          by_cases hr : x_refT (x_ty ci j) = true
          · simp only [if_pos hr]; rfl
          · simp only [if_neg hr]; rfl
        · refine x_bound fun hsz => ?_
          obtain ⟨rfl, ok'⟩ := ok.new (t := (0, ci)) (f := fun _ => 0) h3 hn9 hP1 hD1 hS1 hsz (by simp only [x_cell])
          have kk := k H1 locs ls _ _ ok'
          rw [List.map_cons, x_trRef (by omega)] at kk
          exact kk
      · cases hok
  · cases h
end XN
