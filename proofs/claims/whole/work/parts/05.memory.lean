/-! ===== THE MACHINE DOES WHAT THE INTERPRETER DOES, 2: instructions on the heap ===== -/
theorem x_rd_si (w : x_W) (a k : Nat) (v : Int32) (b ci j : Nat) : x_rd (x_si w a k v) b ci j = if b = a ∧ j = k ∧ x_refT (x_ty ci j) = false then .int v else x_rd w b ci j := by
  unfold x_rd
  by_cases hr : x_refT (x_ty ci j) = true
  · rw [if_pos hr, if_neg (fun q => by rw [q.2.2] at hr; cases hr), if_pos hr]
    rfl
  · rw [if_neg hr]
    by_cases h : b = a
    · subst h
      by_cases h2 : j = k
      · subst h2
        rw [if_pos ⟨rfl, rfl, by simpa using hr⟩]
        simp [x_si, x_sI, x_i, upd]
      · rw [if_neg (fun q => h2 q.2.1), if_neg hr]
        simp [x_si, x_sI, x_i, upd, h2]
    · rw [if_neg (fun q => h q.1), if_neg hr]
      simp [x_si, x_sI, x_i, h]
theorem x_rd_sr (w : x_W) (a k : Nat) (v : Value) (b ci j : Nat) : x_rd (x_sr w a k v) b ci j = if b = a ∧ j = k ∧ x_refT (x_ty ci j) = true then v else x_rd w b ci j := by
  unfold x_rd
  by_cases hr : x_refT (x_ty ci j) = true
  · rw [if_pos hr]
    by_cases h : b = a
    · subst h
      by_cases h2 : j = k
      · subst h2
        rw [if_pos ⟨rfl, rfl, hr⟩]
        simp [x_sr, x_sR, x_r, x_upR]
      · rw [if_neg (fun q => h2 q.2.1), if_pos hr]
        simp [x_sr, x_sR, x_r, x_upR, h2]
    · rw [if_neg (fun q => h q.1), if_pos hr]
      simp [x_sr, x_sR, x_r, h]
  · rw [if_neg hr, if_neg (fun q => hr q.2.2), if_neg hr]
    rfl
theorem x_tag_si (w : x_W) (a k : Nat) (v : Int32) (b : Nat) : x_tag (x_si w a k v) b = x_tag w b := rfl
theorem x_tag_sr (w : x_W) (a k : Nat) (v : Value) (b : Nat) : x_tag (x_sr w a k v) b = x_tag w b := rfl
theorem x_tag_sI (w : x_W) (a : Nat) (f : Nat → Int32) (b : Nat) : x_tag (x_sI w a f) b = x_tag w b := rfl
/-- a world in which one cell is another -/
theorem x_ws_set {z0 : Nat} {ro : Nat → Nat} {cA : Nat → ClassId} {w w' : x_W} {a : Nat} {t : Nat × Nat} {q : va_E} (ht : w'.1 = w.1) (ha : x_tag w a = some t) (h1 : x_cell z0 ro cA w' a t = q) (h2 : ∀ b u, b ≠ a → x_cell z0 ro cA w' b u = x_cell z0 ro cA w b u) : (x_ws z0 ro cA w).set a (z0 + a, q) = x_ws z0 ro cA w' := by
  apply List.ext_getElem?
  intro j
  have hl : a < (x_ws z0 ro cA w).length := by
    unfold x_ws
    rw [List.length_mapIdx]
    exact (List.getElem?_eq_some_iff.mp ha).1
  have ht' : ∀ b, x_tag w' b = x_tag w b := fun b => by unfold x_tag; rw [ht]
  by_cases hj : j = a
  · subst hj
    rw [List.getElem?_set_self hl, x_ws_at, ht', ha, ← h1]
    rfl
  · rw [List.getElem?_set_ne (Ne.symm hj), x_ws_at, x_ws_at, ht']
    cases x_tag w j with
    | none => rfl
    | some u => simp only [Option.map_some, h2 j u hj]
theorem x_ws_push {z0 : Nat} {ro : Nat → Nat} {cA : Nat → ClassId} {w w' : x_W} {t : Nat × Nat} {q : va_E} (ht : w'.1 = w.1 ++ [t]) (h1 : x_cell z0 ro cA w' w.1.length t = q) (h2 : ∀ b u, b < w.1.length → x_cell z0 ro cA w' b u = x_cell z0 ro cA w b u) : x_ws z0 ro cA w ++ [(z0 + w.1.length, q)] = x_ws z0 ro cA w' := by
  apply List.ext_getElem?
  intro j
  have hlen : (x_ws z0 ro cA w).length = w.1.length := by unfold x_ws; rw [List.length_mapIdx]
  rw [x_ws_at]
  unfold x_tag
  rw [ht]
  by_cases hj : j < w.1.length
  · rw [List.getElem?_append_left (by rw [hlen]; exact hj), List.getElem?_append_left hj, x_ws_at]
    unfold x_tag
    cases hh : w.1[j]? with
    | none => rfl
    | some u => simp only [Option.map_some, h2 j u hj]
  · rw [List.getElem?_append_right (by rw [hlen]; omega), List.getElem?_append_right (by omega), hlen]
    by_cases hj2 : j = w.1.length
    · subst hj2
      rw [Nat.sub_self, ← h1]
      rfl
    · rw [List.getElem?_eq_none (by simp; omega), List.getElem?_eq_none (by simp; omega)]
      rfl
theorem x_cell_ne {z0 : Nat} {ro : Nat → Nat} {cA : Nat → ClassId} {w w' : x_W} {b : Nat} {u : Nat × Nat} (h1 : x_i w' b = x_i w b) (h2 : x_r w' b = x_r w b) : x_cell z0 ro cA w' b u = x_cell z0 ro cA w b u := by
  obtain ⟨t, n⟩ := u
  match t with
  | 0 => simp only [x_cell, x_rd, h1, h2]
  | 1 => simp only [x_cell, h1]
  | t + 2 => simp only [x_cell, h2]
theorem x_i_sI (w : x_W) (a : Nat) (f : Nat → Int32) : x_i (x_sI w a f) a = f := by simp [x_i, x_sI]
theorem x_i_sIn (w : x_W) (a : Nat) (f : Nat → Int32) {b : Nat} (h : b ≠ a) : x_i (x_sI w a f) b = x_i w b := by simp [x_i, x_sI, h]
theorem x_r_sI (w : x_W) (a : Nat) (f : Nat → Int32) (b : Nat) : x_r (x_sI w a f) b = x_r w b := rfl
theorem x_r_sR (w : x_W) (a : Nat) (f : Nat → Value) : x_r (x_sR w a f) a = f := by simp [x_r, x_sR]
theorem x_r_sRn (w : x_W) (a : Nat) (f : Nat → Value) {b : Nat} (h : b ≠ a) : x_r (x_sR w a f) b = x_r w b := by simp [x_r, x_sR, h]
theorem x_i_sR (w : x_W) (a : Nat) (f : Nat → Value) (b : Nat) : x_i (x_sR w a f) b = x_i w b := rfl
theorem x_i_new (w : x_W) (t : Nat × Nat) (f : Nat → Int32) : x_i (x_new w t f) w.1.length = f := by simp [x_i, x_new]
theorem x_i_newn (w : x_W) (t : Nat × Nat) (f : Nat → Int32) {b : Nat} (h : b ≠ w.1.length) : x_i (x_new w t f) b = x_i w b := by simp [x_i, x_new, h]
theorem x_r_new (w : x_W) (t : Nat × Nat) (f : Nat → Int32) : x_r (x_new w t f) w.1.length = fun _ => .null := by simp [x_r, x_new]
theorem x_r_newn (w : x_W) (t : Nat × Nat) (f : Nat → Int32) {b : Nat} (h : b ≠ w.1.length) : x_r (x_new w t f) b = x_r w b := by simp [x_r, x_new, h]
theorem x_lt900 {w : x_W} {a : Nat} {t : Nat × Nat} (h9 : w.1.length ≤ 900) (h : x_tag w a = some t) : a < 900 := Nat.lt_of_lt_of_le (List.getElem?_eq_some_iff.mp h).1 h9
theorem x_trRef {z0 : Nat} {ro : Nat → Nat} {a : Nat} (h : a < 900) : x_tr z0 ro (.ref a) = .ref (z0 + a) := by simp [x_tr, x_ad, h]
theorem x_trRo {z0 : Nat} {ro : Nat → Nat} {a : Nat} (h : ¬ a < 900) : x_tr z0 ro (.ref a) = .ref (ro a) := by simp [x_tr, x_ad, h]
theorem x_adm {z0 : Nat} {ro : Nat → Nat} {a : Nat} (h : a < 900) : x_ad z0 ro a = z0 + a := by simp [x_ad, h]
theorem x_bound {p : Program} {l : Launch} {e : Env} {R : Room} {s : State} {m : MethodId} {args : Array Value} {below : List Frame} {meth : Method} {c : Code} {H : Heap} {locs : List Loc} {cells slots : Nat} {Q : State → Prop} {g : JFrame} (k : H.size ≤ s.heap.size + cells → W p l e R s m args below meth c H locs cells slots Q g) : W p l e R s m args below meth c H locs cells slots Q g := by
  intro T hT X
  have h := X.heapSize
  rw [hT] at h
  exact k h T hT X
theorem x_tyWord {ci k : Nat} (hci : ci < 9) (hk : k < x_nf ci) : u_lay (x_own ci) (x_T ci) k ∈ x_gw := x_u_in hci _ (u_in_lay hk)
section XM
variable {p : Program} {l : Launch} {e : Env} {R : Room} {s : State} {m : MethodId} {args : Array Value} {below : List Frame} {meth : Method} {c : Code} {Q : State → Prop}
variable {z0 nL pc mid d nF L : Nat} {xs : Nat → Int32} {ro : Nat → Nat} {D : va_G} {cA : Nat → ClassId} {al st al' st' : List Value} {w w' : x_W} {pc' : Nat}
/-- behind a store: the heap is as large as it was -/
theorem x_OK.put {H H1 : Heap} {locs locs1 : List Loc} {ls : Array Slot} {cells slots : Nat} (ok : x_OK s z0 ro D cA nL al w H locs ls cells slots) (hlen : w'.1.length = w.1.length) (hP : va_P D x_cl (x_ws z0 ro cA w') H1) (hS : va_S (x_A z0) H H1 locs1) (hsz : H1.size ≤ s.heap.size + cells) : x_OK s z0 ro D cA nL al w' H1 locs1 ls cells slots := by
  obtain ⟨h1, h2, -, h4, h5, h6, h7⟩ := ok
  have hz := hS.1
  refine ⟨by omega, by omega, hP, h4, ⟨Nat.le_trans h5.1 hS.1, fun q hq hA => ?_, hS.2.2⟩, by omega, h7⟩
  rw [hS.2.1 q (Nat.lt_of_lt_of_le hq h5.1) hA]
  exact h5.2.1 q hq hA
theorem x_vaS {H : Heap} {locs : List Loc} {ls : Array Slot} {cells slots : Nat} (ok : x_OK s z0 ro D cA nL al w H locs ls cells slots) : va_S (x_A z0) H H locs := ⟨Nat.le_refl _, fun _ _ _ => rfl, ok.2.2.2.2.1.2.2⟩
theorem xb_ldc (C : x_MC p R s m args meth c mid d nF z0 ro L xs D cA) {idx n : Nat} (hd : (n = 2 ∧ decode (x_code mid) pc = .ok (.ldc idx, 2)) ∨ (n = 3 ∧ decode (x_code mid) pc = .ok (.ldc_w idx, 3))) (h : x_ldc (x_oc mid) idx n pc al st w = some (pc', al', st', w')) (k : x_J p l e R s m args below meth c Q z0 ro D cA nL pc' al' st' w') : x_J p l e R s m args below meth c Q z0 ro D cA nL pc al st w := by
  obtain ⟨hx, hb, hml, hown, hts, ⟨hRO, hVM, hK⟩, -⟩ := C
  unfold x_ldc at h
  split at h
  · rename_i v hv
    cases h
    have hok := List.all_eq_true.mp x_kiOk _ (x_lk_mem hv)
    obtain ⟨v, ps⟩ := v
    intro H locs ls cells slots ok
    have kk := k H locs ls cells slots ok
    unfold x_kiB at hok
    split at hok
    · rename_i oc idx' v' a heq
      cases heq
      rcases hd with ⟨rfl, hd⟩ | ⟨rfl, hd⟩
      · exact lv_ldc hx hb hown (hts _ (x_w_mem hok)) hd kk
      · exact lv_ldcw hx hb hown (hts _ (x_w_mem hok)) hd kk
    · cases hok
  · split at h
    · rename_i v hv
      split at h
      · rename_i hn
        subst hn
        cases h
        intro H locs ls cells slots ok
        have kk := k H locs ls cells slots ok
        rcases hd with ⟨-, hd⟩ | ⟨hn, -⟩
        · have hr := hVM.2 _ (x_lk_mem hv)
          have e1 : x_tr z0 ro (.ref (1000 + 2 * v.1)) = .ref (ro (1000 + 2 * v.1)) := x_trRo (by omega)
          rw [List.map_cons, e1] at kk
          exact va_ldcS hx hb hown hr hd kk
        · cases hn
      · cases h
    · cases h
theorem xb_ldc2 (C : x_MC p R s m args meth c mid d nF z0 ro L xs D cA) {idx : Nat} (hd : decode (x_code mid) pc = .ok (.ldc2_w idx, 3)) (h : x_ldc2 (x_oc mid) idx pc al st w = some (pc', al', st', w')) (k : x_J p l e R s m args below meth c Q z0 ro D cA nL pc' al' st' w') : x_J p l e R s m args below meth c Q z0 ro D cA nL pc al st w := by
  obtain ⟨hx, hb, hml, hown, hts, -⟩ := C
  unfold x_ldc2 at h
  split at h
  · rename_i v hv
    cases h
    have hok := List.all_eq_true.mp x_klOk _ (x_lk_mem hv)
    obtain ⟨v, ps⟩ := v
    intro H locs ls cells slots ok
    have kk := k H locs ls cells slots ok
    unfold x_klB at hok
    split at hok
    · rename_i oc idx' v' a heq
      cases heq
      exact lv_ldc2 hx hb hown (hts _ (x_w_mem hok)) hd kk
    · cases hok
  · cases h
theorem x_ownOf {n : Nat} (h : x_oc mid = n) : x_own (x_oc mid) = x_own n := by rw [h]
theorem x_sp1 : Cond.fieldLink "java/lang/String" 38 "java/lang/String" "COMPACT_STRINGS" "Z" ∈ x_gw := x_w_mem (i := 180) (by decide +kernel)
theorem x_sp2 : Cond.fieldLink "java/lang/String" 1053 "jdk/internal/util/Preconditions" "SIOOBE_FORMATTER" "Ljava/util/function/BiFunction;" ∈ x_gw := x_w_mem (i := 196) (by decide +kernel)
theorem x_sp3 : Cond.fieldLink "OneNet$Sleeper" 38 "OneNet$Sleeper" "IS" "[I" ∈ x_gw := x_w_mem (i := 695) (by decide +kernel)
theorem x_sp4 : Cond.fieldLink "OneNet$Net" 74 "OneNet$Net" "STEPS" "[I" ∈ x_gw := x_w_mem (i := 734) (by decide +kernel)
theorem x_sp5 : Cond.fieldLink "java/lang/String" 9 "java/lang/String" "value" "[B" ∈ x_gw := x_w_mem (i := 1533) (by decide +kernel)
theorem x_sp6 : Cond.fieldLink "java/lang/String" 15 "java/lang/String" "coder" "B" ∈ x_gw := x_w_mem (i := 1534) (by decide +kernel)
theorem xb_gets (C : x_MC p R s m args meth c mid d nF z0 ro L xs D cA) {idx : Nat} (hd : decode (x_code mid) pc = .ok (.getstatic idx, 3)) (h : x_gets (x_oc mid) idx pc al st w = some (pc', al', st', w')) (k : x_J p l e R s m args below meth c Q z0 ro D cA nL pc' al' st' w') : x_J p l e R s m args below meth c Q z0 ro D cA nL pc al st w := by
  obtain ⟨hx, hb, hml, hown, hts, ⟨⟨-, hZ1, hZ2, hZ3, hZ4, -⟩, -⟩, -⟩ := C
  have r8 : ∀ a, ¬ a < 900 → x_tr z0 ro (.ref a) = .ref (ro a) := fun a h => x_trRo h
  unfold x_gets at h
  split at h
  · rename_i hc
    obtain ⟨h1, rfl⟩ := hc
    cases h
    rw [h1] at hown
    intro H locs ls cells slots ok
    exact va_gets hx hb hZ1 ok.2.2.2.2.1 hown (hts _ x_sp1) (fun _ q => q) hd (k H locs ls cells slots ok)
  · split at h
    · rename_i hc
      obtain ⟨h1, rfl⟩ := hc
      cases h
      rw [h1] at hown
      intro H locs ls cells slots ok
      have kk := k H locs ls cells slots ok
      exact va_gets hx hb hZ2 ok.2.2.2.2.1 hown (hts _ x_sp2) (fun _ q => q) hd kk
    · split at h
      · rename_i hc
        obtain ⟨h1, rfl⟩ := hc
        cases h
        rw [h1] at hown
        intro H locs ls cells slots ok
        have kk := k H locs ls cells slots ok
        rw [List.map_cons, r8 996 (by decide)] at kk
        exact va_gets hx hb hZ3.1 ok.2.2.2.2.1 hown (hts _ x_sp3) (fun _ q => q) hd kk
      · split at h
        · rename_i hc
          obtain ⟨h1, rfl⟩ := hc
          cases h
          rw [h1] at hown
          intro H locs ls cells slots ok
          have kk := k H locs ls cells slots ok
          rw [List.map_cons, r8 997 (by decide)] at kk
          exact va_gets hx hb hZ4.1 ok.2.2.2.2.1 hown (hts _ x_sp4) (fun _ q => q) hd kk
        · cases h
theorem x_fs_inv {oc idx ci k : Nat} {ps : List Nat} (h : x_lk x_fs oc idx = some ((ci, k), ps)) : ci < 9 ∧ k < x_nf ci ∧ (x_T ci k).1 = x_own ci ∧ Cond.fieldLink (x_own oc) idx (x_own ci) (x_T ci k).2.1 (x_T ci k).2.2.1 ∈ x_gw := by
  have hok := List.all_eq_true.mp x_fsOk _ (x_lk_mem h)
  unfold x_fsB at hok
  split at hok
  · rename_i a heq
    cases heq
    simp only [Bool.and_eq_true, decide_eq_true_eq] at hok
    exact ⟨hok.1.1.1, hok.1.1.2, hok.1.2, x_w_mem hok.2⟩
  · cases hok
theorem x_ws_obj {H : Heap} {locs : List Loc} {ls : Array Slot} {cells slots : Nat} {a ci : Nat} (h : x_tag w a = some (0, ci)) : (x_ws z0 ro cA w)[a]? = some (z0 + a, .inr (ci, (List.range (x_nf ci)).map (fun k => x_tr z0 ro (x_rd w a ci k)))) := by
  rw [x_ws_at, h]; rfl
theorem xb_gf (C : x_MC p R s m args meth c mid d nF z0 ro L xs D cA) {idx : Nat} (hd : decode (x_code mid) pc = .ok (.getfield idx, 3)) (h : x_gf (x_oc mid) idx pc al st w = some (pc', al', st', w')) (k : x_J p l e R s m args below meth c Q z0 ro D cA nL pc' al' st' w') : x_J p l e R s m args below meth c Q z0 ro D cA nL pc al st w := by
  obtain ⟨hx, hb, hml, hown, hts, ⟨⟨-, -, -, -, -, hSt⟩, -, hK⟩, -⟩ := C
  unfold x_gf at h
  split at h
  · rename_i a st1
    split at h
    · rename_i ci kf ps hlk
      split at h
      · rename_i hc
        cases h
        obtain ⟨hci, hkf, hT, hw⟩ := x_fs_inv hlk
        intro H locs ls cells slots ok
        have ha := x_lt900 ok.2.1 hc.1
        rw [List.map_cons, x_trRef ha]
        refine va_get hx hb hts (x_u_in hci) hown hK ok.2.2.1 a (by rw [x_ws_at, hc.1]; rfl) (x_cl_at ci hci) kf hkf (hts _ hw) (fun x q => by rw [hT] at q; exact q) (by rw [List.getElem?_map, List.getElem?_range hkf]; rfl) hd (k H locs ls cells slots ok)
      · cases h
    · split at h
      · rename_i hc
        obtain ⟨b, hba⟩ : ∃ b : Nat, b = a := ⟨a, rfl⟩
        subst hba
        obtain ⟨h1, h2, h3, h4⟩ := hc
        rw [h1] at hown
        have h2' : 1000 ≤ b := h2
        have h3' : b < 1028 := h3
        have h4' : b % 2 = 0 := h4
        have h9 : ¬ b < 900 := by omega
        have h91 : ¬ b + 1 < 900 := by omega
        have hi : (b - 1000) / 2 < 14 := by omega
        have ea : 1000 + 2 * ((b - 1000) / 2) = b := by omega
        have eb : 1001 + 2 * ((b - 1000) / 2) = b + 1 := by omega
        have f0 := hSt.1 _ hi
        simp only [ea, eb] at f0
        obtain ⟨f1, f2, f3, f4⟩ := f0
        split at h
        · rename_i hidx
          subst hidx
          cases h
          intro H locs ls cells slots ok
          rw [List.map_cons, x_trRo h9]
          exact vk_getf hx hb f2 ok.2.2.2.2.1 hown (hts _ x_sp6) (fun _ q => q) hd (k H locs ls cells slots ok)
        · split at h
          · rename_i hidx
            subst hidx
            cases h
            intro H locs ls cells slots ok
            have kk := k H locs ls cells slots ok
            rw [List.map_cons, x_trRo h9]
            rw [List.map_cons, x_trRo h91] at kk
            exact vk_getf hx hb f3 ok.2.2.2.2.1 hown (hts _ x_sp5) (fun _ q => q) hd kk
          · cases h
      · cases h
  · cases h
theorem x_cell_set {a ci k0 : Nat} {v : Value} {w2 : x_W} (hk : k0 < x_nf ci) (h : ∀ j, x_rd w2 a ci j = if j = k0 then v else x_rd w a ci j) : x_cell z0 ro cA w2 a (0, ci) = .inr (ci, ((List.range (x_nf ci)).map (fun k => x_tr z0 ro (x_rd w a ci k))).set k0 (x_tr z0 ro v)) := by
  show Sum.inr (ci, _) = Sum.inr (ci, _)
  congr 2
  apply List.ext_getElem?
  intro j
  by_cases hj : j = k0
  · subst hj
    rw [List.getElem?_set_self (by simpa using hk), List.getElem?_map, List.getElem?_range hk, Option.map_some, h, if_pos rfl]
  · rw [List.getElem?_set_ne (Ne.symm hj), List.getElem?_map, List.getElem?_map]
    by_cases hjn : j < x_nf ci
    · rw [List.getElem?_range hjn, Option.map_some, Option.map_some, h, if_neg hj]
    · rw [List.getElem?_eq_none (by simpa using hjn)]
      rfl
theorem xb_pf (C : x_MC p R s m args meth c mid d nF z0 ro L xs D cA) {idx : Nat} (hd : decode (x_code mid) pc = .ok (.putfield idx, 3)) (h : x_pf (decide ((x_y mid).name = "<init>")) (x_oc mid) idx pc al st w = some (pc', al', st', w')) (k : x_J p l e R s m args below meth c Q z0 ro D cA nL pc' al' st' w') : x_J p l e R s m args below meth c Q z0 ro D cA nL pc al st w := by
  obtain ⟨hx, hb, hml, hown, hts, ⟨-, -, hK⟩, -, hnm, -⟩ := C
  unfold x_pf at h
  split at h
  · rename_i v a st1
    split at h
    · rename_i ci kf ps hlk
      obtain ⟨hci, hkf, hT, hw⟩ := x_fs_inv hlk
      split at h
      · cases h
      rename_i hfi
      have hini : (x_T ci kf).2.2.2 = true → (x_y mid).name = "<init>" ∧ x_own ci = x_own (x_oc mid) := by
        intro q
        by_cases z : decide ((x_y mid).name = "<init>") = true ∧ ci = x_oc mid
        · exact ⟨of_decide_eq_true z.1, by rw [z.2]⟩
        · exact absurd ⟨q, z⟩ hfi
      split at h
      · rename_i hc
        -- what both kinds of value share
        have key : ∀ (u : Value) (w2 : x_W), w2.1 = w.1 → (∀ j, x_rd w2 a ci j = if j = kf then u else x_rd w a ci j) → (∀ b q, b ≠ a → x_cell z0 ro cA w2 b q = x_cell z0 ro cA w b q) → narrow (x_ty ci kf) (x_tr z0 ro u) = x_tr z0 ro u → fits (x_ty ci kf) (x_tr z0 ro u) = true → x_J p l e R s m args below meth c Q z0 ro D cA nL (pc + 3) al st1 w2 → x_J p l e R s m args below meth c Q z0 ro D cA nL pc al (u :: .ref a :: st1) w := by
          intro u w2 hw2 hrd hne hn hf kk H locs ls cells slots ok
          have ha := x_lt900 ok.2.1 hc
          have hcell : x_cell z0 ro cA w2 a (0, ci) = _ := x_cell_set hkf hrd
          have hset := x_ws_set (z0 := z0) (ro := ro) (cA := cA) hw2 hc hcell hne
          rw [List.map_cons, List.map_cons, x_trRef ha]
          cases hfin : (x_T ci kf).2.2.2 with
          | false =>
            refine va_put hx hb hts (x_u_in hci) (x_ty ci) (x_tyOk ci hci) (x_nmOk ci hci) hown hK ok.2.2.1 (x_wsD z0 ro cA w) (x_vaS ok) a (by rw [x_ws_at, hc]; rfl) (x_cl_at ci hci) kf hkf (hts _ hw) (fun x q => by rw [hT] at q; exact q) hfin (x_tyOk ci hci kf hkf) hn hf (by simpa using hkf) hd (fun H1 locs1 hP1 _ hS1 => ?_)
            rw [hset] at hP1
            exact x_bound fun hsz => kk H1 locs1 ls cells slots (ok.put (by rw [hw2]) hP1 hS1 hsz)
          | true =>
            obtain ⟨hi1, hi2⟩ := hini hfin
            refine va_putF hx hb hts (x_u_in hci) (x_ty ci) (x_tyOk ci hci) (x_nmOk ci hci) hown hK ok.2.2.1 (x_wsD z0 ro cA w) (x_vaS ok) a (by rw [x_ws_at, hc]; rfl) (x_cl_at ci hci) kf hkf (hts _ hw) (fun x q => by rw [hT] at q; exact q) hfin (hnm hi1) (hT.trans hi2) (x_tyOk ci hci kf hkf) hn hf (by simpa using hkf) hd (fun H1 locs1 hP1 _ hS1 => ?_)
            rw [hset] at hP1
            exact x_bound fun hsz => kk H1 locs1 ls cells slots (ok.put (by rw [hw2]) hP1 hS1 hsz)
        split at h
        · rename_i x
          split at h
          · rename_i hty
            cases h
            have hnr : x_refT (x_ty ci kf) = false := by
              rcases hty with q | ⟨q, -⟩ <;> rw [q] <;> rfl
            refine key (.int x) (x_si w a kf x) rfl (fun j => ?_) (fun b q hb => x_cell_ne (x_i_sIn _ _ _ hb) rfl) ?_ ?_ k
            · rw [x_rd_si]
              by_cases hj : j = kf
              · subst hj
                rw [if_pos ⟨rfl, rfl, hnr⟩, if_pos rfl]
              · rw [if_neg (fun q => hj q.2.1), if_neg hj]
            · show narrow (x_ty ci kf) (.int x) = .int x
              rcases hty with q | ⟨q, q2⟩
              · rw [q]; rfl
              · rw [q]
                rcases q2 with rfl | rfl <;> rfl
            · show fits (x_ty ci kf) (.int x) = true
              rcases hty with q | ⟨q, q2⟩
              · rw [q]; rfl
              · rw [q]
                rcases q2 with rfl | rfl <;> rfl
          · cases h
        · rename_i b
          split at h
          · rename_i hty
            cases h
            refine key (.ref b) (x_sr w a kf (.ref b)) rfl (fun j => ?_) (fun b q hb => x_cell_ne rfl (x_r_sRn _ _ _ hb)) ?_ ?_ k
            · rw [x_rd_sr]
              by_cases hj : j = kf
              · subst hj
                rw [if_pos ⟨rfl, rfl, hty⟩, if_pos rfl]
              · rw [if_neg (fun q => hj q.2.1), if_neg hj]
            · cases x_ty ci kf <;> rfl
            · revert hty
              cases x_ty ci kf <;> first | (intro _; rfl) | (intro q; cases q)
          · cases h
        · cases h
      · cases h
    · cases h
  · cases h
theorem x_ws_ints {a n : Nat} (h : x_tag w a = some (1, n)) : (x_ws z0 ro cA w)[a]? = some (z0 + a, .inl (cA 0, n, .inl (x_i w a))) := by
  rw [x_ws_at, h]; rfl
theorem x_ws_refs {a t n : Nat} (h : x_tag w a = some (t + 2, n)) : (x_ws z0 ro cA w)[a]? = some (z0 + a, .inl (cA (t + 1), n, .inr (.inr (.inr (.inr (fun j => x_opt z0 ro (x_r w a j))))))) := by
  rw [x_ws_at, h]; rfl
theorem xb_iald (C : x_MC p R s m args meth c mid d nF z0 ro L xs D cA) (hd : decode (x_code mid) pc = .ok (.iaload, 1)) (h : x_iald L xs pc al st w = some (pc', al', st', w')) (k : x_J p l e R s m args below meth c Q z0 ro D cA nL pc' al' st' w') : x_J p l e R s m args below meth c Q z0 ro D cA nL pc al st w := by
  obtain ⟨hx, hb, hml, hown, hts, ⟨⟨hX, -, -, hT6, hT7, -⟩, -, hK⟩, -⟩ := C
  unfold x_iald at h
  split at h
  · rename_i i a st1
    split at h
    · rename_i ha
      split at h
      · rename_i n ht
        split at h
        · cases h
        · rename_i hin
          cases h
          intro H locs ls cells slots ok
          rw [List.map_cons, List.map_cons, x_trRef ha]
          exact va_iald hx hb hK ok.2.2.1 a 0 (x_ws_ints ht) rfl hin hd (k H locs ls cells slots ok)
      · cases h
    · rename_i ha
      split at h
      · rename_i n f hro
        split at h
        · cases h
        · rename_i hin
          cases h
          intro H locs ls cells slots ok
          rw [List.map_cons, List.map_cons, x_trRo ha]
          have kk := k H locs ls cells slots ok
          unfold x_ro at hro
          split at hro
          · rename_i e9
            subst e9
            cases hro
            exact va_sld hx hb hX.1 hX.2.2 (fun q => absurd hX.2.1 (Nat.not_lt.mpr q)) ok.2.2.2.2.1 hin hd kk
          · split at hro
            · rename_i e9
              subst e9
              cases hro
              exact va_ti hx hb hT6.2 ok.2.2.2.2.1 hin rfl hd kk
            · split at hro
              · rename_i e9
                subst e9
                cases hro
                exact va_ti hx hb hT7.2 ok.2.2.2.2.1 hin rfl hd kk
              · cases hro
      · cases h
  · cases h
theorem x_byts (i : Nat) (h : i < 14) : ((List.range 14).map (fun i => (x_sbyt i).length)).getD i 0 = (x_sbyt i).length ∧ ((List.range 14).map x_sbyt).getD i [] = x_sbyt i := by
  constructor <;> (rw [List.getD_eq_getElem?_getD, List.getElem?_map, List.getElem?_range h]; rfl)
theorem xb_bald (C : x_MC p R s m args meth c mid d nF z0 ro L xs D cA) (hd : decode (x_code mid) pc = .ok (.baload, 1)) (h : x_bald pc al st w = some (pc', al', st', w')) (k : x_J p l e R s m args below meth c Q z0 ro D cA nL pc' al' st' w') : x_J p l e R s m args below meth c Q z0 ro D cA nL pc al st w := by
  obtain ⟨hx, hb, hml, hown, hts, ⟨⟨-, -, -, -, -, hSt⟩, -, hK⟩, -⟩ := C
  unfold x_bald at h
  split at h
  · rename_i i a st1
    split at h
    · rename_i hc
      obtain ⟨b, hba⟩ : ∃ b : Nat, b = a := ⟨a, rfl⟩
      subst hba
      obtain ⟨h2, h3, h4⟩ := hc
      have h2' : 1000 ≤ b := h2
      have h3' : b < 1028 := h3
      have h4' : b % 2 = 1 := h4
      have h9 : ¬ b < 900 := by omega
      have hi : (b - 1000) / 2 < 14 := by omega
      have ea : 1001 + 2 * ((b - 1000) / 2) = b := by omega
      have f0 := hSt.1 _ hi
      obtain ⟨b1, b2⟩ := x_byts _ hi
      simp only [b1, b2, ea] at f0
      obtain ⟨f1, f2, f3, f4⟩ := f0
      split at h
      · cases h
      · rename_i hin
        cases h
        intro H locs ls cells slots ok
        rw [List.map_cons, List.map_cons, x_trRo h9]
        exact va_tb hx hb f4 ok.2.2.2.2.1 hin rfl hd (k H locs ls cells slots ok)
    · cases h
  · cases h
theorem xb_iast (C : x_MC p R s m args meth c mid d nF z0 ro L xs D cA) (hd : decode (x_code mid) pc = .ok (.iastore, 1)) (h : x_iast pc al st w = some (pc', al', st', w')) (k : x_J p l e R s m args below meth c Q z0 ro D cA nL pc' al' st' w') : x_J p l e R s m args below meth c Q z0 ro D cA nL pc al st w := by
  obtain ⟨hx, hb, hml, hown, hts, ⟨-, -, hK⟩, -⟩ := C
  unfold x_iast at h
  split at h
  · rename_i x i a st1
    split at h
    · rename_i n ht
      split at h
      · cases h
      · rename_i hin
        cases h
        intro H locs ls cells slots ok
        have ha := x_lt900 ok.2.1 ht
        rw [List.map_cons, List.map_cons, List.map_cons, x_trRef ha]
        refine va_iast hx hb hK ok.2.2.1 (x_wsD z0 ro cA w) (x_vaS ok) a 0 (x_ws_ints ht) rfl hin hd (fun H1 locs1 hP1 _ hS1 => ?_)
        have hset := x_ws_set (z0 := z0) (ro := ro) (cA := cA) (w := w) (w' := x_si w a i.toNatClampNeg x) (q := .inl (cA 0, n, .inl (upd (x_i w a) i.toNatClampNeg x))) rfl ht (by simp only [x_cell, x_si, x_i_sI]) (fun b q hb => x_cell_ne (x_i_sIn _ _ _ hb) rfl)
        rw [hset] at hP1
        exact x_bound fun hsz => k H1 locs1 ls cells slots (ok.put rfl hP1 hS1 hsz)
    · cases h
  · cases h
theorem x_rfo {v : Value} (h : x_isR v = true) : va_rf (x_opt z0 ro v) = x_tr z0 ro v := by
  cases v <;> first | rfl | cases h
theorem x_tys_at {t : Nat} (h : t < 3) : (x_tys cA)[t + 1]? = some (cA (t + 1), .object (x_own (x_el (t + 1)))) := by
  match t, h with
  | 0, _ => rfl
  | 1, _ => rfl
  | 2, _ => rfl
theorem xb_aald (C : x_MC p R s m args meth c mid d nF z0 ro L xs D cA) (hd : decode (x_code mid) pc = .ok (.aaload, 1)) (h : x_aald pc al st w = some (pc', al', st', w')) (k : x_J p l e R s m args below meth c Q z0 ro D cA nL pc' al' st' w') : x_J p l e R s m args below meth c Q z0 ro D cA nL pc al st w := by
  obtain ⟨hx, hb, hml, hown, hts, ⟨-, -, hK⟩, -⟩ := C
  unfold x_aald at h
  split at h
  · rename_i i a st1
    split at h
    · rename_i t n ht
      split at h
      · cases h
      · rename_i hc
        cases h
        have hin : vp_in i n := fun q => hc (q.elim Or.inl (fun z => Or.inr (Or.inl z)))
        have hr : x_isR (x_r w a i.toNatClampNeg) = true := by
          cases hh : x_isR (x_r w a i.toNatClampNeg) with
          | true => rfl
          | false => exact absurd (Or.inr (Or.inr (Or.inl hh))) hc
        intro H locs ls cells slots ok
        have ha := x_lt900 ok.2.1 ht
        rw [List.map_cons, List.map_cons, x_trRef ha]
        have h3 : t < 3 := by
          rcases Nat.lt_or_ge t 3 with q | q
          · exact q
          · exact absurd (Or.inr (Or.inr (Or.inr q))) hc
        refine va_aldq hx hb hK ok.2.2.1 a (t + 1) (x_ws_refs ht) (x_tys_at h3) hin hd ?_
        rw [x_rfo hr]
        exact k H locs ls cells slots ok
    · cases h
  · cases h
theorem x_el9 {t : Nat} (h : t < 3) : x_el (t + 1) < 9 := by
  match t, h with
  | 0, _ => decide
  | 1, _ => decide
  | 2, _ => decide
theorem xb_aast (C : x_MC p R s m args meth c mid d nF z0 ro L xs D cA) (hd : decode (x_code mid) pc = .ok (.aastore, 1)) (h : x_aast pc al st w = some (pc', al', st', w')) (k : x_J p l e R s m args below meth c Q z0 ro D cA nL pc' al' st' w') : x_J p l e R s m args below meth c Q z0 ro D cA nL pc al st w := by
  obtain ⟨hx, hb, hml, hown, hts, ⟨-, -, hK⟩, -⟩ := C
  unfold x_aast at h
  split at h
  · rename_i b i a st1
    split at h
    · rename_i t n ht
      split at h
      · cases h
      · rename_i hc
        cases h
        have hin : vp_in i n := fun q => hc (q.elim Or.inl (fun z => Or.inr (Or.inl z)))
        have htb : x_tag w b = some (0, x_el (t + 1)) := by
          by_cases q : x_tag w b = some (0, x_el (t + 1))
          · exact q
          · exact absurd (Or.inr (Or.inr (Or.inl q))) hc
        have h3 : t < 3 := by
          rcases Nat.lt_or_ge t 3 with q | q
          · exact q
          · exact absurd (Or.inr (Or.inr (Or.inr q))) hc
        intro H locs ls cells slots ok
        have ha := x_lt900 ok.2.1 ht
        have hb9 := x_lt900 ok.2.1 htb
        rw [List.map_cons, List.map_cons, List.map_cons, x_trRef ha, x_trRef hb9]
        refine va_astq hx hb hK ok.2.2.1 (x_wsD z0 ro cA w) (x_vaS ok) a (t + 1) b (x_el (t + 1)) (x_ws_refs ht) (x_tys_at h3) (x_ws_obj (H := H) (locs := locs) (ls := ls) (cells := cells) (slots := slots) htb) (x_cl_at _ (x_el9 h3)) hin hd (fun H1 locs1 hP1 _ hS1 => ?_)
        have hset := x_ws_set (z0 := z0) (ro := ro) (cA := cA) (w := w) (w' := x_sr w a i.toNatClampNeg (.ref b)) (q := .inl (cA (t + 1), n, .inr (.inr (.inr (.inr (va_up (fun j => x_opt z0 ro (x_r w a j)) i.toNatClampNeg (some (z0 + b)))))))) rfl ht (by
          simp only [x_cell, x_sr, x_r_sR]
          congr 7
          funext j
          unfold x_upR va_up
          by_cases hj : j = i.toNatClampNeg
          · rw [if_pos hj, if_pos hj]; simp [x_opt, x_adm hb9]
          · rw [if_neg hj, if_neg hj]) (fun b q hb => x_cell_ne rfl (x_r_sRn _ _ _ hb))
        rw [hset] at hP1
        exact x_bound fun hsz => k H1 locs1 ls cells slots (ok.put rfl hP1 hS1 hsz)
    · cases h
  · cases h
theorem xb_len (C : x_MC p R s m args meth c mid d nF z0 ro L xs D cA) (hd : decode (x_code mid) pc = .ok (.arraylength, 1)) (h : x_len L pc al st w = some (pc', al', st', w')) (k : x_J p l e R s m args below meth c Q z0 ro D cA nL pc' al' st' w') : x_J p l e R s m args below meth c Q z0 ro D cA nL pc al st w := by
  obtain ⟨hx, hb, hml, hown, hts, ⟨⟨hX, -, -, -, -, hSt⟩, -, hK⟩, -⟩ := C
  unfold x_len at h
  split at h
  · rename_i a st1
    split at h
    · rename_i ha
      split at h
      · rename_i n ht
        cases h
        intro H locs ls cells slots ok
        rw [List.map_cons, x_trRef ha]
        exact va_alen hx hb hK ok.2.2.1 a 0 (x_ws_ints ht) rfl rfl hd (k H locs ls cells slots ok)
      · cases h
    · split at h
      · rename_i hc
        obtain ⟨b, hba⟩ : ∃ b : Nat, b = a := ⟨a, rfl⟩
        subst hba
        obtain ⟨h2, h3, h4⟩ := hc
        have h2' : 1000 ≤ b := h2
        have h3' : b < 1028 := h3
        have h4' : b % 2 = 1 := h4
        have h9 : ¬ b < 900 := by omega
        have hi : (b - 1000) / 2 < 14 := by omega
        have ea : 1001 + 2 * ((b - 1000) / 2) = b := by omega
        have f0 := hSt.1 _ hi
        obtain ⟨b1, b2⟩ := x_byts _ hi
        simp only [b1, b2, ea] at f0
        obtain ⟨f1, f2, f3, f4⟩ := f0
        cases h
        intro H locs ls cells slots ok
        rw [List.map_cons, x_trRo h9]
        exact va_tlen hx hb f4 ok.2.2.2.2.1 rfl hd (k H locs ls cells slots ok)
      · split at h
        · rename_i h9 _ e9
          subst e9
          cases h
          intro H locs ls cells slots ok
          rw [List.map_cons, x_trRo h9]
          exact va_slen hx hb hX.1 hX.2.2 (fun q => absurd hX.2.1 (Nat.not_lt.mpr q)) ok.2.2.2.2.1 hd (k H locs ls cells slots ok)
        · cases h
  · cases h
/-- behind a making: the new cell stands at the heap's end -/
theorem x_OK.new {H H1 : Heap} {locs : List Loc} {ls : Array Slot} {cells slots q n0 : Nat} {t : Nat × Nat} {e0 : va_E} {f : Nat → Int32} (ok : x_OK s z0 ro D cA nL al w H locs ls cells slots) (h9 : ¬ 899 < w.1.length) (hn : n0 ≤ 2000) (hP : va_P D x_cl (x_ws z0 ro cA w ++ [(q, e0)]) H1) (hD : va_D (x_A z0) (x_ws z0 ro cA w ++ [(q, e0)])) (hS : va_S (x_A z0) H H1 locs) (hsz : H1.size ≤ s.heap.size + (cells + 1)) (hc : x_cell z0 ro cA (x_new w t f) w.1.length t = e0) : q = z0 + w.1.length ∧ x_OK s z0 ro D cA nL al (x_new w t f) H1 locs ls (cells + 1) (slots + n0) := by
  obtain ⟨h1, h2, h3, h4, h5, h6, h7⟩ := ok
  have hlen : (x_ws z0 ro cA w).length = w.1.length := by unfold x_ws; rw [List.length_mapIdx]
  have hlast : (x_ws z0 ro cA w ++ [(q, e0)])[w.1.length]? = some (q, e0) := by
    rw [List.getElem?_append_right (by rw [hlen]; exact Nat.le_refl _), hlen, Nat.sub_self]; rfl
  have hq1 : q < H1.size := (hP _ _ hlast).lt
  have hq2 : z0 ≤ q := hD.2 _ _ hlast
  have hq3 : ¬ q < z0 + w.1.length := by
    intro hq
    have hj : q - z0 < w.1.length := by omega
    have hold : ∃ u, (x_ws z0 ro cA w ++ [(q, e0)])[q - z0]? = some (z0 + (q - z0), u) := by
      rw [List.getElem?_append_left (by rw [hlen]; exact hj), x_ws_at]
      unfold x_tag
      rw [List.getElem?_eq_getElem hj]
      exact ⟨_, rfl⟩
    obtain ⟨u, hu⟩ := hold
    have := hD.1 _ _ _ _ hlast hu (by show q = z0 + (q - z0); omega)
    omega
  have hqe : q = z0 + w.1.length := by omega
  have hlen2 : (x_new w t f).1.length = w.1.length + 1 := by simp [x_new]
  refine ⟨hqe, by rw [hlen2]; have := hS.1; omega, by rw [hlen2]; omega, ?_, h4, ⟨Nat.le_trans h5.1 hS.1, fun y hy hA => ?_, h5.2.2⟩, by have := hS.1; omega, by omega⟩
  · rw [hqe] at hP
    rw [x_ws_push (w' := x_new w t f) (t := t) rfl hc (fun b u hb => x_cell_ne (x_i_newn _ _ _ (by omega)) (x_r_newn _ _ _ (by omega)))] at hP
    exact hP
  · rw [hS.2.1 y (Nat.lt_of_lt_of_le hy h5.1) hA]
    exact h5.2.1 y hy hA
theorem x_roomOf {H : Heap} {locs : List Loc} {ls : Array Slot} {cells slots n0 : Nat} (C : x_MC p R s m args meth c mid d nF z0 ro L xs D cA) (ok : x_OK s z0 ro D cA nL al w H locs ls cells slots) (hF : w.1.length + 1 ≤ nF) (hn : n0 ≤ 2000) : cells + 1 ≤ R.cells ∧ slots + n0 ≤ R.slots := by
  obtain ⟨-, -, -, -, -, -, hz, -, -, -, hc, hs⟩ := C
  obtain ⟨h1, h2, h3, h4, h5, h6, h7⟩ := ok
  omega
theorem x_arrI : Cond.arrayClass .int ∈ x_gw := x_w_mem (i := 139) (by decide +kernel)
theorem xb_newa (C : x_MC p R s m args meth c mid d nF z0 ro L xs D cA) (hd : decode (x_code mid) pc = .ok (.newarray .int, 2)) (h : x_newa pc al st w = some (pc', al', st', w')) (hF : w'.1.length ≤ nF) (k : x_J p l e R s m args below meth c Q z0 ro D cA nL pc' al' st' w') : x_J p l e R s m args below meth c Q z0 ro D cA nL pc al st w := by
  have C0 := C
  obtain ⟨hx, hb, hml, hown, hts, ⟨-, -, hK⟩, hz, -⟩ := C
  unfold x_newa at h
  split at h
  · rename_i n st1
    split at h
    · cases h
    · rename_i hc
      cases h
      have h1 : ¬ n < 0 := fun q => hc (Or.inl q)
      have h2 : n.toNatClampNeg ≤ 2000 := by
        rcases Nat.lt_or_ge 2000 n.toNatClampNeg with q | q
        · exact absurd (Or.inr (Or.inl q)) hc
        · exact q
      have h3 : ¬ 899 < w.1.length := fun q => hc (Or.inr (Or.inr q))
      intro H locs ls cells slots ok
      have hrm := x_roomOf C0 ok (by have : (x_new w (1, n.toNatClampNeg) (fun _ => 0)).1.length = w.1.length + 1 := by simp [x_new]
                                     omega) h2
      have hcI : ∀ cA' : ClassId, s.vm.findClass ("[" ++ FieldType.int.toString) = some cA' → cA' = cA 0 := fun cA' q => Option.some.inj (q.symm.trans (hK.2 0 _ rfl).2)
      rw [List.map_cons]
      refine va_newa (atype := .int) (ty := .int) (a0 := (n.toNatClampNeg, .inl (fun _ => 0))) hx hb (hts _ x_arrI) rfl hK ok.2.2.1 (x_wsD z0 ro cA w) (x_vaS ok) (fun q hq => Nat.le_trans (by have := ok.1; omega) hq) (fun _ => rfl) h1 rfl (by show n.toNatClampNeg * 4 ≤ _; omega) hrm.1 hrm.2 hd (fun q cI H1 hK1 hP1 hD1 hS1 => ?_)
      have hcI' : cI = cA 0 := hcI cI (hK1.2 4 _ rfl).2
      subst hcI'
      refine x_bound fun hsz => ?_
      obtain ⟨rfl, ok'⟩ := ok.new (t := (1, n.toNatClampNeg)) (f := fun _ => 0) h3 h2 hP1 hD1 hS1 hsz (by simp only [x_cell, x_i_new])
      have kk := k H1 locs ls _ _ ok'
      rw [List.map_cons, x_trRef (by omega)] at kk
      exact kk
  · cases h
end XM
