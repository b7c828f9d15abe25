/-! ===== THE MACHINE DOES WHAT THE INTERPRETER DOES, 5: Math, Object ===== -/
section XP
variable {p : Program} {l : Launch} {e : Env} {R : Room} {s : State} {m : MethodId} {args : Array Value} {below : List Frame} {meth : Method} {c : Code} {Q : State → Prop}
variable {z0 nL pc mid d nF L : Nat} {xs : Nat → Int32} {ro : Nat → Nat} {D : va_G} {cA : Nat → ClassId} {al st al' st' : List Value} {w w' : x_W} {pc' : Nat}
theorem xb_math (C : x_MC p R s m args meth c mid d nF z0 ro L xs D cA) (hnL : nL = x_ml mid) {idx : Nat} (hd : decode (x_code mid) pc = .ok (.invokestatic idx, 3)) (h : x_math (x_oc mid) idx pc al st w = some (pc', al', st', w')) (hF : w'.1.length ≤ nF) (k : x_J p l e R s m args below meth c Q z0 ro D cA nL pc' al' st' w') : x_J p l e R s m args below meth c Q z0 ro D cA nL pc al st w := by
  obtain ⟨hx, hb, hml, hown, hts, ⟨-, hVM, hK⟩, hz, -, hfr, hlo, hcl, hsl⟩ := C
  have hcs : w' = w → ∀ (H : Heap) (locs : List Loc) (ls : Array Slot) (cells slots : Nat), x_OK s z0 ro D cA nL al w H locs ls cells slots → cells ≤ R.cells ∧ slots ≤ R.slots := by
    intro hw H locs ls cells slots ok
    subst hw
    obtain ⟨h1, h2, h3, h4, h5, h6, h7⟩ := ok
    omega
  have cat8 : ∀ st1 : List Value, ¬ 8 < x_cat st1 → ((st1.map (x_tr z0 ro)).map fun v => v.category).sum + 13 ≤ R.locals := by
    intro st1 h8
    rw [x_cat_tr]
    omega
  unfold x_math at h
  split at h
  · rename_i ps hlk
    have hok := List.all_eq_true.mp x_mmOk _ (x_lk_mem hlk)
    unfold x_mmB at hok
    split at hok
    · rename_i oc' idx' a1 a2 a3 a4 heq
      cases heq
      simp only [Bool.and_eq_true] at hok
      obtain ⟨⟨⟨o1, o2⟩, o3⟩, o4⟩ := hok
      split at h
      · split at h
        · cases h
        · rename_i h8
          cases h
          intro H locs ls cells slots ok
          have q := hcs rfl H locs ls cells slots ok
          exact va_mmax hx hb (by rw [hml, ok.2.2.2.1.2.1, hnL]) hown (hts _ (x_w_mem o1)) (hts _ (x_w_mem o2)) (hts _ (x_w_mem o3)) (hts _ (x_w_mem o4)) (by omega) (cat8 _ h8) q.1 q.2 hd (k H locs ls cells slots ok)
      · cases h
    · rename_i heq; cases heq
    · rename_i heq; cases heq
    · cases hok
  · rename_i ps hlk
    have hok := List.all_eq_true.mp x_mmOk _ (x_lk_mem hlk)
    unfold x_mmB at hok
    split at hok
    · rename_i heq; cases heq
    · rename_i oc' idx' a1 a2 a3 a4 heq
      cases heq
      simp only [Bool.and_eq_true] at hok
      obtain ⟨⟨⟨o1, o2⟩, o3⟩, o4⟩ := hok
      split at h
      · split at h
        · cases h
        · rename_i h8
          cases h
          intro H locs ls cells slots ok
          have q := hcs rfl H locs ls cells slots ok
          exact va_mmin hx hb (by rw [hml, ok.2.2.2.1.2.1, hnL]) hown (hts _ (x_w_mem o1)) (hts _ (x_w_mem o2)) (hts _ (x_w_mem o3)) (hts _ (x_w_mem o4)) (by omega) (cat8 _ h8) q.1 q.2 hd (k H locs ls cells slots ok)
      · cases h
    · rename_i heq; cases heq
    · cases hok
  · rename_i ps hlk
    have hok := List.all_eq_true.mp x_mmOk _ (x_lk_mem hlk)
    unfold x_mmB at hok
    split at hok
    · rename_i heq; cases heq
    · rename_i heq; cases heq
    · rename_i oc' idx' a1 a2 a3 a4 heq
      cases heq
      simp only [Bool.and_eq_true] at hok
      obtain ⟨⟨⟨o1, o2⟩, o3⟩, o4⟩ := hok
      split at h
      · split at h
        · cases h
        · rename_i h8
          cases h
          intro H locs ls cells slots ok
          have q := hcs rfl H locs ls cells slots ok
          exact va_mabs hx hb (by rw [hml, ok.2.2.2.1.2.1, hnL]) hown (hts _ (x_w_mem o1)) (hts _ (x_w_mem o2)) (hts _ (x_w_mem o3)) (hts _ (x_w_mem o4)) (by omega) (cat8 _ h8) q.1 q.2 hd (k H locs ls cells slots ok)
      · cases h
    · cases hok
  · cases h
theorem x_ob1 : Cond.instanceMethod Lib.objectInit ∈ x_gw := x_w_mem (i := 96) (by decide +kernel)
theorem x_ob2 : Cond.code Lib.objectInit ⟨#[0xb1]⟩ 1 none ∈ x_gw := x_w_mem (i := 97) (by decide +kernel)
theorem xb_ini (C : x_MC p R s m args meth c mid d nF z0 ro L xs D cA) (hnL : nL = x_ml mid) {idx : Nat} (hd : decode (x_code mid) pc = .ok (.invokespecial idx, 3)) (h : x_ini (x_oc mid) idx pc al st w = some (pc', al', st', w')) (k : x_J p l e R s m args below meth c Q z0 ro D cA nL pc' al' st' w') : x_J p l e R s m args below meth c Q z0 ro D cA nL pc al st w := by
  obtain ⟨hx, hb, hml, hown, hts, ⟨-, hVM, hK⟩, hz, -, hfr, hlo, hcl, hsl⟩ := C
  unfold x_ini at h
  split at h
  · rename_i a st1
    split at h
    · rename_i v hlk
      split at h
      · cases h
      · rename_i h8
        cases h
        have hok := List.all_eq_true.mp x_oiOk _ (x_lk_mem hlk)
        obtain ⟨v, ps⟩ := v
        unfold x_oiB at hok
        split at hok
        · rename_i oc' idx' v' a1 heq
          cases heq
          intro H locs ls cells slots ok
          rw [List.map_cons]
          exact W.objInit hx hb hown (hts _ (x_w_mem hok)) (hts _ x_ob1) (hts _ x_ob2) rfl (by rw [hml, ← hnL]; exact ok.2.2.2.1.2.1) rfl hd (by omega) (by show 2 * 0 + _ + 12 ≤ _; rw [x_cat_tr]; omega) (k H locs ls cells slots ok)
        · cases hok
    · cases h
  · cases h
end XP
