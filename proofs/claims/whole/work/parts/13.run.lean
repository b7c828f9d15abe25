/-! ===== runs of the interpreter as equations: what holds behind a run ===== -/
def X_R (L : Nat) (xs : Nat → Int32) (d mid pc : Nat) (al st : List Value) (w : x_W) (Q : Option Value → x_W → Prop) : Prop := ∃ (n : Nat) (r : Option Value) (w' : x_W), x_exec L xs n d mid pc al st w = some (r, w') ∧ Q r w'
theorem x_exec_up (L : Nat) (xs : Nat → Int32) : ∀ (n d mid pc : Nat) (al st : List Value) (w : x_W) (v : Option Value × x_W), x_exec L xs n d mid pc al st w = some v → x_exec L xs (n + 1) d mid pc al st w = some v := by
  intro n
  induction n with
  | zero => intro d mid pc al st w v h; cases h
  | succ n ih =>
    intro d mid pc al st w v h
    unfold x_exec at h ⊢
    cases hd : decode (x_code mid) pc with
    | error _ => simp only [hd] at h; cases h
    | ok il =>
      obtain ⟨i, len⟩ := il
      simp only [hd] at h ⊢
      split at h
      · cases h
      · rename_i hl
        rw [if_neg hl]
        cases hr : x_ret mid i st with
        | some r => simp only [hr] at h ⊢; exact h
        | none =>
          simp only [hr] at h ⊢
          cases hs : x_site (x_oc mid) i with
          | some km =>
            obtain ⟨k, mid2⟩ := km
            simp only [hs] at h ⊢
            cases d with
            | zero => cases h
            | succ d =>
              dsimp only at h ⊢
              split at h
              · rename_i hc
                rw [if_pos hc]
                cases h1 : x_exec L xs n d mid2 0 (x_loc mid2 (List.take (x_na mid2) st).reverse) [] w with
                | none => simp only [h1] at h; cases h
                | some q =>
                  obtain ⟨r1, w1⟩ := q
                  simp only [h1] at h
                  simp only [ih _ _ _ _ _ _ _ h1]
                  exact ih _ _ _ _ _ _ _ h
              · cases h
          | none =>
            simp only [hs] at h ⊢
            cases h1 : x_step L xs (decide ((x_y mid).name = "<init>")) (x_oc mid) i pc al st w with
            | none => simp only [h1] at h; cases h
            | some q =>
              obtain ⟨a1, a2, a3, a4⟩ := q
              simp only [h1] at h ⊢
              exact ih _ _ _ _ _ _ _ h
theorem x_exec_le {L : Nat} {xs : Nat → Int32} {n m d mid pc : Nat} {al st : List Value} {w : x_W} {v : Option Value × x_W} (hnm : n ≤ m) (h : x_exec L xs n d mid pc al st w = some v) : x_exec L xs m d mid pc al st w = some v := by
  induction hnm with
  | refl => exact h
  | step _ ih => exact x_exec_up L xs _ _ _ _ _ _ _ _ ih
section XE
variable {L : Nat} {xs : Nat → Int32} {d mid pc : Nat} {al st : List Value} {w : x_W} {Q : Option Value → x_W → Prop}
theorem X_mono {Q' : Option Value → x_W → Prop} (h : X_R L xs d mid pc al st w Q) (hq : ∀ r w', Q r w' → Q' r w') : X_R L xs d mid pc al st w Q' := by
  obtain ⟨n, r, w', h1, h2⟩ := h
  exact ⟨n, r, w', h1, hq r w' h2⟩
theorem E_step {i : Instr} {len : Nat} (hd : decode (x_code mid) pc = .ok (i, len) ∧ x_ln i len = true) (hr : x_ret mid i st = none) (hs : x_site (x_oc mid) i = none) {pc' : Nat} {al' st' : List Value} {w' : x_W} (h : x_step L xs (decide ((x_y mid).name = "<init>")) (x_oc mid) i pc al st w = some (pc', al', st', w')) : X_R L xs d mid pc al st w Q = X_R L xs d mid pc' al' st' w' Q := by
  have key : ∀ n, x_exec L xs (n + 1) d mid pc al st w = x_exec L xs n d mid pc' al' st' w' := by
    intro n
    rw [x_exec]
    simp only [hd.1, hr, hs, h, if_neg (show ¬ x_ln i len = false by rw [hd.2]; decide)]
  apply propext
  constructor
  · rintro ⟨n, r, w2, h1, h2⟩
    cases n with
    | zero => cases h1
    | succ n => rw [key] at h1; exact ⟨n, r, w2, h1, h2⟩
  · rintro ⟨n, r, w2, h1, h2⟩
    exact ⟨n + 1, r, w2, by rw [key]; exact h1, h2⟩
theorem E_ret {i : Instr} {len : Nat} {r : Option Value} (hd : decode (x_code mid) pc = .ok (i, len) ∧ x_ln i len = true) (hr : x_ret mid i st = some r) : X_R L xs d mid pc al st w Q = Q r w := by
  have key : ∀ n, x_exec L xs (n + 1) d mid pc al st w = some (r, w) := by
    intro n
    rw [x_exec]
    simp only [hd.1, hr, if_neg (show ¬ x_ln i len = false by rw [hd.2]; decide)]
  apply propext
  constructor
  · rintro ⟨n, r2, w2, h1, h2⟩
    cases n with
    | zero => cases h1
    | succ n => rw [key] at h1; cases h1; exact h2
  · intro h
    exact ⟨1, r, w, key 0, h⟩
theorem E_call {i : Instr} {len k mid2 : Nat} {vs rest : List Value} (hd : decode (x_code mid) pc = .ok (i, len) ∧ x_ln i len = true) (hr : x_ret mid i st = none) (hs : x_site (x_oc mid) i = some (k, mid2)) (hst : st = vs.reverse ++ rest) (hna : vs.length = x_na mid2) (h8 : x_cat rest ≤ 8) (hml : (x_ent vs).length ≤ x_ml mid2) (hrc : x_rcv k mid2 vs w = true) :
    X_R L xs (d + 1) mid pc al st w Q = X_R L xs d mid2 0 (x_loc mid2 vs) [] w (fun r w1 => X_R L xs (d + 1) mid (pc + 3) al (r.toList ++ rest) w1 Q) := by
  have e1 : (st.take (x_na mid2)).reverse = vs := by
    rw [hst, ← hna, ← List.length_reverse (as := vs), List.take_left, List.reverse_reverse]
  have e2 : st.drop (x_na mid2) = rest := by
    rw [hst, ← hna, ← List.length_reverse (as := vs), List.drop_left]
  have e3 : x_na mid2 ≤ st.length := by
    rw [hst, ← hna, List.length_append, List.length_reverse]; omega
  have key : ∀ n, x_exec L xs (n + 1) (d + 1) mid pc al st w = (match x_exec L xs n d mid2 0 (x_loc mid2 vs) [] w with | some (r, w1) => x_exec L xs n (d + 1) mid (pc + 3) al (r.toList ++ rest) w1 | none => none) := by
    intro n
    rw [x_exec]
    simp only [hd.1, hr, hs, e1, e2, if_neg (show ¬ x_ln i len = false by rw [hd.2]; decide)]
    rw [if_pos ⟨e3, h8, hml, hrc⟩]
    cases x_exec L xs n d mid2 0 (x_loc mid2 vs) [] w with
    | none => rfl
    | some q => rfl
  apply propext
  constructor
  · rintro ⟨n, r, w2, h1, h2⟩
    cases n with
    | zero => cases h1
    | succ n =>
      rw [key] at h1
      cases h3 : x_exec L xs n d mid2 0 (x_loc mid2 vs) [] w with
      | none => rw [h3] at h1; cases h1
      | some q =>
        obtain ⟨r1, w1⟩ := q
        rw [h3] at h1
        exact ⟨n, r1, w1, h3, n, r, w2, h1, h2⟩
  · rintro ⟨n, r1, w1, h3, m, r, w2, h1, h2⟩
    refine ⟨max n m + 1, r, w2, ?_, h2⟩
    rw [key, x_exec_le (Nat.le_max_left n m) h3]
    exact x_exec_le (Nat.le_max_right n m) h1
-- a kind of instruction, a row
theorem E_psh {i : Instr} {len : Nat} (v : Value) (hd : decode (x_code mid) pc = .ok (i, len) ∧ x_ln i len = true) (hr : x_ret mid i st = none) (hs : x_site (x_oc mid) i = none) (hv : ∀ st w, x_step L xs (decide ((x_y mid).name = "<init>")) (x_oc mid) i pc al st w = some (pc + len, al, v :: st, w)) : X_R L xs d mid pc al st w Q = X_R L xs d mid (pc + len) al (v :: st) w Q := E_step hd hr hs (hv st w)
theorem E_to {off : Int} {tgt : Nat} {i : Instr} {len : Nat} (hd : decode (x_code mid) pc = .ok (i, len) ∧ x_ln i len = true) (ht : (pc : Int) + off = (tgt : Int)) (hi : i = .goto off) : X_R L xs d mid pc al st w Q = X_R L xs d mid tgt al st w Q := by
  subst hi
  refine E_step hd rfl rfl ?_
  show x_to pc off al st w = _
  unfold x_to
  rw [if_pos (by omega), ht]
  rfl
theorem E_if {c : ClassFile.Cond} {off : Int} {tgt len : Nat} {x : Int32} (hd : decode (x_code mid) pc = .ok (.ifCond c off, len) ∧ x_ln (.ifCond c off) len = true) (ht : (pc : Int) + off = (tgt : Int)) : X_R L xs d mid pc al (.int x :: st) w Q = if x_cmp c x 0 = true then X_R L xs d mid tgt al st w Q else X_R L xs d mid (pc + 3) al st w Q := by
  by_cases h : x_cmp c x 0 = true
  · rw [if_pos h]
    refine E_step hd rfl rfl ?_
    show (if (pc : Int) + off < 0 then none else if x_cmp c x 0 = true then x_to pc off al st w else some (pc + 3, al, st, w)) = _
    rw [if_neg (by omega), if_pos h]
    unfold x_to
    rw [if_pos (by omega), ht]
    rfl
  · rw [if_neg h]
    refine E_step hd rfl rfl ?_
    show (if (pc : Int) + off < 0 then none else if x_cmp c x 0 = true then x_to pc off al st w else some (pc + 3, al, st, w)) = _
    rw [if_neg (by omega), if_neg h]
theorem E_if2 {c : ClassFile.Cond} {off : Int} {tgt len : Nat} {x y : Int32} (hd : decode (x_code mid) pc = .ok (.if_icmp c off, len) ∧ x_ln (.if_icmp c off) len = true) (ht : (pc : Int) + off = (tgt : Int)) : X_R L xs d mid pc al (.int y :: .int x :: st) w Q = if x_cmp c x y = true then X_R L xs d mid tgt al st w Q else X_R L xs d mid (pc + 3) al st w Q := by
  by_cases h : x_cmp c x y = true
  · rw [if_pos h]
    refine E_step hd rfl rfl ?_
    show (if (pc : Int) + off < 0 then none else if x_cmp c x y = true then x_to pc off al st w else some (pc + 3, al, st, w)) = _
    rw [if_neg (by omega), if_pos h]
    unfold x_to
    rw [if_pos (by omega), ht]
    rfl
  · rw [if_neg h]
    refine E_step hd rfl rfl ?_
    show (if (pc : Int) + off < 0 then none else if x_cmp c x y = true then x_to pc off al st w else some (pc + 3, al, st, w)) = _
    rw [if_neg (by omega), if_neg h]
-- the heap's rows
def x_tk (w : x_W) (a : Nat) : Nat := ((x_tag w a).getD (0, 0)).1
def x_tn (w : x_W) (a : Nat) : Nat := ((x_tag w a).getD (0, 0)).2
def x_ix (i : Int32) (n : Nat) : Prop := ¬ (i < 0 ∨ n ≤ i.toNatClampNeg)
/-- a place of an int row; a place of a row of references -/
def x_ia (w : x_W) (a : Nat) (i : Int32) : Prop := x_tag w a = some (1, x_tn w a) ∧ a < 900 ∧ x_ix i (x_tn w a)
def x_ra (w : x_W) (a : Nat) (i : Int32) : Prop := x_tag w a = some (x_tk w a, x_tn w a) ∧ 2 ≤ x_tk w a ∧ x_tk w a < 5 ∧ x_ix i (x_tn w a)
theorem x_ra_use {w : x_W} {a : Nat} {i : Int32} (h : x_ra w a i) : ∃ t n, x_tk w a = t + 2 ∧ x_tag w a = some (t + 2, n) ∧ t < 3 ∧ x_ix i n := by
  obtain ⟨h1, h2, h3, h4⟩ := h
  refine ⟨x_tk w a - 2, x_tn w a, by omega, ?_, by omega, h4⟩
  rw [show x_tk w a - 2 + 2 = x_tk w a by omega]
  exact h1
theorem x_ix_nI {j n : Nat} (h : j < n) (hn : n < 2 ^ 31) : x_ix (nI j) n := nI_in h hn
theorem E_gfI {idx ci k len a : Nat} {ps : List Nat} (hd : decode (x_code mid) pc = .ok (.getfield idx, len) ∧ x_ln (.getfield idx) len = true) (hf : x_lk x_fs (x_oc mid) idx = some ((ci, k), ps)) (hT : x_refT (x_ty ci k) = false) (ht : x_tag w a = some (0, ci)) : X_R L xs d mid pc al (.ref a :: st) w Q = X_R L xs d mid (pc + 3) al (.int (x_i w a k) :: st) w Q := by
  refine E_step hd rfl rfl ?_
  show x_gf (x_oc mid) idx pc al (.ref a :: st) w = _
  have e : x_rd w a ci k = .int (x_i w a k) := by unfold x_rd; rw [hT]; rfl
  simp only [x_gf, hf, e]
  rw [if_pos ⟨ht, by rw [hT]; rfl⟩]
theorem E_gfR {idx ci k len a : Nat} {ps : List Nat} (hd : decode (x_code mid) pc = .ok (.getfield idx, len) ∧ x_ln (.getfield idx) len = true) (hf : x_lk x_fs (x_oc mid) idx = some ((ci, k), ps)) (hT : x_refT (x_ty ci k) = true) (ht : x_tag w a = some (0, ci)) (hr : x_isR (x_r w a k) = true) : X_R L xs d mid pc al (.ref a :: st) w Q = X_R L xs d mid (pc + 3) al (x_r w a k :: st) w Q := by
  refine E_step hd rfl rfl ?_
  show x_gf (x_oc mid) idx pc al (.ref a :: st) w = _
  have e : x_rd w a ci k = x_r w a k := by unfold x_rd; rw [hT]; rfl
  simp only [x_gf, hf, e]
  rw [if_pos ⟨ht, by rw [hr, hT]⟩]
theorem E_pfI {idx ci k len a : Nat} {ps : List Nat} {v : Int32} (hd : decode (x_code mid) pc = .ok (.putfield idx, len) ∧ x_ln (.putfield idx) len = true) (hf : x_lk x_fs (x_oc mid) idx = some ((ci, k), ps)) (hfin : ¬ ((x_T ci k).2.2.2 = true ∧ ¬ (decide ((x_y mid).name = "<init>") = true ∧ ci = x_oc mid))) (hT : x_ty ci k = .int) (ht : x_tag w a = some (0, ci)) : X_R L xs d mid pc al (.int v :: .ref a :: st) w Q = X_R L xs d mid (pc + 3) al st (x_si w a k v) Q := by
  refine E_step hd rfl rfl ?_
  show x_pf _ (x_oc mid) idx pc al (.int v :: .ref a :: st) w = _
  simp only [x_pf, hf]
  rw [if_neg hfin, if_pos ht, if_pos (Or.inl hT)]
theorem E_pfB {idx ci k len a : Nat} {ps : List Nat} {v : Int32} (hd : decode (x_code mid) pc = .ok (.putfield idx, len) ∧ x_ln (.putfield idx) len = true) (hf : x_lk x_fs (x_oc mid) idx = some ((ci, k), ps)) (hfin : ¬ ((x_T ci k).2.2.2 = true ∧ ¬ (decide ((x_y mid).name = "<init>") = true ∧ ci = x_oc mid))) (hT : x_ty ci k = .boolean) (hb : v = 0 ∨ v = 1) (ht : x_tag w a = some (0, ci)) : X_R L xs d mid pc al (.int v :: .ref a :: st) w Q = X_R L xs d mid (pc + 3) al st (x_si w a k v) Q := by
  refine E_step hd rfl rfl ?_
  show x_pf _ (x_oc mid) idx pc al (.int v :: .ref a :: st) w = _
  simp only [x_pf, hf]
  rw [if_neg hfin, if_pos ht, if_pos (Or.inr ⟨hT, hb⟩)]
theorem E_pfR {idx ci k len a b : Nat} {ps : List Nat} (hd : decode (x_code mid) pc = .ok (.putfield idx, len) ∧ x_ln (.putfield idx) len = true) (hf : x_lk x_fs (x_oc mid) idx = some ((ci, k), ps)) (hfin : ¬ ((x_T ci k).2.2.2 = true ∧ ¬ (decide ((x_y mid).name = "<init>") = true ∧ ci = x_oc mid))) (hT : x_refT (x_ty ci k) = true) (ht : x_tag w a = some (0, ci)) : X_R L xs d mid pc al (.ref b :: .ref a :: st) w Q = X_R L xs d mid (pc + 3) al st (x_sr w a k (.ref b)) Q := by
  refine E_step hd rfl rfl ?_
  show x_pf _ (x_oc mid) idx pc al (.ref b :: .ref a :: st) w = _
  simp only [x_pf, hf]
  rw [if_neg hfin, if_pos ht, if_pos hT]
theorem E_iald {len a n : Nat} {i : Int32} (hd : decode (x_code mid) pc = .ok (.iaload, len) ∧ x_ln .iaload len = true) (ht : x_tag w a = some (1, n)) (ha : a < 900) (hi : x_ix i n) : X_R L xs d mid pc al (.int i :: .ref a :: st) w Q = X_R L xs d mid (pc + 1) al (.int (x_i w a i.toNatClampNeg) :: st) w Q := by
  refine E_step hd rfl rfl ?_
  show x_iald L xs pc al (.int i :: .ref a :: st) w = _
  simp only [x_iald, ht]
  rw [if_pos ha, if_neg hi]
theorem E_ialdO {len a n : Nat} {f : Nat → Int32} {i : Int32} (hd : decode (x_code mid) pc = .ok (.iaload, len) ∧ x_ln .iaload len = true) (ha : ¬ a < 900) (hro : x_ro L xs a = some (n, f)) (hi : x_ix i n) : X_R L xs d mid pc al (.int i :: .ref a :: st) w Q = X_R L xs d mid (pc + 1) al (.int (f i.toNatClampNeg) :: st) w Q := by
  refine E_step hd rfl rfl ?_
  show x_iald L xs pc al (.int i :: .ref a :: st) w = _
  simp only [x_iald, hro]
  rw [if_neg ha, if_neg hi]
theorem E_iast {len a n : Nat} {i v : Int32} (hd : decode (x_code mid) pc = .ok (.iastore, len) ∧ x_ln .iastore len = true) (ht : x_tag w a = some (1, n)) (hi : x_ix i n) : X_R L xs d mid pc al (.int v :: .int i :: .ref a :: st) w Q = X_R L xs d mid (pc + 1) al st (x_si w a i.toNatClampNeg v) Q := by
  refine E_step hd rfl rfl ?_
  show x_iast pc al (.int v :: .int i :: .ref a :: st) w = _
  simp only [x_iast, ht]
  rw [if_neg hi]
theorem E_aald {len a n t : Nat} {i : Int32} (hd : decode (x_code mid) pc = .ok (.aaload, len) ∧ x_ln .aaload len = true) (ht : x_tag w a = some (t + 2, n)) (h3 : t < 3) (hi : x_ix i n) (hr : x_isR (x_r w a i.toNatClampNeg) = true) : X_R L xs d mid pc al (.int i :: .ref a :: st) w Q = X_R L xs d mid (pc + 1) al (x_r w a i.toNatClampNeg :: st) w Q := by
  refine E_step hd rfl rfl ?_
  show x_aald pc al (.int i :: .ref a :: st) w = _
  simp only [x_aald, ht]
  rw [if_neg]
  rintro (z | z | z | z)
  · exact hi (Or.inl z)
  · exact hi (Or.inr z)
  · rw [hr] at z; cases z
  · omega
theorem E_aast {len a b n t : Nat} {i : Int32} (hd : decode (x_code mid) pc = .ok (.aastore, len) ∧ x_ln .aastore len = true) (ht : x_tag w a = some (t + 2, n)) (h3 : t < 3) (hi : x_ix i n) (hb : x_tag w b = some (0, x_el (t + 1))) : X_R L xs d mid pc al (.ref b :: .int i :: .ref a :: st) w Q = X_R L xs d mid (pc + 1) al st (x_sr w a i.toNatClampNeg (.ref b)) Q := by
  refine E_step hd rfl rfl ?_
  show x_aast pc al (.ref b :: .int i :: .ref a :: st) w = _
  simp only [x_aast, ht]
  rw [if_neg]
  rintro (z | z | z | z)
  · exact hi (Or.inl z)
  · exact hi (Or.inr z)
  · exact z hb
  · omega
theorem E_ialdA {len a : Nat} {i : Int32} (hd : decode (x_code mid) pc = .ok (.iaload, len) ∧ x_ln .iaload len = true) (h : x_ia w a i) : X_R L xs d mid pc al (.int i :: .ref a :: st) w Q = X_R L xs d mid (pc + 1) al (.int (x_i w a i.toNatClampNeg) :: st) w Q := E_iald hd h.1 h.2.1 h.2.2
theorem E_iastA {len a : Nat} {i v : Int32} (hd : decode (x_code mid) pc = .ok (.iastore, len) ∧ x_ln .iastore len = true) (h : x_ia w a i) : X_R L xs d mid pc al (.int v :: .int i :: .ref a :: st) w Q = X_R L xs d mid (pc + 1) al st (x_si w a i.toNatClampNeg v) Q := E_iast hd h.1 h.2.2
theorem E_aaldA {len a : Nat} {i : Int32} (hd : decode (x_code mid) pc = .ok (.aaload, len) ∧ x_ln .aaload len = true) (h : x_ra w a i) (hr : x_isR (x_r w a i.toNatClampNeg) = true) : X_R L xs d mid pc al (.int i :: .ref a :: st) w Q = X_R L xs d mid (pc + 1) al (x_r w a i.toNatClampNeg :: st) w Q := by
  obtain ⟨t, n, -, h1, h2, h3⟩ := x_ra_use h
  exact E_aald hd h1 h2 h3 hr
theorem E_aastA {len a b : Nat} {i : Int32} (hd : decode (x_code mid) pc = .ok (.aastore, len) ∧ x_ln .aastore len = true) (h : x_ra w a i) (hb : x_tag w b = some (0, x_el (x_tk w a - 1))) : X_R L xs d mid pc al (.ref b :: .int i :: .ref a :: st) w Q = X_R L xs d mid (pc + 1) al st (x_sr w a i.toNatClampNeg (.ref b)) Q := by
  obtain ⟨t, n, h0, h1, h2, h3⟩ := x_ra_use h
  rw [h0, show t + 2 - 1 = t + 1 by omega] at hb
  exact E_aast hd h1 h2 h3 hb
theorem E_len {len a n : Nat} (hd : decode (x_code mid) pc = .ok (.arraylength, len) ∧ x_ln .arraylength len = true) (ht : x_tag w a = some (1, n)) (ha : a < 900) : X_R L xs d mid pc al (.ref a :: st) w Q = X_R L xs d mid (pc + 1) al (.int (nI n) :: st) w Q := by
  refine E_step hd rfl rfl ?_
  show x_len L pc al (.ref a :: st) w = _
  simp only [x_len, ht]
  rw [if_pos ha]
  rfl
theorem E_lenS {len : Nat} (hd : decode (x_code mid) pc = .ok (.arraylength, len) ∧ x_ln .arraylength len = true) : X_R L xs d mid pc al (.ref 999 :: st) w Q = X_R L xs d mid (pc + 1) al (.int (nI L) :: st) w Q := by
  refine E_step hd rfl rfl ?_
  rfl
theorem E_newa {len : Nat} {n : Int32} (hd : decode (x_code mid) pc = .ok (.newarray .int, len) ∧ x_ln (.newarray .int) len = true) (hn : ¬ (n < 0 ∨ 2000 < n.toNatClampNeg)) (h9 : w.1.length ≤ 899) : X_R L xs d mid pc al (.int n :: st) w Q = X_R L xs d mid (pc + 2) al (.ref w.1.length :: st) (x_new w (1, n.toNatClampNeg) (fun _ => 0)) Q := by
  refine E_step hd rfl rfl ?_
  show x_newa pc al (.int n :: st) w = _
  simp only [x_newa]
  rw [if_neg]
  rintro (z | z | z)
  · exact hn (Or.inl z)
  · exact hn (Or.inr z)
  · omega
theorem E_anew {len idx t : Nat} {ps : List Nat} {n : Int32} (hd : decode (x_code mid) pc = .ok (.anewarray idx, len) ∧ x_ln (.anewarray idx) len = true) (hf : x_lk x_as (x_oc mid) idx = some (t, ps)) (hn : ¬ (n < 0 ∨ 2000 < n.toNatClampNeg)) (h9 : w.1.length ≤ 899) : X_R L xs d mid pc al (.int n :: st) w Q = X_R L xs d mid (pc + 3) al (.ref w.1.length :: st) (x_new w (t + 1, n.toNatClampNeg) (fun _ => 0)) Q := by
  refine E_step hd rfl rfl ?_
  show x_anew (x_oc mid) idx pc al (.int n :: st) w = _
  simp only [x_anew, hf]
  rw [if_neg]
  rintro (z | z | z)
  · exact hn (Or.inl z)
  · exact hn (Or.inr z)
  · omega
theorem E_newo {len idx ci : Nat} {ps : List Nat} (hd : decode (x_code mid) pc = .ok (.new idx, len) ∧ x_ln (.new idx) len = true) (hf : x_lk x_ns (x_oc mid) idx = some (ci, ps)) (h9 : w.1.length ≤ 899) : X_R L xs d mid pc al st w Q = X_R L xs d mid (pc + 3) al (.ref w.1.length :: st) (x_new w (0, ci) (fun _ => 0)) Q := by
  refine E_step hd rfl rfl ?_
  show x_newo (x_oc mid) idx pc al st w = _
  simp only [x_newo, hf]
  rw [if_neg (by omega)]
theorem E_copy {len idx a b na nb : Nat} {n sp dp : Int32} (hd : decode (x_code mid) pc = .ok (.invokestatic idx, len) ∧ x_ln (.invokestatic idx) len = true) (hs : x_site (x_oc mid) (.invokestatic idx) = none) (hc : x_isCopy (x_oc mid) idx = true) (ha : x_tag w a = some (1, na)) (hb : x_tag w b = some (1, nb)) (h0 : ¬ (n < 0 ∨ sp < 0 ∨ dp < 0)) (h1 : sp.toNatClampNeg + n.toNatClampNeg ≤ na) (h2 : dp.toNatClampNeg + n.toNatClampNeg ≤ nb) (h8 : x_cat st ≤ 8) : X_R L xs d mid pc al (.int n :: .int dp :: .ref b :: .int sp :: .ref a :: st) w Q = X_R L xs d mid (pc + 3) al st (x_sI w b (va_cpy (x_i w a) (x_i w b) sp.toNatClampNeg dp.toNatClampNeg n.toNatClampNeg)) Q := by
  refine E_step hd rfl hs ?_
  show (if x_isCopy (x_oc mid) idx = true then x_copy pc al _ w else _) = _
  rw [if_pos hc]
  simp only [x_copy, ha, hb]
  rw [if_neg]
  rintro (z | z | z | z | z | z)
  · exact h0 (Or.inl z)
  · exact h0 (Or.inr (Or.inl z))
  · exact h0 (Or.inr (Or.inr z))
  · omega
  · omega
  · omega
theorem E_max {len idx : Nat} {ps : List Nat} {x y : Int32} (hd : decode (x_code mid) pc = .ok (.invokestatic idx, len) ∧ x_ln (.invokestatic idx) len = true) (hs : x_site (x_oc mid) (.invokestatic idx) = none) (hc : x_isCopy (x_oc mid) idx = false) (hm : x_lk x_mm (x_oc mid) idx = some (0, ps)) (h8 : x_cat st ≤ 8) : X_R L xs d mid pc al (.int y :: .int x :: st) w Q = X_R L xs d mid (pc + 3) al (.int (if x < y then y else x) :: st) w Q := by
  refine E_step hd rfl hs ?_
  show (if x_isCopy (x_oc mid) idx = true then _ else x_math (x_oc mid) idx pc al _ w) = _
  rw [if_neg (by rw [hc]; decide)]
  simp only [x_math, hm]
  rw [if_neg (by omega)]
theorem E_min {len idx : Nat} {ps : List Nat} {x y : Int32} (hd : decode (x_code mid) pc = .ok (.invokestatic idx, len) ∧ x_ln (.invokestatic idx) len = true) (hs : x_site (x_oc mid) (.invokestatic idx) = none) (hc : x_isCopy (x_oc mid) idx = false) (hm : x_lk x_mm (x_oc mid) idx = some (1, ps)) (h8 : x_cat st ≤ 8) : X_R L xs d mid pc al (.int y :: .int x :: st) w Q = X_R L xs d mid (pc + 3) al (.int (if y < x then y else x) :: st) w Q := by
  refine E_step hd rfl hs ?_
  show (if x_isCopy (x_oc mid) idx = true then _ else x_math (x_oc mid) idx pc al _ w) = _
  rw [if_neg (by rw [hc]; decide)]
  simp only [x_math, hm]
  rw [if_neg (by omega)]
theorem E_abs {len idx : Nat} {ps : List Nat} {x : Int32} (hd : decode (x_code mid) pc = .ok (.invokestatic idx, len) ∧ x_ln (.invokestatic idx) len = true) (hs : x_site (x_oc mid) (.invokestatic idx) = none) (hc : x_isCopy (x_oc mid) idx = false) (hm : x_lk x_mm (x_oc mid) idx = some (2, ps)) (h8 : x_cat st ≤ 8) : X_R L xs d mid pc al (.int x :: st) w Q = X_R L xs d mid (pc + 3) al (.int (if 0 ≤ x then x else 0 - x) :: st) w Q := by
  refine E_step hd rfl hs ?_
  show (if x_isCopy (x_oc mid) idx = true then _ else x_math (x_oc mid) idx pc al _ w) = _
  rw [if_neg (by rw [hc]; decide)]
  simp only [x_math, hm]
  rw [if_neg (by omega)]
theorem E_ini {len idx a : Nat} {v : Nat × List Nat} (hd : decode (x_code mid) pc = .ok (.invokespecial idx, len) ∧ x_ln (.invokespecial idx) len = true) (hs : x_site (x_oc mid) (.invokespecial idx) = none) (hm : x_lk x_oi (x_oc mid) idx = some v) (h8 : x_cat st ≤ 8) : X_R L xs d mid pc al (.ref a :: st) w Q = X_R L xs d mid (pc + 3) al st w Q := by
  refine E_step hd rfl hs ?_
  show x_ini (x_oc mid) idx pc al (.ref a :: st) w = _
  simp only [x_ini, hm]
  rw [if_neg (by omega)]
theorem E_div {len : Nat} {x y : Int32} (hd : decode (x_code mid) pc = .ok (.idiv, len) ∧ x_ln .idiv len = true) (hy : ¬ y = nI 0) : X_R L xs d mid pc al (.int y :: .int x :: st) w Q = X_R L xs d mid (pc + 1) al (.int (x / y) :: st) w Q := by
  refine E_step hd rfl rfl ?_
  show x_div _ pc al (.int y :: .int x :: st) w = _
  simp only [x_div]
  rw [if_neg (show ¬ y = 0 from hy)]
theorem E_rem {len : Nat} {x y : Int32} (hd : decode (x_code mid) pc = .ok (.irem, len) ∧ x_ln .irem len = true) (hy : ¬ y = nI 0) : X_R L xs d mid pc al (.int y :: .int x :: st) w Q = X_R L xs d mid (pc + 1) al (.int (x - x / y * y) :: st) w Q := by
  refine E_step hd rfl rfl ?_
  show x_div (fun x y => x - x / y * y) pc al (.int y :: .int x :: st) w = _
  simp only [x_div]
  rw [if_neg (show ¬ y = 0 from hy)]
theorem E_ldv {len : Nat} {x y : Int64} (hd : decode (x_code mid) pc = .ok (.ldiv, len) ∧ x_ln .ldiv len = true) (hy : ¬ y = 0) : X_R L xs d mid pc al (.long y :: .long x :: st) w Q = X_R L xs d mid (pc + 1) al (.long (x / y) :: st) w Q := by
  refine E_step hd rfl rfl ?_
  show x_ldv _ pc al (.long y :: .long x :: st) w = _
  simp only [x_ldv]
  rw [if_neg hy]
theorem E_lrem {len : Nat} {x y : Int64} (hd : decode (x_code mid) pc = .ok (.lrem, len) ∧ x_ln .lrem len = true) (hy : ¬ y = 0) : X_R L xs d mid pc al (.long y :: .long x :: st) w Q = X_R L xs d mid (pc + 1) al (.long (x - x / y * y) :: st) w Q := by
  refine E_step hd rfl rfl ?_
  show x_ldv (fun x y => x - x / y * y) pc al (.long y :: .long x :: st) w = _
  simp only [x_ldv]
  rw [if_neg hy]
theorem E_st {i : Instr} {len k : Nat} {v : Value} (hd : decode (x_code mid) pc = .ok (i, len) ∧ x_ln i len = true) (hr : x_ret mid i (v :: st) = none) (hs : x_site (x_oc mid) i = none) {al' : List Value} (hi : (∃ x, v = .int x ∧ ∀ al st, x_step L xs (decide ((x_y mid).name = "<init>")) (x_oc mid) i pc al (v :: st) w = x_stI len k pc al (v :: st) w) ∨ (∃ x, v = .ref x ∧ ∀ al st, x_step L xs (decide ((x_y mid).name = "<init>")) (x_oc mid) i pc al (v :: st) w = x_stA len k pc al (v :: st) w)) (hk : x_okS al k = true) (he : al.set k v = al') : X_R L xs d mid pc al (v :: st) w Q = X_R L xs d mid (pc + len) al' st w Q := by
  refine E_step hd hr hs ?_
  rcases hi with ⟨x, rfl, hi⟩ | ⟨x, rfl, hi⟩
  · rw [hi, ← he]
    simp only [x_stI]
    rw [if_pos hk]
  · rw [hi, ← he]
    simp only [x_stA]
    rw [if_pos hk]
theorem E_inc {len k : Nat} {c : Int} {x : Int32} (hd : decode (x_code mid) pc = .ok (.iinc k c, len) ∧ x_ln (.iinc k c) len = true) (hv : al[k]? = some (.int x)) (hk : x_okS al k = true) : X_R L xs d mid pc al st w Q = X_R L xs d mid (pc + 3) (al.set k (.int (x + Int32.ofInt c))) st w Q := by
  refine E_step hd rfl rfl ?_
  show x_inc k c pc al st w = _
  simp only [x_inc, hv]
  rw [if_pos hk]
theorem E_if_eq {off : Int} {tgt nxt len : Nat} {x : Int32} (hd : decode (x_code mid) pc = .ok (.ifCond .eq off, len) ∧ x_ln (.ifCond .eq off) len = true) (ht : (pc : Int) + off = (tgt : Int)) (hn : pc + 3 = nxt) : X_R L xs d mid pc al (.int x :: st) w Q = if x = nI 0 then X_R L xs d mid tgt al st w Q else X_R L xs d mid nxt al st w Q := by
  rw [show nI 0 = (0 : Int32) from rfl]
  subst hn
  rw [E_if hd ht]
  simp only [x_cmp, decide_eq_true_eq]
theorem E_ic_eq {off : Int} {tgt nxt len : Nat} {x y : Int32} (hd : decode (x_code mid) pc = .ok (.if_icmp .eq off, len) ∧ x_ln (.if_icmp .eq off) len = true) (ht : (pc : Int) + off = (tgt : Int)) (hn : pc + 3 = nxt) : X_R L xs d mid pc al (.int y :: .int x :: st) w Q = if x = y then X_R L xs d mid tgt al st w Q else X_R L xs d mid nxt al st w Q := by
  subst hn
  rw [E_if2 hd ht]
  simp only [x_cmp, decide_eq_true_eq]
theorem E_if_lt {off : Int} {tgt nxt len : Nat} {x : Int32} (hd : decode (x_code mid) pc = .ok (.ifCond .lt off, len) ∧ x_ln (.ifCond .lt off) len = true) (ht : (pc : Int) + off = (tgt : Int)) (hn : pc + 3 = nxt) : X_R L xs d mid pc al (.int x :: st) w Q = if x < nI 0 then X_R L xs d mid tgt al st w Q else X_R L xs d mid nxt al st w Q := by
  rw [show nI 0 = (0 : Int32) from rfl]
  subst hn
  rw [E_if hd ht]
  simp only [x_cmp, decide_eq_true_eq]
theorem E_ic_lt {off : Int} {tgt nxt len : Nat} {x y : Int32} (hd : decode (x_code mid) pc = .ok (.if_icmp .lt off, len) ∧ x_ln (.if_icmp .lt off) len = true) (ht : (pc : Int) + off = (tgt : Int)) (hn : pc + 3 = nxt) : X_R L xs d mid pc al (.int y :: .int x :: st) w Q = if x < y then X_R L xs d mid tgt al st w Q else X_R L xs d mid nxt al st w Q := by
  subst hn
  rw [E_if2 hd ht]
  simp only [x_cmp, decide_eq_true_eq]
theorem E_if_ge {off : Int} {tgt nxt len : Nat} {x : Int32} (hd : decode (x_code mid) pc = .ok (.ifCond .ge off, len) ∧ x_ln (.ifCond .ge off) len = true) (ht : (pc : Int) + off = (tgt : Int)) (hn : pc + 3 = nxt) : X_R L xs d mid pc al (.int x :: st) w Q = if nI 0 ≤ x then X_R L xs d mid tgt al st w Q else X_R L xs d mid nxt al st w Q := by
  rw [show nI 0 = (0 : Int32) from rfl]
  subst hn
  rw [E_if hd ht]
  simp only [x_cmp, decide_eq_true_eq]
theorem E_ic_ge {off : Int} {tgt nxt len : Nat} {x y : Int32} (hd : decode (x_code mid) pc = .ok (.if_icmp .ge off, len) ∧ x_ln (.if_icmp .ge off) len = true) (ht : (pc : Int) + off = (tgt : Int)) (hn : pc + 3 = nxt) : X_R L xs d mid pc al (.int y :: .int x :: st) w Q = if y ≤ x then X_R L xs d mid tgt al st w Q else X_R L xs d mid nxt al st w Q := by
  subst hn
  rw [E_if2 hd ht]
  simp only [x_cmp, decide_eq_true_eq]
theorem E_if_gt {off : Int} {tgt nxt len : Nat} {x : Int32} (hd : decode (x_code mid) pc = .ok (.ifCond .gt off, len) ∧ x_ln (.ifCond .gt off) len = true) (ht : (pc : Int) + off = (tgt : Int)) (hn : pc + 3 = nxt) : X_R L xs d mid pc al (.int x :: st) w Q = if nI 0 < x then X_R L xs d mid tgt al st w Q else X_R L xs d mid nxt al st w Q := by
  rw [show nI 0 = (0 : Int32) from rfl]
  subst hn
  rw [E_if hd ht]
  simp only [x_cmp, decide_eq_true_eq]
theorem E_ic_gt {off : Int} {tgt nxt len : Nat} {x y : Int32} (hd : decode (x_code mid) pc = .ok (.if_icmp .gt off, len) ∧ x_ln (.if_icmp .gt off) len = true) (ht : (pc : Int) + off = (tgt : Int)) (hn : pc + 3 = nxt) : X_R L xs d mid pc al (.int y :: .int x :: st) w Q = if y < x then X_R L xs d mid tgt al st w Q else X_R L xs d mid nxt al st w Q := by
  subst hn
  rw [E_if2 hd ht]
  simp only [x_cmp, decide_eq_true_eq]
theorem E_if_le {off : Int} {tgt nxt len : Nat} {x : Int32} (hd : decode (x_code mid) pc = .ok (.ifCond .le off, len) ∧ x_ln (.ifCond .le off) len = true) (ht : (pc : Int) + off = (tgt : Int)) (hn : pc + 3 = nxt) : X_R L xs d mid pc al (.int x :: st) w Q = if x ≤ nI 0 then X_R L xs d mid tgt al st w Q else X_R L xs d mid nxt al st w Q := by
  rw [show nI 0 = (0 : Int32) from rfl]
  subst hn
  rw [E_if hd ht]
  simp only [x_cmp, decide_eq_true_eq]
theorem E_ic_le {off : Int} {tgt nxt len : Nat} {x y : Int32} (hd : decode (x_code mid) pc = .ok (.if_icmp .le off, len) ∧ x_ln (.if_icmp .le off) len = true) (ht : (pc : Int) + off = (tgt : Int)) (hn : pc + 3 = nxt) : X_R L xs d mid pc al (.int y :: .int x :: st) w Q = if x ≤ y then X_R L xs d mid tgt al st w Q else X_R L xs d mid nxt al st w Q := by
  subst hn
  rw [E_if2 hd ht]
  simp only [x_cmp, decide_eq_true_eq]
theorem E_if_ne {off : Int} {tgt nxt len : Nat} {x : Int32} (hd : decode (x_code mid) pc = .ok (.ifCond .ne off, len) ∧ x_ln (.ifCond .ne off) len = true) (ht : (pc : Int) + off = (tgt : Int)) (hn : pc + 3 = nxt) : X_R L xs d mid pc al (.int x :: st) w Q = if x = nI 0 then X_R L xs d mid nxt al st w Q else X_R L xs d mid tgt al st w Q := by
  rw [show nI 0 = (0 : Int32) from rfl]
  subst hn
  rw [E_if hd ht]
  simp only [x_cmp, decide_eq_true_eq]
  by_cases h : x = 0
  · rw [if_neg (fun q => q h), if_pos h]
  · rw [if_pos h, if_neg h]
theorem E_ic_ne {off : Int} {tgt nxt len : Nat} {x y : Int32} (hd : decode (x_code mid) pc = .ok (.if_icmp .ne off, len) ∧ x_ln (.if_icmp .ne off) len = true) (ht : (pc : Int) + off = (tgt : Int)) (hn : pc + 3 = nxt) : X_R L xs d mid pc al (.int y :: .int x :: st) w Q = if x = y then X_R L xs d mid nxt al st w Q else X_R L xs d mid tgt al st w Q := by
  subst hn
  rw [E_if2 hd ht]
  simp only [x_cmp, decide_eq_true_eq]
  by_cases h : x = y
  · rw [if_neg (fun q => q h), if_pos h]
  · rw [if_pos h, if_neg h]
theorem E_int {i : Instr} {len nxt : Nat} {v u : Int32} (hd : decode (x_code mid) pc = .ok (i, len) ∧ x_ln i len = true) (hr : x_ret mid i st = none) (hs : x_site (x_oc mid) i = none) (hi : x_step L xs (decide ((x_y mid).name = "<init>")) (x_oc mid) i pc al st w = x_psh len (.int u) pc al st w) (hu : u = v) (hn : pc + len = nxt) : X_R L xs d mid pc al st w Q = X_R L xs d mid nxt al (.int v :: st) w Q := by
  subst hu
  subst hn
  exact E_step hd hr hs hi
theorem E_ldc {i : Instr} {len idx nxt : Nat} {v : Int32} {ps : List Nat} (hd : decode (x_code mid) pc = .ok (i, len) ∧ x_ln i len = true) (hr : x_ret mid i st = none) (hs : x_site (x_oc mid) i = none) (hi : x_step L xs (decide ((x_y mid).name = "<init>")) (x_oc mid) i pc al st w = x_ldc (x_oc mid) idx len pc al st w) (hk : x_lk x_ki (x_oc mid) idx = some (v, ps)) (hn : pc + len = nxt) : X_R L xs d mid pc al st w Q = X_R L xs d mid nxt al (.int v :: st) w Q := by
  subst hn
  refine E_step hd hr hs ?_
  rw [hi]
  simp only [x_ldc, hk]
theorem E_ldcS {idx i0 : Nat} {ps : List Nat} (hd : decode (x_code mid) pc = .ok (.ldc idx, 2) ∧ x_ln (.ldc idx) 2 = true) (hk : x_lk x_ki (x_oc mid) idx = none) (hk2 : x_lk x_ks (x_oc mid) idx = some (i0, ps)) : X_R L xs d mid pc al st w Q = X_R L xs d mid (pc + 2) al (.ref (1000 + 2 * i0) :: st) w Q := by
  refine E_step hd rfl rfl ?_
  show x_ldc (x_oc mid) idx 2 pc al st w = _
  simp only [x_ldc, hk, hk2]
  rfl
theorem E_ldc2 {idx len : Nat} {v : Int64} {ps : List Nat} (hd : decode (x_code mid) pc = .ok (.ldc2_w idx, len) ∧ x_ln (.ldc2_w idx) len = true) (hk : x_lk x_kl (x_oc mid) idx = some (v, ps)) : X_R L xs d mid pc al st w Q = X_R L xs d mid (pc + 3) al (.long v :: st) w Q := by
  refine E_step hd rfl rfl ?_
  show x_ldc2 (x_oc mid) idx pc al st w = _
  simp only [x_ldc2, hk]
theorem E_stL {i : Instr} {len k : Nat} {x : Int64} (hd : decode (x_code mid) pc = .ok (i, len) ∧ x_ln i len = true) (hr : x_ret mid i (.long x :: st) = none) (hs : x_site (x_oc mid) i = none) {al' : List Value} (hi : x_step L xs (decide ((x_y mid).name = "<init>")) (x_oc mid) i pc al (.long x :: st) w = x_stL len k pc al (.long x :: st) w) (hk : x_okS al k = true) (hk2 : k + 1 < al.length) (he : (al.set k (.long x)).set (k + 1) x_junk = al') : X_R L xs d mid pc al (.long x :: st) w Q = X_R L xs d mid (pc + len) al' st w Q := by
  refine E_step hd hr hs ?_
  rw [hi, ← he]
  simp only [x_stL]
  rw [if_pos (by simp [hk, hk2])]
theorem E_tsw {d0 lo hi : Int} {offs : Array Int} {len tgt : Nat} {x : Int32} (hd : decode (x_code mid) pc = .ok (.tableswitch d0 lo hi offs, len) ∧ x_ln (.tableswitch d0 lo hi offs) len = true) (h : (if x.toInt < lo ∨ hi < x.toInt then some d0 else offs[(x.toInt - lo).toNat]?) = some ((tgt : Int) - (pc : Int))) : X_R L xs d mid pc al (.int x :: st) w Q = X_R L xs d mid tgt al st w Q := by
  refine E_step hd rfl rfl ?_
  show x_tsw d0 lo hi offs pc al (.int x :: st) w = _
  simp only [x_tsw]
  have hto : ∀ off : Int, off = (tgt : Int) - (pc : Int) → x_to pc off al st w = some (tgt, al, st, w) := by
    intro off ho
    unfold x_to
    rw [if_pos (by omega), show (pc : Int) + off = (tgt : Int) by omega]
    rfl
  split at h
  · rename_i hc
    rw [if_pos hc]
    exact hto _ (Option.some.inj h)
  · rename_i hc
    rw [if_neg hc, h]
    exact hto _ rfl
theorem E_lsw {d0 : Int} {ps : Array (Int × Int)} {len tgt : Nat} {x : Int32} (hd : decode (x_code mid) pc = .ok (.lookupswitch d0 ps, len) ∧ x_ln (.lookupswitch d0 ps) len = true) (hp : (ps.toList.zip (ps.toList.drop 1)).all (fun (a, next) => a.1 < next.1) = true) (h : (pc : Int) + Op.lookupswitch.offset ps.toList d0 x.toInt = (tgt : Int)) : X_R L xs d mid pc al (.int x :: st) w Q = X_R L xs d mid tgt al st w Q := by
  refine E_step hd rfl rfl ?_
  show x_lsw d0 ps pc al (.int x :: st) w = _
  simp only [x_lsw]
  rw [if_pos hp]
  unfold x_to
  rw [if_pos (by omega), h]
  rfl
theorem E_incA {len k nxt : Nat} {c : Int} {x e : Int32} {al' : List Value} (hd : decode (x_code mid) pc = .ok (.iinc k c, len) ∧ x_ln (.iinc k c) len = true) (hv : al[k]? = some (.int x)) (hk : x_okS al k = true) (he : Int32.ofInt c = e) (ha : al.set k (.int (x + e)) = al') (hn : pc + 3 = nxt) : X_R L xs d mid pc al st w Q = X_R L xs d mid nxt al' st w Q := by
  subst he
  subst ha
  subst hn
  exact E_inc hd hv hk
theorem x_retI {mid : Nat} {x : Int32} {ty : FieldType} (h : x_rt mid = some ty) (hn : narrow ty (.int x) = .int x) : x_ret mid .ireturn [.int x] = some (some (.int x)) := by simp only [x_ret, h, if_pos hn]
theorem x_okS0 {al : List Value} (h : 0 < al.length) : x_okS al 0 = true := by
  simp only [x_okS, Bool.and_eq_true, decide_eq_true_eq]
  exact ⟨h, rfl⟩
theorem x_okSn {al : List Value} {k : Nat} {v : Value} (h : k + 1 < al.length) (h1 : al[k]? = some v) (h2 : x_isL v = false) : x_okS al (k + 1) = true := by
  simp only [x_okS, Bool.and_eq_true, decide_eq_true_eq, Bool.or_eq_true, Bool.not_eq_true', Nat.add_sub_cancel]
  refine ⟨h, Or.inr ?_⟩
  rw [List.getD_eq_getElem?_getD, h1]
  exact h2
theorem x_nb0 : narrow .boolean (.int (nI 0)) = .int (nI 0) := by decide
theorem x_nb1 : narrow .boolean (.int (nI 1)) = .int (nI 1) := by decide
theorem x_nbb (b : Bool) : narrow .boolean (.int (if b = true then nI 1 else nI 0)) = .int (if b = true then nI 1 else nI 0) := by cases b <;> decide
theorem x_nbp (p : Prop) [Decidable p] : narrow .boolean (.int (if p then nI 1 else nI 0)) = .int (if p then nI 1 else nI 0) := by by_cases h : p <;> simp only [h, if_true, if_false] <;> decide
theorem x_cat_nil : x_cat [] = 0 := Eq.trans rfl rfl
theorem x_cat_int (x : Int32) (st : List Value) : x_cat (.int x :: st) = 1 + x_cat st := by simp [x_cat, Value.category]
theorem x_cat_ref (x : Nat) (st : List Value) : x_cat (.ref x :: st) = 1 + x_cat st := by simp [x_cat, Value.category]
theorem x_cat_long (x : Int64) (st : List Value) : x_cat (.long x :: st) = 2 + x_cat st := by simp [x_cat, Value.category]
theorem x_isL_int (x : Int32) : x_isL (.int x) = false := Eq.trans rfl rfl
theorem x_isL_ref (x : Nat) : x_isL (.ref x) = false := Eq.trans rfl rfl
theorem x_isL_junk : x_isL x_junk = false := Eq.trans rfl rfl
theorem x_isR_ref (x : Nat) : x_isR (.ref x) = true := Eq.trans rfl rfl
theorem x_i_si (w : x_W) (a k : Nat) (v : Int32) : x_i (x_si w a k v) a = upd (x_i w a) k v := by simp [x_si, x_i_sI]
theorem x_i_sin (w : x_W) (a k : Nat) (v : Int32) {b : Nat} (h : b ≠ a) : x_i (x_si w a k v) b = x_i w b := by simp [x_si, x_i_sIn _ _ _ h]
theorem x_r_si (w : x_W) (a k : Nat) (v : Int32) (b : Nat) : x_r (x_si w a k v) b = x_r w b := Eq.trans rfl rfl
theorem x_i_sr (w : x_W) (a k : Nat) (v : Value) (b : Nat) : x_i (x_sr w a k v) b = x_i w b := Eq.trans rfl rfl
end XE
