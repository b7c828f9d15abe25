/-! ===== THE MACHINE DOES WHAT THE INTERPRETER DOES, 1: what a world is in the heap; instructions on locals and the stack ===== -/
def x_ad (z0 : Nat) (ro : Nat → Nat) (a : Nat) : Nat := if a < 900 then z0 + a else ro a
-- a reference or null of which nothing is known (the library's formatter)
def x_fv (ro : Nat → Nat) : Value := match ro 998 with | 0 => .null | k + 1 => .ref k
def x_tr (z0 : Nat) (ro : Nat → Nat) (v : Value) : Value := match v with | .ref a => .ref (x_ad z0 ro a) | .retAddr _ => x_fv ro | v => v
def x_opt (z0 : Nat) (ro : Nat → Nat) (v : Value) : Option Nat := match v with | .ref a => some (x_ad z0 ro a) | _ => none
def x_cell (z0 : Nat) (ro : Nat → Nat) (cA : Nat → ClassId) (w : x_W) (a : Nat) (t : Nat × Nat) : va_E := match t with
  | (0, ci) => .inr (ci, (List.range (x_nf ci)).map (fun k => x_tr z0 ro (x_rd w a ci k)))
  | (1, n) => .inl (cA 0, n, .inl (x_i w a))
  | (t + 2, n) => .inl (cA (t + 1), n, .inr (.inr (.inr (.inr (fun j => x_opt z0 ro (x_r w a j))))))
def x_ws (z0 : Nat) (ro : Nat → Nat) (cA : Nat → ClassId) (w : x_W) : va_W := w.1.mapIdx (fun a t => (z0 + a, x_cell z0 ro cA w a t))
def x_tys (cA : Nat → ClassId) : List (ClassId × FieldType) := [(cA 0, .int), (cA 1, .object (x_own 2)), (cA 2, .object (x_own 4)), (cA 3, .object (x_own 5))]
def x_A (z0 : Nat) : Nat → Prop := fun q => z0 ≤ q
def x_bad (w : Jvm.Cond) : Bool := match w with | .methodLinkNest .. => true | .arrayOver (.object _) => true | .castable .. => true | _ => false
def x_RO (z0 : Nat) (ro : Nat → Nat) (L : Nat) (xs : Nat → Int32) (U : State) (H : Heap) : Prop :=
  (va_X (ro 999) L xs U H ∧ ro 999 < z0 ∧ ro 999 < H.size) ∧
  va_Z "java/lang/String" "COMPACT_STRINGS" "Z" (.int 1) (x_A z0) U H ∧
  va_Z "jdk/internal/util/Preconditions" "SIOOBE_FORMATTER" "Ljava/util/function/BiFunction;" (x_fv ro) (x_A z0) U H ∧
  (va_Z "OneNet$Sleeper" "IS" "[I" (.ref (ro 996)) (x_A z0) U H ∧ va_T .int (ro 996) 6 (fun j => .int ([1, 3, 5, 11, 21, 33].getD j 0)) (x_A z0) U H) ∧
  (va_Z "OneNet$Net" "STEPS" "[I" (.ref (ro 997)) (x_A z0) U H ∧ va_T .int (ro 997) 4 (fun j => .int ([-5, -1, 1, 5].getD j 0)) (x_A z0) U H) ∧
  vk_S 14 ((List.range 14).map (fun i => (x_sbyt i).length)) ((List.range 14).map x_sbyt) (fun i => ro (1000 + 2 * i)) (fun i => ro (1001 + 2 * i)) (x_A z0) U H
def x_VM (ro : Nat → Nat) (U : State) : Prop := (∀ w ∈ lw_tbl, x_bad w = true → va_Nw w U) ∧ ∀ q ∈ x_ks, vk_R (x_own q.1.1) q.1.2 (x_stx q.2.1) (ro (1000 + 2 * q.2.1)) U
def x_St (z0 : Nat) (ro : Nat → Nat) (L : Nat) (xs : Nat → Int32) (D : va_G) (cA : Nat → ClassId) (U : State) (H : Heap) : Prop := x_RO z0 ro L xs U H ∧ x_VM ro U ∧ va_K D x_cl (x_tys cA) U
def x_MC (p : Program) (R : Room) (s : State) (m : MethodId) (args : Array Value) (meth : Method) (c : Code) (mid d nF z0 : Nat) (ro : Nat → Nat) (L : Nat) (xs : Nat → Int32) (D : va_G) (cA : Nat → ClassId) : Prop :=
  p.tables.exec = Jvm.exec ∧ c.code = x_code mid ∧ c.maxLocals = x_ml mid ∧ s.vm.findClass (x_own (x_oc mid)) = some m.cls ∧ (∀ w ∈ x_gw, w.before args s = true) ∧ x_St z0 ro L xs D cA s s.heap ∧ z0 ≤ s.heap.size ∧ ((x_y mid).name = "<init>" → meth.name = "<init>") ∧
  d + 1 ≤ R.frames ∧ 64 * (d + 1) ≤ R.locals ∧ z0 + nF - s.heap.size ≤ R.cells ∧ 2000 * (z0 + nF - s.heap.size) ≤ R.slots
-- the locals
def x_L (z0 : Nat) (ro : Nat → Nat) (al : List Value) (ls : Array Slot) (nL : Nat) : Prop := al.length = nL ∧ ls.size = nL ∧ lv_wf ls ∧ ∀ (i : Nat) (v : Value), al[i]? = some v → x_isJ v = false → ls[i]? = some (.val (x_tr z0 ro v))
def x_OK (s : State) (z0 : Nat) (ro : Nat → Nat) (D : va_G) (cA : Nat → ClassId) (nL : Nat) (al : List Value) (w : x_W) (H : Heap) (locs : List Loc) (ls : Array Slot) (cells slots : Nat) : Prop :=
  H.size = z0 + w.1.length ∧ w.1.length ≤ 900 ∧ va_P D x_cl (x_ws z0 ro cA w) H ∧ x_L z0 ro al ls nL ∧ va_S (x_A z0) s.heap H locs ∧ H.size = s.heap.size + cells ∧ slots ≤ 2000 * cells
def x_J (p : Program) (l : Launch) (e : Env) (R : Room) (s : State) (m : MethodId) (args : Array Value) (below : List Frame) (meth : Method) (c : Code) (Q : State → Prop) (z0 : Nat) (ro : Nat → Nat) (D : va_G) (cA : Nat → ClassId) (nL pc : Nat) (al st : List Value) (w : x_W) : Prop :=
  ∀ (H : Heap) (locs : List Loc) (ls : Array Slot) (cells slots : Nat), x_OK s z0 ro D cA nL al w H locs ls cells slots → W p l e R s m args below meth c H locs cells slots Q (F0 m pc ls (st.map (x_tr z0 ro)))
theorem x_ws_at (z0 : Nat) (ro : Nat → Nat) (cA : Nat → ClassId) (w : x_W) (a : Nat) : (x_ws z0 ro cA w)[a]? = (x_tag w a).map (fun t => (z0 + a, x_cell z0 ro cA w a t)) := by
  unfold x_ws x_tag
  rw [List.getElem?_mapIdx]
theorem x_wsD (z0 : Nat) (ro : Nat → Nat) (cA : Nat → ClassId) (w : x_W) : va_D (x_A z0) (x_ws z0 ro cA w) := by
  refine ⟨fun i j p q hp hq h => ?_, fun k q hq => ?_⟩
  · rw [x_ws_at] at hp hq
    cases h1 : x_tag w i with
    | none => rw [h1] at hp; cases hp
    | some t =>
      cases h2 : x_tag w j with
      | none => rw [h2] at hq; cases hq
      | some u =>
        rw [h1] at hp; rw [h2] at hq
        cases hp; cases hq
        exact Nat.add_left_cancel h
  · rw [x_ws_at] at hq
    cases h1 : x_tag w k with
    | none => rw [h1] at hq; cases hq
    | some t => rw [h1] at hq; cases hq; exact Nat.le_add_right _ _
theorem x_tr_cat (z0 : Nat) (ro : Nat → Nat) (v : Value) : (x_tr z0 ro v).category = v.category := by
  cases v <;> first | rfl | (show (x_fv ro).category = 1; unfold x_fv; split <;> rfl)
theorem x_cat_tr (z0 : Nat) (ro : Nat → Nat) (st : List Value) : ((st.map (x_tr z0 ro)).map fun v => v.category).sum = x_cat st := by
  unfold x_cat
  congr 1
  rw [List.map_map]
  apply List.map_congr_left
  intro v _
  exact x_tr_cat z0 ro v
-- the locals as the kit's rows want them
def x_asc (z0 : Nat) (ro : Nat → Nat) (al : List Value) : List (Nat × Value) := al.zipIdx.filterMap (fun q => if x_isJ q.1 = true then none else some (q.2, x_tr z0 ro q.1))
theorem x_asc_mem {z0 : Nat} {ro : Nat → Nat} {al : List Value} {i : Nat} {u : Value} : (i, u) ∈ x_asc z0 ro al ↔ ∃ v, al[i]? = some v ∧ x_isJ v = false ∧ u = x_tr z0 ro v := by
  unfold x_asc
  rw [List.mem_filterMap]
  constructor
  · rintro ⟨⟨v, j⟩, h1, h2⟩
    by_cases hj : x_isJ v = true
    · rw [if_pos hj] at h2; cases h2
    · rw [if_neg hj] at h2
      cases h2
      exact ⟨v, List.mem_zipIdx_iff_getElem?.mp h1, by simpa using hj, rfl⟩
  · rintro ⟨v, h1, h2, rfl⟩
    exact ⟨(v, i), List.mem_zipIdx_iff_getElem?.mpr h1, by rw [if_neg (by simp [h2])]⟩
theorem x_L.has {z0 : Nat} {ro : Nat → Nat} {al : List Value} {ls : Array Slot} {nL : Nat} (h : x_L z0 ro al ls nL) : lv_has ls nL (x_asc z0 ro al) := by
  refine ⟨h.2.1, h.2.2.1, fun q hq => ?_⟩
  obtain ⟨i, u⟩ := q
  obtain ⟨v, h1, h2, rfl⟩ := x_asc_mem.mp hq
  exact h.2.2.2 i v h1 h2
theorem x_L.set {z0 : Nat} {ro : Nat → Nat} {al : List Value} {ls' : Array Slot} {nL i : Nat} {v : Value} (hlen : al.length = nL) (hS : x_okS al i = true) (h : lv_has ls' nL ((i, x_tr z0 ro v) :: (x_asc z0 ro al).filter (fun q => !(q.1 == i) && !(q.1 + 1 == i && q.2.category == 2)))) : x_L z0 ro (al.set i v) ls' nL := by
  refine ⟨by rw [List.length_set]; exact hlen, h.1, h.2.1, fun j u hj hu => ?_⟩
  by_cases hji : j = i
  · subst hji
    have hlt : j < al.length := by
      have := (List.getElem?_eq_some_iff.mp hj).1
      simpa using this
    rw [List.getElem?_set_self hlt] at hj
    cases hj
    exact h.2.2 (j, x_tr z0 ro v) List.mem_cons_self
  · rw [List.getElem?_set_ne (Ne.symm hji)] at hj
    refine h.2.2 (j, x_tr z0 ro u) (List.mem_cons_of_mem _ (List.mem_filter.mpr ⟨x_asc_mem.mpr ⟨u, hj, hu, rfl⟩, ?_⟩))
    have h1 : (j == i) = false := by simpa using hji
    rw [h1]
    simp only [Bool.not_false, Bool.true_and, Bool.not_eq_true', Bool.and_eq_false_iff]
    by_cases h2 : j + 1 = i
    · right
      subst h2
      simp only [x_okS, Bool.and_eq_true, Bool.or_eq_true, decide_eq_true_eq] at hS
      rcases hS.2 with h3 | h3
      · simp at h3
      · simp only [Nat.add_sub_cancel, Bool.not_eq_true', x_isL] at h3
        rw [List.getD_eq_getElem?_getD, hj] at h3
        rw [x_tr_cat]
        exact h3
    · left
      simpa using h2
theorem x_L.set2 {z0 : Nat} {ro : Nat → Nat} {al : List Value} {ls' : Array Slot} {nL i : Nat} {v : Value} (hlen : al.length = nL) (hS : x_okS al i = true) (h : lv_has ls' nL ((i, x_tr z0 ro v) :: (x_asc z0 ro al).filter (fun q => !(q.1 == i) && (!(q.1 == i + 1) && !(q.1 + 1 == i && q.2.category == 2))))) : x_L z0 ro ((al.set i v).set (i + 1) x_junk) ls' nL := by
  refine ⟨by rw [List.length_set, List.length_set]; exact hlen, h.1, h.2.1, fun j u hj hu => ?_⟩
  by_cases hj1 : j = i + 1
  · subst hj1
    have hlt : i + 1 < (al.set i v).length := by
      have := (List.getElem?_eq_some_iff.mp hj).1
      simpa using this
    rw [List.getElem?_set_self hlt] at hj
    cases hj
    cases hu
  rw [List.getElem?_set_ne (Ne.symm hj1)] at hj
  by_cases hji : j = i
  · subst hji
    have hlt : j < al.length := by
      have := (List.getElem?_eq_some_iff.mp hj).1
      simpa using this
    rw [List.getElem?_set_self hlt] at hj
    cases hj
    exact h.2.2 (j, x_tr z0 ro v) List.mem_cons_self
  · rw [List.getElem?_set_ne (Ne.symm hji)] at hj
    refine h.2.2 (j, x_tr z0 ro u) (List.mem_cons_of_mem _ (List.mem_filter.mpr ⟨x_asc_mem.mpr ⟨u, hj, hu, rfl⟩, ?_⟩))
    have h1 : (j == i) = false := by simpa using hji
    have h0 : (j == i + 1) = false := by simpa using hj1
    rw [h1, h0]
    simp only [Bool.not_false, Bool.true_and, Bool.not_eq_true', Bool.and_eq_false_iff]
    by_cases h2 : j + 1 = i
    · right
      subst h2
      simp only [x_okS, Bool.and_eq_true, Bool.or_eq_true, decide_eq_true_eq] at hS
      rcases hS.2 with h3 | h3
      · simp at h3
      · simp only [Nat.add_sub_cancel, Bool.not_eq_true', x_isL] at h3
        rw [List.getD_eq_getElem?_getD, hj] at h3
        rw [x_tr_cat]
        exact h3
    · left
      simpa using h2
theorem x_okS_lt {al : List Value} {i : Nat} (h : x_okS al i = true) : i < al.length := by
  simp only [x_okS, Bool.and_eq_true, decide_eq_true_eq] at h
  exact h.1
section XB
variable {p : Program} {l : Launch} {e : Env} {R : Room} {s : State} {m : MethodId} {args : Array Value} {below : List Frame} {meth : Method} {c : Code} {Q : State → Prop}
variable {z0 nL pc : Nat} {ro : Nat → Nat} {D : va_G} {cA : Nat → ClassId} {al st al' st' : List Value} {w w' : x_W} {pc' : Nat}
theorem xb_psh {n : Nat} {v : Value} (row : ∀ (H : Heap) (locs : List Loc) (ls : Array Slot) (cells slots : Nat) (rest : List Value), W p l e R s m args below meth c H locs cells slots Q (F0 m (pc + n) ls (x_tr z0 ro v :: rest)) → W p l e R s m args below meth c H locs cells slots Q (F0 m pc ls rest)) (h : x_psh n v pc al st w = some (pc', al', st', w')) (k : x_J p l e R s m args below meth c Q z0 ro D cA nL pc' al' st' w') : x_J p l e R s m args below meth c Q z0 ro D cA nL pc al st w := by
  cases h
  intro H locs ls cells slots ok
  exact row H locs ls cells slots _ (k H locs ls cells slots ok)
theorem xb_bin {f : Int32 → Int32 → Int32} (row : ∀ (H : Heap) (locs : List Loc) (ls : Array Slot) (cells slots : Nat) (x y : Int32) (rest : List Value), W p l e R s m args below meth c H locs cells slots Q (F0 m (pc + 1) ls (.int (f x y) :: rest)) → W p l e R s m args below meth c H locs cells slots Q (F0 m pc ls (.int y :: .int x :: rest))) (h : x_bin f pc al st w = some (pc', al', st', w')) (k : x_J p l e R s m args below meth c Q z0 ro D cA nL pc' al' st' w') : x_J p l e R s m args below meth c Q z0 ro D cA nL pc al st w := by
  unfold x_bin at h
  split at h
  · cases h
    intro H locs ls cells slots ok
    exact row H locs ls cells slots _ _ _ (k H locs ls cells slots ok)
  · cases h
theorem xb_div {f : Int32 → Int32 → Int32} (row : ∀ (H : Heap) (locs : List Loc) (ls : Array Slot) (cells slots : Nat) (x y : Int32) (rest : List Value), ¬ y = 0 → W p l e R s m args below meth c H locs cells slots Q (F0 m (pc + 1) ls (.int (f x y) :: rest)) → W p l e R s m args below meth c H locs cells slots Q (F0 m pc ls (.int y :: .int x :: rest))) (h : x_div f pc al st w = some (pc', al', st', w')) (k : x_J p l e R s m args below meth c Q z0 ro D cA nL pc' al' st' w') : x_J p l e R s m args below meth c Q z0 ro D cA nL pc al st w := by
  unfold x_div at h
  split at h
  · split at h
    · cases h
    · rename_i hy
      cases h
      intro H locs ls cells slots ok
      exact row H locs ls cells slots _ _ _ hy (k H locs ls cells slots ok)
  · cases h
theorem xb_un {f : Int32 → Int32} (row : ∀ (H : Heap) (locs : List Loc) (ls : Array Slot) (cells slots : Nat) (x : Int32) (rest : List Value), W p l e R s m args below meth c H locs cells slots Q (F0 m (pc + 1) ls (.int (f x) :: rest)) → W p l e R s m args below meth c H locs cells slots Q (F0 m pc ls (.int x :: rest))) (h : x_un f pc al st w = some (pc', al', st', w')) (k : x_J p l e R s m args below meth c Q z0 ro D cA nL pc' al' st' w') : x_J p l e R s m args below meth c Q z0 ro D cA nL pc al st w := by
  unfold x_un at h
  split at h
  · cases h
    intro H locs ls cells slots ok
    exact row H locs ls cells slots _ _ (k H locs ls cells slots ok)
  · cases h
theorem xb_lbin {f : Int64 → Int64 → Int64} (row : ∀ (H : Heap) (locs : List Loc) (ls : Array Slot) (cells slots : Nat) (x y : Int64) (rest : List Value), W p l e R s m args below meth c H locs cells slots Q (F0 m (pc + 1) ls (.long (f x y) :: rest)) → W p l e R s m args below meth c H locs cells slots Q (F0 m pc ls (.long y :: .long x :: rest))) (h : x_lbin f pc al st w = some (pc', al', st', w')) (k : x_J p l e R s m args below meth c Q z0 ro D cA nL pc' al' st' w') : x_J p l e R s m args below meth c Q z0 ro D cA nL pc al st w := by
  unfold x_lbin at h
  split at h
  · cases h
    intro H locs ls cells slots ok
    exact row H locs ls cells slots _ _ _ (k H locs ls cells slots ok)
  · cases h
theorem xb_ldv {f : Int64 → Int64 → Int64} (row : ∀ (H : Heap) (locs : List Loc) (ls : Array Slot) (cells slots : Nat) (x y : Int64) (rest : List Value), ¬ y = 0 → W p l e R s m args below meth c H locs cells slots Q (F0 m (pc + 1) ls (.long (f x y) :: rest)) → W p l e R s m args below meth c H locs cells slots Q (F0 m pc ls (.long y :: .long x :: rest))) (h : x_ldv f pc al st w = some (pc', al', st', w')) (k : x_J p l e R s m args below meth c Q z0 ro D cA nL pc' al' st' w') : x_J p l e R s m args below meth c Q z0 ro D cA nL pc al st w := by
  unfold x_ldv at h
  split at h
  · split at h
    · cases h
    · rename_i hy
      cases h
      intro H locs ls cells slots ok
      exact row H locs ls cells slots _ _ _ hy (k H locs ls cells slots ok)
  · cases h
theorem xb_lcm (hx : p.tables.exec = Jvm.exec) {cc : ByteArray} (hb : c.code = cc) (hd : decode cc pc = .ok (.lcmp, 1)) (h : x_lcm pc al st w = some (pc', al', st', w')) (k : x_J p l e R s m args below meth c Q z0 ro D cA nL pc' al' st' w') : x_J p l e R s m args below meth c Q z0 ro D cA nL pc al st w := by
  unfold x_lcm at h
  split at h
  · cases h
    intro H locs ls cells slots ok
    exact W.lcmp hx hb hd (k H locs ls cells slots ok)
  · cases h
theorem xb_i2l (hx : p.tables.exec = Jvm.exec) {cc : ByteArray} (hb : c.code = cc) (hd : decode cc pc = .ok (.i2l, 1)) (h : x_i2lF pc al st w = some (pc', al', st', w')) (k : x_J p l e R s m args below meth c Q z0 ro D cA nL pc' al' st' w') : x_J p l e R s m args below meth c Q z0 ro D cA nL pc al st w := by
  unfold x_i2lF at h
  split at h
  · cases h
    intro H locs ls cells slots ok
    exact lv_i2l hx hb hd rfl (k H locs ls cells slots ok)
  · cases h
theorem xb_ldI {n i : Nat} (row : ∀ (H : Heap) (locs : List Loc) (ls : Array Slot) (cells slots : Nat) (x : Int32) (rest : List Value), ls[i]? = some (.val (.int x)) → W p l e R s m args below meth c H locs cells slots Q (F0 m (pc + n) ls (.int x :: rest)) → W p l e R s m args below meth c H locs cells slots Q (F0 m pc ls rest)) (h : x_ldI n i pc al st w = some (pc', al', st', w')) (k : x_J p l e R s m args below meth c Q z0 ro D cA nL pc' al' st' w') : x_J p l e R s m args below meth c Q z0 ro D cA nL pc al st w := by
  unfold x_ldI at h
  split at h
  · rename_i x hx
    cases h
    intro H locs ls cells slots ok
    exact row H locs ls cells slots x _ (ok.2.2.2.1.2.2.2 i _ hx rfl) (k H locs ls cells slots ok)
  · cases h
theorem xb_ldL {n i : Nat} (row : ∀ (H : Heap) (locs : List Loc) (ls : Array Slot) (cells slots : Nat) (x : Int64) (rest : List Value), ls[i]? = some (.val (.long x)) → W p l e R s m args below meth c H locs cells slots Q (F0 m (pc + n) ls (.long x :: rest)) → W p l e R s m args below meth c H locs cells slots Q (F0 m pc ls rest)) (h : x_ldL n i pc al st w = some (pc', al', st', w')) (k : x_J p l e R s m args below meth c Q z0 ro D cA nL pc' al' st' w') : x_J p l e R s m args below meth c Q z0 ro D cA nL pc al st w := by
  unfold x_ldL at h
  split at h
  · rename_i x hx
    cases h
    intro H locs ls cells slots ok
    exact row H locs ls cells slots x _ (ok.2.2.2.1.2.2.2 i _ hx rfl) (k H locs ls cells slots ok)
  · cases h
theorem xb_ldA {n i : Nat} (row : ∀ (H : Heap) (locs : List Loc) (ls : Array Slot) (cells slots : Nat) (x : Nat) (rest : List Value), ls[i]? = some (.val (.ref x)) → W p l e R s m args below meth c H locs cells slots Q (F0 m (pc + n) ls (.ref x :: rest)) → W p l e R s m args below meth c H locs cells slots Q (F0 m pc ls rest)) (h : x_ldA n i pc al st w = some (pc', al', st', w')) (k : x_J p l e R s m args below meth c Q z0 ro D cA nL pc' al' st' w') : x_J p l e R s m args below meth c Q z0 ro D cA nL pc al st w := by
  unfold x_ldA at h
  split at h
  · rename_i x hx
    cases h
    intro H locs ls cells slots ok
    exact row H locs ls cells slots _ _ (ok.2.2.2.1.2.2.2 i _ hx rfl) (k H locs ls cells slots ok)
  · cases h
theorem x_OK.loc {H : Heap} {locs : List Loc} {ls ls' : Array Slot} {cells slots : Nat} (ok : x_OK s z0 ro D cA nL al w H locs ls cells slots) (h : x_L z0 ro al' ls' nL) : x_OK s z0 ro D cA nL al' w H locs ls' cells slots := ⟨ok.1, ok.2.1, ok.2.2.1, h, ok.2.2.2.2⟩
theorem xb_stI {n i : Nat} (row : ∀ (H : Heap) (locs : List Loc) (ls : Array Slot) (cells slots : Nat) (x : Int32) (rest : List Value) (lv : List (Nat × Value)), lv_has ls nL lv → i < nL → (∀ ls' : Array Slot, lv_has ls' nL ((i, Value.int x) :: lv.filter (fun q => !(q.1 == i) && !(q.1 + 1 == i && q.2.category == 2))) → W p l e R s m args below meth c H locs cells slots Q (F0 m (pc + n) ls' rest)) → W p l e R s m args below meth c H locs cells slots Q (F0 m pc ls (.int x :: rest))) (h : x_stI n i pc al st w = some (pc', al', st', w')) (k : x_J p l e R s m args below meth c Q z0 ro D cA nL pc' al' st' w') : x_J p l e R s m args below meth c Q z0 ro D cA nL pc al st w := by
  unfold x_stI at h
  split at h
  · split at h
    · rename_i x st1 hS
      cases h
      intro H locs ls cells slots ok
      have hL := ok.2.2.2.1
      exact row H locs ls cells slots x _ _ hL.has (by rw [← hL.1]; exact x_okS_lt hS) (fun ls' h' => k H locs ls' cells slots (ok.loc (x_L.set (v := .int x) hL.1 hS h')))
    · cases h
  · cases h
theorem xb_stA {n i : Nat} (row : ∀ (H : Heap) (locs : List Loc) (ls : Array Slot) (cells slots : Nat) (x : Nat) (rest : List Value) (lv : List (Nat × Value)), lv_has ls nL lv → i < nL → (∀ ls' : Array Slot, lv_has ls' nL ((i, Value.ref x) :: lv.filter (fun q => !(q.1 == i) && !(q.1 + 1 == i && q.2.category == 2))) → W p l e R s m args below meth c H locs cells slots Q (F0 m (pc + n) ls' rest)) → W p l e R s m args below meth c H locs cells slots Q (F0 m pc ls (.ref x :: rest))) (h : x_stA n i pc al st w = some (pc', al', st', w')) (k : x_J p l e R s m args below meth c Q z0 ro D cA nL pc' al' st' w') : x_J p l e R s m args below meth c Q z0 ro D cA nL pc al st w := by
  unfold x_stA at h
  split at h
  · split at h
    · rename_i x st1 hS
      cases h
      intro H locs ls cells slots ok
      have hL := ok.2.2.2.1
      exact row H locs ls cells slots _ _ _ hL.has (by rw [← hL.1]; exact x_okS_lt hS) (fun ls' h' => k H locs ls' cells slots (ok.loc (x_L.set (v := .ref x) hL.1 hS h')))
    · cases h
  · cases h
theorem xb_stL {n i : Nat} (row : ∀ (H : Heap) (locs : List Loc) (ls : Array Slot) (cells slots : Nat) (x : Int64) (rest : List Value) (lv : List (Nat × Value)), lv_has ls nL lv → i + 1 < nL → (∀ ls' : Array Slot, lv_has ls' nL ((i, Value.long x) :: lv.filter (fun q => !(q.1 == i) && (!(q.1 == i + 1) && !(q.1 + 1 == i && q.2.category == 2)))) → W p l e R s m args below meth c H locs cells slots Q (F0 m (pc + n) ls' rest)) → W p l e R s m args below meth c H locs cells slots Q (F0 m pc ls (.long x :: rest))) (h : x_stL n i pc al st w = some (pc', al', st', w')) (k : x_J p l e R s m args below meth c Q z0 ro D cA nL pc' al' st' w') : x_J p l e R s m args below meth c Q z0 ro D cA nL pc al st w := by
  unfold x_stL at h
  split at h
  · split at h
    · rename_i x st1 hS
      simp only [Bool.and_eq_true, decide_eq_true_eq] at hS
      cases h
      intro H locs ls cells slots ok
      have hL := ok.2.2.2.1
      exact row H locs ls cells slots x _ _ hL.has (by rw [← hL.1]; exact hS.2) (fun ls' h' => k H locs ls' cells slots (ok.loc (x_L.set2 (v := .long x) hL.1 hS.1 h')))
    · cases h
  · cases h
theorem xb_inc (hx : p.tables.exec = Jvm.exec) {cc : ByteArray} (hb : c.code = cc) {i : Nat} {n : Int} (hd : decode cc pc = .ok (.iinc i n, 3)) (h : x_inc i n pc al st w = some (pc', al', st', w')) (k : x_J p l e R s m args below meth c Q z0 ro D cA nL pc' al' st' w') : x_J p l e R s m args below meth c Q z0 ro D cA nL pc al st w := by
  unfold x_inc at h
  split at h
  · rename_i x hxv
    split at h
    · rename_i hS
      cases h
      intro H locs ls cells slots ok
      have hL := ok.2.2.2.1
      obtain ⟨j, hj⟩ := List.getElem?_of_mem (x_asc_mem (z0 := z0) (ro := ro).mpr ⟨_, hxv, rfl, rfl⟩)
      exact lv_iinc hx hb hd hL.has (k := j) hj rfl (by rw [← hL.1]; exact x_okS_lt hS) rfl (fun ls' h' => k H locs ls' cells slots (ok.loc (x_L.set (v := .int (x + Int32.ofInt n)) hL.1 hS h')))
    · cases h
  · cases h
theorem xb_du (hx : p.tables.exec = Jvm.exec) {cc : ByteArray} (hb : c.code = cc) (hd : decode cc pc = .ok (.dup, 1)) (h : x_du pc al st w = some (pc', al', st', w')) (k : x_J p l e R s m args below meth c Q z0 ro D cA nL pc' al' st' w') : x_J p l e R s m args below meth c Q z0 ro D cA nL pc al st w := by
  unfold x_du at h
  split at h
  · split at h
    · rename_i hc
      cases h
      intro H locs ls cells slots ok
      exact lv_dup hx hb hd (by rw [x_tr_cat]; exact hc) (k H locs ls cells slots ok)
    · cases h
  · cases h
theorem xb_du2 (hx : p.tables.exec = Jvm.exec) {cc : ByteArray} (hb : c.code = cc) (hd : decode cc pc = .ok (.dup2, 1)) (h : x_du2 pc al st w = some (pc', al', st', w')) (k : x_J p l e R s m args below meth c Q z0 ro D cA nL pc' al' st' w') : x_J p l e R s m args below meth c Q z0 ro D cA nL pc al st w := by
  unfold x_du2 at h
  split at h
  · split at h
    · rename_i hc
      cases h
      intro H locs ls cells slots ok
      exact lv_dup2_11 hx hb hd (by rw [x_tr_cat]; exact hc.1) (by rw [x_tr_cat]; exact hc.2) (k H locs ls cells slots ok)
    · cases h
  · cases h
theorem xb_po (hx : p.tables.exec = Jvm.exec) {cc : ByteArray} (hb : c.code = cc) (hd : decode cc pc = .ok (.pop, 1)) (h : x_po pc al st w = some (pc', al', st', w')) (k : x_J p l e R s m args below meth c Q z0 ro D cA nL pc' al' st' w') : x_J p l e R s m args below meth c Q z0 ro D cA nL pc al st w := by
  unfold x_po at h
  split at h
  · split at h
    · rename_i hc
      cases h
      intro H locs ls cells slots ok
      exact lv_pop hx hb hd (by rw [x_tr_cat]; exact hc) (k H locs ls cells slots ok)
    · cases h
  · cases h
theorem x_to_inv {off : Int} (h : x_to pc off al st w = some (pc', al', st', w')) : (pc : Int) + off = (pc' : Int) ∧ al' = al ∧ st' = st ∧ w' = w := by
  unfold x_to at h
  split at h
  · cases h
    exact ⟨by omega, rfl, rfl, rfl⟩
  · cases h
theorem xb_goto (hx : p.tables.exec = Jvm.exec) {cc : ByteArray} (hb : c.code = cc) {off : Int} (hd : decode cc pc = .ok (.goto off, 3)) (h : x_to pc off al st w = some (pc', al', st', w')) (k : x_J p l e R s m args below meth c Q z0 ro D cA nL pc' al' st' w') : x_J p l e R s m args below meth c Q z0 ro D cA nL pc al st w := by
  obtain ⟨h1, rfl, rfl, rfl⟩ := x_to_inv h
  intro H locs ls cells slots ok
  exact lv_goto hx hb hd h1 (k H locs ls cells slots ok)
theorem xb_if (hx : p.tables.exec = Jvm.exec) {cc : ByteArray} (hb : c.code = cc) {cn : ClassFile.Cond} {off : Int} (hd : decode cc pc = .ok (.ifCond cn off, 3)) (h : x_if cn off pc al st w = some (pc', al', st', w')) (k : x_J p l e R s m args below meth c Q z0 ro D cA nL pc' al' st' w') : x_J p l e R s m args below meth c Q z0 ro D cA nL pc al st w := by
  unfold x_if at h
  split at h
  · rename_i x st1
    intro H locs ls cells slots ok
    split at h
    · cases h
    rename_i hneg
    obtain ⟨tgt, htgt⟩ : ∃ tgt : Nat, (pc : Int) + off = (tgt : Int) := ⟨((pc : Int) + off).toNat, by omega⟩
    split at h
    · rename_i hc
      obtain ⟨h1, rfl, rfl, rfl⟩ := x_to_inv h
      have kk := k H locs ls cells slots ok
      cases cn
      · exact lv_if_eq hx hb hd h1 (fun _ => kk) (fun q => absurd (of_decide_eq_true hc) q)
      · exact lv_if_ne hx hb hd h1 (fun _ => kk) (fun q => absurd q (of_decide_eq_true hc))
      · exact lv_if_lt hx hb hd h1 (fun _ => kk) (fun q => absurd (of_decide_eq_true hc) q)
      · exact lv_if_ge hx hb hd h1 (fun _ => kk) (fun q => absurd (of_decide_eq_true hc) q)
      · exact lv_if_gt hx hb hd h1 (fun _ => kk) (fun q => absurd (of_decide_eq_true hc) q)
      · exact lv_if_le hx hb hd h1 (fun _ => kk) (fun q => absurd (of_decide_eq_true hc) q)
    · rename_i hc
      cases h
      have kk := k H locs ls cells slots ok
      cases cn
      · exact lv_if_eq hx hb hd htgt (fun q => absurd (decide_eq_true q) hc) (fun _ => kk)
      · exact lv_if_ne hx hb hd htgt (fun q => absurd (decide_eq_true q) hc) (fun _ => kk)
      · exact lv_if_lt hx hb hd htgt (fun q => absurd (decide_eq_true q) hc) (fun _ => kk)
      · exact lv_if_ge hx hb hd htgt (fun q => absurd (decide_eq_true q) hc) (fun _ => kk)
      · exact lv_if_gt hx hb hd htgt (fun q => absurd (decide_eq_true q) hc) (fun _ => kk)
      · exact lv_if_le hx hb hd htgt (fun q => absurd (decide_eq_true q) hc) (fun _ => kk)
  · cases h
theorem xb_if2 (hx : p.tables.exec = Jvm.exec) {cc : ByteArray} (hb : c.code = cc) {cn : ClassFile.Cond} {off : Int} (hd : decode cc pc = .ok (.if_icmp cn off, 3)) (h : x_if2 cn off pc al st w = some (pc', al', st', w')) (k : x_J p l e R s m args below meth c Q z0 ro D cA nL pc' al' st' w') : x_J p l e R s m args below meth c Q z0 ro D cA nL pc al st w := by
  unfold x_if2 at h
  split at h
  · rename_i y x st1
    intro H locs ls cells slots ok
    split at h
    · cases h
    rename_i hneg
    obtain ⟨tgt, htgt⟩ : ∃ tgt : Nat, (pc : Int) + off = (tgt : Int) := ⟨((pc : Int) + off).toNat, by omega⟩
    split at h
    · rename_i hc
      obtain ⟨h1, rfl, rfl, rfl⟩ := x_to_inv h
      have kk := k H locs ls cells slots ok
      cases cn
      · exact lv_icmp_eq hx hb hd h1 (fun _ => kk) (fun q => absurd (of_decide_eq_true hc) q)
      · exact lv_icmp_ne hx hb hd h1 (fun _ => kk) (fun q => absurd q (of_decide_eq_true hc))
      · exact lv_icmp_lt hx hb hd h1 (fun _ => kk) (fun q => absurd (of_decide_eq_true hc) q)
      · exact lv_icmp_ge hx hb hd h1 (fun _ => kk) (fun q => absurd (of_decide_eq_true hc) q)
      · exact lv_icmp_gt hx hb hd h1 (fun _ => kk) (fun q => absurd (of_decide_eq_true hc) q)
      · exact lv_icmp_le hx hb hd h1 (fun _ => kk) (fun q => absurd (of_decide_eq_true hc) q)
    · rename_i hc
      cases h
      have kk := k H locs ls cells slots ok
      cases cn
      · exact lv_icmp_eq hx hb hd htgt (fun q => absurd (decide_eq_true q) hc) (fun _ => kk)
      · exact lv_icmp_ne hx hb hd htgt (fun q => absurd (decide_eq_true q) hc) (fun _ => kk)
      · exact lv_icmp_lt hx hb hd htgt (fun q => absurd (decide_eq_true q) hc) (fun _ => kk)
      · exact lv_icmp_ge hx hb hd htgt (fun q => absurd (decide_eq_true q) hc) (fun _ => kk)
      · exact lv_icmp_gt hx hb hd htgt (fun q => absurd (decide_eq_true q) hc) (fun _ => kk)
      · exact lv_icmp_le hx hb hd htgt (fun q => absurd (decide_eq_true q) hc) (fun _ => kk)
  · cases h
theorem xb_tsw (hx : p.tables.exec = Jvm.exec) {cc : ByteArray} (hb : c.code = cc) {d lo hi : Int} {offs : Array Int} {len : Nat} (hd : decode cc pc = .ok (.tableswitch d lo hi offs, len)) (h : x_tsw d lo hi offs pc al st w = some (pc', al', st', w')) (k : x_J p l e R s m args below meth c Q z0 ro D cA nL pc' al' st' w') : x_J p l e R s m args below meth c Q z0 ro D cA nL pc al st w := by
  unfold x_tsw at h
  split at h
  · rename_i x st1
    intro H locs ls cells slots ok
    split at h
    · rename_i hc
      obtain ⟨h1, rfl, rfl, rfl⟩ := x_to_inv h
      exact lv_tableOut hx hb hd hc h1 (k H locs ls cells slots ok)
    · rename_i hc
      have hc' : ¬ x.toInt < lo ∧ ¬ hi < x.toInt := ⟨fun q => hc (Or.inl q), fun q => hc (Or.inr q)⟩
      split at h
      · rename_i off ho
        obtain ⟨h1, rfl, rfl, rfl⟩ := x_to_inv h
        exact lv_tableIn hx hb hd hc'.1 hc'.2 ho h1 (k H locs ls cells slots ok)
      · cases h
  · cases h
theorem xb_lsw (hx : p.tables.exec = Jvm.exec) {cc : ByteArray} (hb : c.code = cc) {d : Int} {ps : Array (Int × Int)} {len : Nat} (hd : decode cc pc = .ok (.lookupswitch d ps, len)) (h : x_lsw d ps pc al st w = some (pc', al', st', w')) (k : x_J p l e R s m args below meth c Q z0 ro D cA nL pc' al' st' w') : x_J p l e R s m args below meth c Q z0 ro D cA nL pc al st w := by
  unfold x_lsw at h
  split at h
  · rename_i x st1
    intro H locs ls cells slots ok
    split at h
    · rename_i hc
      obtain ⟨h1, rfl, rfl, rfl⟩ := x_to_inv h
      exact lv_lookup hx hb hd hc rfl h1 (k H locs ls cells slots ok)
    · cases h
  · cases h
end XB
