/-! ===== AN INTERPRETER of the class's, the reference's and the law's bytecode over worlds of numbered cells: a pure function; part 04 and on say that the machine does what it does ===== -/
-- a world: the cells' kinds (0, c): an object of kind c; (1, n): an int row; (t + 1, n), t from 1: a row of references; then what the int places hold, what the reference places hold
abbrev x_W : Type := (List (Nat × Nat)) × (Nat → Nat → Int32) × (Nat → Nat → Value)
def x_tag (w : x_W) (a : Nat) : Option (Nat × Nat) := w.1[a]?
def x_i (w : x_W) (a : Nat) : Nat → Int32 := w.2.1 a
def x_r (w : x_W) (a : Nat) : Nat → Value := w.2.2 a
def x_upR (f : Nat → Value) (k : Nat) (v : Value) : Nat → Value := fun j => if j = k then v else f j
def x_sI (w : x_W) (a : Nat) (f : Nat → Int32) : x_W := (w.1, fun b => if b = a then f else w.2.1 b, w.2.2)
def x_sR (w : x_W) (a : Nat) (f : Nat → Value) : x_W := (w.1, w.2.1, fun b => if b = a then f else w.2.2 b)
def x_si (w : x_W) (a k : Nat) (v : Int32) : x_W := x_sI w a (upd (x_i w a) k v)
def x_sr (w : x_W) (a k : Nat) (v : Value) : x_W := x_sR w a (x_upR (x_r w a) k v)
def x_new (w : x_W) (t : Nat × Nat) (f : Nat → Int32) : x_W := (w.1 ++ [t], fun b => if b = w.1.length then f else w.2.1 b, fun b => if b = w.1.length then fun _ => .null else w.2.2 b)
def x_junk : Value := .float 0
def x_isJ (v : Value) : Bool := match v with | .float _ => true | _ => false
def x_isL (v : Value) : Bool := v.category == 2
def x_isR (v : Value) : Bool := match v with | .ref _ => true | .null => true | _ => false
def x_lk {α : Type} (t : List ((Nat × Nat) × α)) (oc idx : Nat) : Option α := (t.find? (fun e => e.1.1 == oc && e.1.2 == idx)).map (fun e => e.2)
theorem x_lk_mem {α : Type} {t : List ((Nat × Nat) × α)} {oc idx : Nat} {v : α} (h : x_lk t oc idx = some v) : ((oc, idx), v) ∈ t := by
  unfold x_lk at h
  cases hf : t.find? (fun e => e.1.1 == oc && e.1.2 == idx) with
  | none => rw [hf] at h; cases h
  | some e =>
    rw [hf] at h
    cases h
    have h1 := List.find?_some hf
    have h2 := List.mem_of_find?_eq_some hf
    simp only [Bool.and_eq_true, beq_iff_eq] at h1
    obtain ⟨⟨a, b⟩, c⟩ := e
    obtain ⟨rfl, rfl⟩ := h1
    exact h2
-- a method's row
def x_me (mid : Nat) : x_M := (x_mt[mid]?).getD (0, ⟨"", "", ""⟩, ⟨#[]⟩, 0, none, 0, 0)
def x_oc (mid : Nat) : Nat := (x_me mid).1
def x_y (mid : Nat) : MethodName := (x_me mid).2.1
def x_code (mid : Nat) : ByteArray := (x_me mid).2.2.1
def x_ml (mid : Nat) : Nat := (x_me mid).2.2.2.1
def x_rt (mid : Nat) : Option FieldType := (x_me mid).2.2.2.2.1
def x_na (mid : Nat) : Nat := (x_me mid).2.2.2.2.2.1
-- the rows that stand outside: the script (999), the static rows (996 IS, 997 STEPS), the constants' bytes (1001 + 2 i)
def x_sbyt (i : Nat) : List Int32 := (x_stx i).toList.map (fun c => Int32.ofNat c.toNat)
def x_ro (L : Nat) (xs : Nat → Int32) (a : Nat) : Option (Nat × (Nat → Int32)) :=
  if a = 999 then some (L, xs) else if a = 996 then some (6, fun j => [1, 3, 5, 11, 21, 33].getD j 0) else if a = 997 then some (4, fun j => [-5, -1, 1, 5].getD j 0) else none
-- what a field or place reads
def x_refT (ty : FieldType) : Bool := match ty with | .object _ => true | .array _ => true | _ => false
def x_rd (w : x_W) (a ci k : Nat) : Value := if x_refT (x_ty ci k) then x_r w a k else .int (x_i w a k)
abbrev x_C : Type := Nat × List Value × List Value × x_W
-- the kinds of instruction
def x_psh (n : Nat) (v : Value) (pc : Nat) (al st : List Value) (w : x_W) : Option x_C := some (pc + n, al, v :: st, w)
def x_bin (f : Int32 → Int32 → Int32) (pc : Nat) (al st : List Value) (w : x_W) : Option x_C := match st with
  | .int y :: .int x :: st => some (pc + 1, al, .int (f x y) :: st, w)
  | _ => none
def x_div (f : Int32 → Int32 → Int32) (pc : Nat) (al st : List Value) (w : x_W) : Option x_C := match st with
  | .int y :: .int x :: st => if y = 0 then none else some (pc + 1, al, .int (f x y) :: st, w)
  | _ => none
def x_un (f : Int32 → Int32) (pc : Nat) (al st : List Value) (w : x_W) : Option x_C := match st with
  | .int x :: st => some (pc + 1, al, .int (f x) :: st, w)
  | _ => none
def x_lbin (f : Int64 → Int64 → Int64) (pc : Nat) (al st : List Value) (w : x_W) : Option x_C := match st with
  | .long y :: .long x :: st => some (pc + 1, al, .long (f x y) :: st, w)
  | _ => none
def x_ldv (f : Int64 → Int64 → Int64) (pc : Nat) (al st : List Value) (w : x_W) : Option x_C := match st with
  | .long y :: .long x :: st => if y = 0 then none else some (pc + 1, al, .long (f x y) :: st, w)
  | _ => none
def x_lcm (pc : Nat) (al st : List Value) (w : x_W) : Option x_C := match st with
  | .long y :: .long x :: st => some (pc + 1, al, .int (lg_cmp x y) :: st, w)
  | _ => none
def x_i2lF (pc : Nat) (al st : List Value) (w : x_W) : Option x_C := match st with
  | .int x :: st => some (pc + 1, al, .long x.toInt64 :: st, w)
  | _ => none
def x_ldI (n i pc : Nat) (al st : List Value) (w : x_W) : Option x_C := match al[i]? with
  | some (.int x) => some (pc + n, al, .int x :: st, w)
  | _ => none
def x_ldL (n i pc : Nat) (al st : List Value) (w : x_W) : Option x_C := match al[i]? with
  | some (.long x) => some (pc + n, al, .long x :: st, w)
  | _ => none
def x_ldA (n i pc : Nat) (al st : List Value) (w : x_W) : Option x_C := match al[i]? with
  | some (.ref x) => some (pc + n, al, .ref x :: st, w)
  | _ => none
def x_okS (al : List Value) (i : Nat) : Bool := decide (i < al.length) && (i == 0 || !(x_isL (al.getD (i - 1) .null)))
def x_stI (n i pc : Nat) (al st : List Value) (w : x_W) : Option x_C := match st with
  | .int x :: st => if x_okS al i then some (pc + n, al.set i (.int x), st, w) else none
  | _ => none
def x_stA (n i pc : Nat) (al st : List Value) (w : x_W) : Option x_C := match st with
  | .ref x :: st => if x_okS al i then some (pc + n, al.set i (.ref x), st, w) else none
  | _ => none
def x_stL (n i pc : Nat) (al st : List Value) (w : x_W) : Option x_C := match st with
  | .long x :: st => if x_okS al i && decide (i + 1 < al.length) then some (pc + n, (al.set i (.long x)).set (i + 1) x_junk, st, w) else none
  | _ => none
def x_inc (i : Nat) (k : Int) (pc : Nat) (al st : List Value) (w : x_W) : Option x_C := match al[i]? with
  | some (.int x) => if x_okS al i then some (pc + 3, al.set i (.int (x + Int32.ofInt k)), st, w) else none
  | _ => none
def x_du (pc : Nat) (al st : List Value) (w : x_W) : Option x_C := match st with
  | v :: st => if v.category = 1 then some (pc + 1, al, v :: v :: st, w) else none
  | _ => none
def x_du2 (pc : Nat) (al st : List Value) (w : x_W) : Option x_C := match st with
  | v :: u :: st => if v.category = 1 ∧ u.category = 1 then some (pc + 1, al, v :: u :: v :: u :: st, w) else none
  | _ => none
def x_po (pc : Nat) (al st : List Value) (w : x_W) : Option x_C := match st with
  | v :: st => if v.category = 1 then some (pc + 1, al, st, w) else none
  | _ => none
def x_cmp (c : ClassFile.Cond) (x y : Int32) : Bool := match c with
  | .eq => decide (x = y)
  | .ne => decide (¬ x = y)
  | .lt => decide (x < y)
  | .ge => decide (y ≤ x)
  | .gt => decide (y < x)
  | .le => decide (x ≤ y)
def x_to (pc : Nat) (off : Int) (al st : List Value) (w : x_W) : Option x_C := if 0 ≤ (pc : Int) + off then some (((pc : Int) + off).toNat, al, st, w) else none
def x_if (c : ClassFile.Cond) (off : Int) (pc : Nat) (al st : List Value) (w : x_W) : Option x_C := match st with
  | .int x :: st => if (pc : Int) + off < 0 then none else if x_cmp c x 0 = true then x_to pc off al st w else some (pc + 3, al, st, w)
  | _ => none
def x_if2 (c : ClassFile.Cond) (off : Int) (pc : Nat) (al st : List Value) (w : x_W) : Option x_C := match st with
  | .int y :: .int x :: st => if (pc : Int) + off < 0 then none else if x_cmp c x y = true then x_to pc off al st w else some (pc + 3, al, st, w)
  | _ => none
def x_tsw (d lo hi : Int) (offs : Array Int) (pc : Nat) (al st : List Value) (w : x_W) : Option x_C := match st with
  | .int x :: st => if x.toInt < lo ∨ hi < x.toInt then x_to pc d al st w else match offs[(x.toInt - lo).toNat]? with
    | some off => x_to pc off al st w
    | none => none
  | _ => none
def x_lsw (d : Int) (ps : Array (Int × Int)) (pc : Nat) (al st : List Value) (w : x_W) : Option x_C := match st with
  | .int x :: st => if (ps.toList.zip (ps.toList.drop 1)).all (fun (a, next) => a.1 < next.1) = true then x_to pc (Op.lookupswitch.offset ps.toList d x.toInt) al st w else none
  | _ => none
def x_ldc (oc idx n pc : Nat) (al st : List Value) (w : x_W) : Option x_C := match x_lk x_ki oc idx with
  | some v => some (pc + n, al, .int v.1 :: st, w)
  | none => match x_lk x_ks oc idx with
    | some i => if n = 2 then some (pc + n, al, .ref (1000 + 2 * i.1) :: st, w) else none
    | none => none
def x_ldc2 (oc idx pc : Nat) (al st : List Value) (w : x_W) : Option x_C := match x_lk x_kl oc idx with
  | some v => some (pc + 3, al, .long v.1 :: st, w)
  | none => none
def x_gets (oc idx pc : Nat) (al st : List Value) (w : x_W) : Option x_C :=
  if oc = 10 ∧ idx = 38 then some (pc + 3, al, .int 1 :: st, w)
  else if oc = 10 ∧ idx = 1053 then some (pc + 3, al, .retAddr 0 :: st, w)
  else if oc = 5 ∧ idx = 38 then some (pc + 3, al, .ref 996 :: st, w)
  else if oc = 3 ∧ idx = 74 then some (pc + 3, al, .ref 997 :: st, w) else none
def x_gf (oc idx pc : Nat) (al st : List Value) (w : x_W) : Option x_C := match st with
  | .ref a :: st => match x_lk x_fs oc idx with
    | some ((ci, k), _) => if x_tag w a = some (0, ci) ∧ x_isR (x_rd w a ci k) = x_refT (x_ty ci k) then some (pc + 3, al, x_rd w a ci k :: st, w) else none
    | none => if oc = 10 ∧ 1000 ≤ a ∧ a < 1028 ∧ a % 2 = 0 then if idx = 15 then some (pc + 3, al, .int 0 :: st, w) else if idx = 9 then some (pc + 3, al, .ref (a + 1) :: st, w) else none else none
  | _ => none
def x_pf (ini : Bool) (oc idx pc : Nat) (al st : List Value) (w : x_W) : Option x_C := match st with
  | v :: .ref a :: st => match x_lk x_fs oc idx with
    | some ((ci, k), _) => if (x_T ci k).2.2.2 = true ∧ ¬ (ini = true ∧ ci = oc) then none else if x_tag w a = some (0, ci) then match v with
      | .int x => if x_ty ci k = .int ∨ (x_ty ci k = .boolean ∧ (x = 0 ∨ x = 1)) then some (pc + 3, al, st, x_si w a k x) else none
      | .ref b => if x_refT (x_ty ci k) = true then some (pc + 3, al, st, x_sr w a k (.ref b)) else none
      | _ => none
      else none
    | none => none
  | _ => none
def x_iald (L : Nat) (xs : Nat → Int32) (pc : Nat) (al st : List Value) (w : x_W) : Option x_C := match st with
  | .int i :: .ref a :: st => if a < 900 then match x_tag w a with
      | some (1, n) => if i < 0 ∨ n ≤ i.toNatClampNeg then none else some (pc + 1, al, .int (x_i w a i.toNatClampNeg) :: st, w)
      | _ => none
    else match x_ro L xs a with
      | some (n, f) => if i < 0 ∨ n ≤ i.toNatClampNeg then none else some (pc + 1, al, .int (f i.toNatClampNeg) :: st, w)
      | none => none
  | _ => none
def x_bald (pc : Nat) (al st : List Value) (w : x_W) : Option x_C := match st with
  | .int i :: .ref a :: st => if 1000 ≤ a ∧ a < 1028 ∧ a % 2 = 1 then if i < 0 ∨ (x_sbyt ((a - 1000) / 2)).length ≤ i.toNatClampNeg then none else some (pc + 1, al, .int ((x_sbyt ((a - 1000) / 2)).getD i.toNatClampNeg 0) :: st, w) else none
  | _ => none
def x_iast (pc : Nat) (al st : List Value) (w : x_W) : Option x_C := match st with
  | .int x :: .int i :: .ref a :: st => match x_tag w a with
      | some (1, n) => if i < 0 ∨ n ≤ i.toNatClampNeg then none else some (pc + 1, al, st, x_si w a i.toNatClampNeg x)
      | _ => none
  | _ => none
def x_aald (pc : Nat) (al st : List Value) (w : x_W) : Option x_C := match st with
  | .int i :: .ref a :: st => match x_tag w a with
      | some (t + 2, n) => if i < 0 ∨ n ≤ i.toNatClampNeg ∨ x_isR (x_r w a i.toNatClampNeg) = false ∨ 3 ≤ t then none else some (pc + 1, al, x_r w a i.toNatClampNeg :: st, w)
      | _ => none
  | _ => none
-- the kind that a row of references holds: t from 1: Law, Sheet, Sleeper
def x_el (t : Nat) : Nat := [2, 4, 5].getD (t - 1) 0
def x_aast (pc : Nat) (al st : List Value) (w : x_W) : Option x_C := match st with
  | .ref b :: .int i :: .ref a :: st => match x_tag w a with
      | some (t + 2, n) => if i < 0 ∨ n ≤ i.toNatClampNeg ∨ ¬ (x_tag w b = some (0, x_el (t + 1))) ∨ 3 ≤ t then none else some (pc + 1, al, st, x_sr w a i.toNatClampNeg (.ref b))
      | _ => none
  | _ => none
def x_len (L : Nat) (pc : Nat) (al st : List Value) (w : x_W) : Option x_C := match st with
  | .ref a :: st => if a < 900 then match x_tag w a with
      | some (1, n) => some (pc + 1, al, .int (Int32.ofNat n) :: st, w)
      | _ => none
    else if 1000 ≤ a ∧ a < 1028 ∧ a % 2 = 1 then some (pc + 1, al, .int (Int32.ofNat (x_sbyt ((a - 1000) / 2)).length) :: st, w)
    else if a = 999 then some (pc + 1, al, .int (Int32.ofNat L) :: st, w) else none
  | _ => none
def x_newa (pc : Nat) (al st : List Value) (w : x_W) : Option x_C := match st with
  | .int n :: st => if n < 0 ∨ 2000 < n.toNatClampNeg ∨ 899 < w.1.length then none else some (pc + 2, al, .ref w.1.length :: st, x_new w (1, n.toNatClampNeg) (fun _ => 0))
  | _ => none
def x_anew (oc idx pc : Nat) (al st : List Value) (w : x_W) : Option x_C := match st with
  | .int n :: st => match x_lk x_as oc idx with
    | some (t, _) => if n < 0 ∨ 2000 < n.toNatClampNeg ∨ 899 < w.1.length then none else some (pc + 3, al, .ref w.1.length :: st, x_new w (t + 1, n.toNatClampNeg) (fun _ => 0))
    | none => none
  | _ => none
def x_newo (oc idx pc : Nat) (al st : List Value) (w : x_W) : Option x_C := match x_lk x_ns oc idx with
  | some (ci, _) => if 899 < w.1.length then none else some (pc + 3, al, .ref w.1.length :: st, x_new w (0, ci) (fun _ => 0))
  | none => none
-- library calls that are no methods of ours
def x_cat (st : List Value) : Nat := (st.map fun v => v.category).sum
def x_copy (pc : Nat) (al st : List Value) (w : x_W) : Option x_C := match st with
  | .int n :: .int dp :: .ref b :: .int sp :: .ref a :: st => match x_tag w a, x_tag w b with
    | some (1, na), some (1, nb) => if n < 0 ∨ sp < 0 ∨ dp < 0 ∨ na < sp.toNatClampNeg + n.toNatClampNeg ∨ nb < dp.toNatClampNeg + n.toNatClampNeg ∨ 8 < x_cat st then none
      else some (pc + 3, al, st, x_sI w b (va_cpy (x_i w a) (x_i w b) sp.toNatClampNeg dp.toNatClampNeg n.toNatClampNeg))
    | _, _ => none
  | _ => none
def x_clone (pc : Nat) (al st : List Value) (w : x_W) : Option x_C := match st with
  | .ref a :: st => match x_tag w a with
    | some (1, n) => if 8 < x_cat st ∨ 2000 < n ∨ 899 < w.1.length then none else some (pc + 3, al, .ref w.1.length :: st, x_new w (1, n) (x_i w a))
    | _ => none
  | _ => none
def x_chk (pc : Nat) (al st : List Value) (w : x_W) : Option x_C := match st with
  | .ref a :: st => match x_tag w a with
    | some (1, _) => some (pc + 3, al, .ref a :: st, w)
    | _ => none
  | _ => none
def x_isCopy (oc idx : Nat) : Bool := (oc == 0 && idx == 55) || (oc == 1 && idx == 35) || (oc == 3 && idx == 59) || (oc == 7 && idx == 284) || (oc == 14 && idx == 150)
def x_math (oc idx pc : Nat) (al st : List Value) (w : x_W) : Option x_C := match x_lk x_mm oc idx with
  | some (0, _) => (match st with
    | .int y :: .int x :: st => if 8 < x_cat st then none else some (pc + 3, al, .int (if x < y then y else x) :: st, w)
    | _ => none)
  | some (1, _) => (match st with
    | .int y :: .int x :: st => if 8 < x_cat st then none else some (pc + 3, al, .int (if y < x then y else x) :: st, w)
    | _ => none)
  | some (2, _) => (match st with
    | .int x :: st => if 8 < x_cat st then none else some (pc + 3, al, .int (if 0 ≤ x then x else 0 - x) :: st, w)
    | _ => none)
  | _ => none
def x_ini (oc idx pc : Nat) (al st : List Value) (w : x_W) : Option x_C := match st with
  | .ref _ :: st => match x_lk x_oi oc idx with
    | some _ => if 8 < x_cat st then none else some (pc + 3, al, st, w)
    | none => none
  | _ => none
def x_step (L : Nat) (xs : Nat → Int32) (ini : Bool) (oc : Nat) (i : Instr) (pc : Nat) (al st : List Value) (w : x_W) : Option x_C := match i with
  | .iconst n => x_psh 1 (.int (Int32.ofInt n)) pc al st w
  | .bipush n => x_psh 2 (.int (Int8.ofInt n).toInt32) pc al st w
  | .sipush n => x_psh 3 (.int (Int16.ofInt n).toInt32) pc al st w
  | .lconst n => x_psh 1 (.long (Int64.ofNat (n : Nat))) pc al st w
  | .ldc idx => x_ldc oc idx 2 pc al st w
  | .ldc_w idx => x_ldc oc idx 3 pc al st w
  | .ldc2_w idx => x_ldc2 oc idx pc al st w
  | .iload i => x_ldI 2 i pc al st w
  | .iload_n i => x_ldI 1 i pc al st w
  | .lload i => x_ldL 2 i pc al st w
  | .lload_n i => x_ldL 1 i pc al st w
  | .aload i => x_ldA 2 i pc al st w
  | .aload_n i => x_ldA 1 i pc al st w
  | .istore i => x_stI 2 i pc al st w
  | .istore_n i => x_stI 1 i pc al st w
  | .lstore i => x_stL 2 i pc al st w
  | .lstore_n i => x_stL 1 i pc al st w
  | .astore i => x_stA 2 i pc al st w
  | .astore_n i => x_stA 1 i pc al st w
  | .iinc i k => x_inc i k pc al st w
  | .dup => x_du pc al st w
  | .dup2 => x_du2 pc al st w
  | .pop => x_po pc al st w
  | .iadd => x_bin (fun x y => x + y) pc al st w
  | .isub => x_bin (fun x y => x - y) pc al st w
  | .imul => x_bin (fun x y => x * y) pc al st w
  | .iand => x_bin (fun x y => x &&& y) pc al st w
  | .ior => x_bin (fun x y => x ||| y) pc al st w
  | .ixor => x_bin (fun x y => x ^^^ y) pc al st w
  | .ishl => x_bin (fun x y => x <<< (y &&& 31)) pc al st w
  | .ishr => x_bin (fun x y => x >>> (y &&& 31)) pc al st w
  | .iushr => x_bin (fun x y => (x.toUInt32 >>> (y.toUInt32 &&& Int32.toUInt32 31)).toInt32) pc al st w
  | .idiv => x_div (fun x y => x / y) pc al st w
  | .irem => x_div (fun x y => x - x / y * y) pc al st w
  | .ineg => x_un (fun x => -x) pc al st w
  | .i2b => x_un (fun x => x.toInt8.toInt32) pc al st w
  | .i2s => x_un (fun x => x.toInt16.toInt32) pc al st w
  | .i2c => x_un (fun x => (x.toUInt32 % 65536).toInt32) pc al st w
  | .i2l => x_i2lF pc al st w
  | .ladd => x_lbin (fun x y => x + y) pc al st w
  | .lmul => x_lbin (fun x y => x * y) pc al st w
  | .ldiv => x_ldv (fun x y => x / y) pc al st w
  | .lrem => x_ldv (fun x y => x - x / y * y) pc al st w
  | .lcmp => x_lcm pc al st w
  | .ifCond c off => x_if c off pc al st w
  | .if_icmp c off => x_if2 c off pc al st w
  | .goto off => x_to pc off al st w
  | .tableswitch d lo hi offs => x_tsw d lo hi offs pc al st w
  | .lookupswitch d ps => x_lsw d ps pc al st w
  | .getstatic idx => x_gets oc idx pc al st w
  | .getfield idx => x_gf oc idx pc al st w
  | .putfield idx => x_pf ini oc idx pc al st w
  | .iaload => x_iald L xs pc al st w
  | .baload => x_bald pc al st w
  | .iastore => x_iast pc al st w
  | .aaload => x_aald pc al st w
  | .aastore => x_aast pc al st w
  | .arraylength => x_len L pc al st w
  | .newarray .int => x_newa pc al st w
  | .anewarray idx => x_anew oc idx pc al st w
  | .new idx => x_newo oc idx pc al st w
  | .invokestatic idx => if x_isCopy oc idx = true then x_copy pc al st w else x_math oc idx pc al st w
  | .invokevirtual idx => if oc = 14 ∧ idx = 316 then x_clone pc al st w else none
  | .invokespecial idx => x_ini oc idx pc al st w
  | .checkcast idx => if oc = 14 ∧ idx = 317 then x_chk pc al st w else none
  | _ => none
-- how long an instruction is
def x_ln (i : Instr) (len : Nat) : Bool := match i with
  | .tableswitch .. => true
  | .lookupswitch .. => true
  | .bipush _ => len == 2
  | .sipush _ => len == 3
  | .ldc _ => len == 2
  | .ldc_w _ => len == 3
  | .ldc2_w _ => len == 3
  | .iload _ => len == 2
  | .lload _ => len == 2
  | .aload _ => len == 2
  | .istore _ => len == 2
  | .lstore _ => len == 2
  | .astore _ => len == 2
  | .iinc _ _ => len == 3
  | .ifCond _ _ => len == 3
  | .if_icmp _ _ => len == 3
  | .goto _ => len == 3
  | .getstatic _ => len == 3
  | .getfield _ => len == 3
  | .putfield _ => len == 3
  | .newarray _ => len == 2
  | .anewarray _ => len == 3
  | .new _ => len == 3
  | .invokestatic _ => len == 3
  | .invokevirtual _ => len == 3
  | .invokespecial _ => len == 3
  | .checkcast _ => len == 3
  | _ => len == 1
-- a return: what it answers
def x_ret (mid : Nat) (i : Instr) (st : List Value) : Option (Option Value) := match i, st with
  | .return_, [] => if x_rt mid = none then some none else none
  | .ireturn, [.int v] => match x_rt mid with
    | some ty => if narrow ty (.int v) = .int v then some (some (.int v)) else none
    | none => none
  | .lreturn, [.long v] => if x_rt mid = some .long then some (some (.long v)) else none
  | .areturn, [.ref a] => match x_rt mid with
    | some (.object _) => some (some (.ref a))
    | some (.array _) => some (some (.ref a))
    | _ => none
  | _, _ => none
-- a call of a method of ours: its kind and number
def x_site (oc : Nat) (i : Instr) : Option (Nat × Nat) := match i with
  | .invokestatic idx => match x_lk x_cs oc idx with | some ((0, mid), _) => some (0, mid) | some ((4, mid), _) => some (4, mid) | _ => none
  | .invokevirtual idx => match x_lk x_cs oc idx with | some ((1, mid), _) => some (1, mid) | _ => none
  | .invokespecial idx => match x_lk x_cs oc idx with | some ((2, mid), _) => some (2, mid) | some ((3, mid), _) => some (3, mid) | _ => none
  | _ => none
-- the locals at a method's entry
def x_ent : List Value → List Value
  | [] => []
  | v :: vs => if v.category = 2 then v :: x_junk :: x_ent vs else v :: x_ent vs
def x_loc (mid : Nat) (vs : List Value) : List Value := x_ent vs ++ List.replicate (x_ml mid - (x_ent vs).length) x_junk
-- a receiver is an object of the class that the site names
def x_rcv (k mid : Nat) (vs : List Value) (w : x_W) : Bool := match k, vs with
  | 0, _ => true
  | 1, .ref a :: _ => if x_oc mid < 9 then decide (x_tag w a = some (0, x_oc mid)) else decide (x_oc mid = 10 ∧ 1000 ≤ a ∧ a < 1028 ∧ a % 2 = 0)
  | 4, _ => true
  | 2, .ref _ :: _ => true
  | 3, .ref _ :: _ => true
  | _, _ => false
def x_exec (L : Nat) (xs : Nat → Int32) : Nat → Nat → Nat → Nat → List Value → List Value → x_W → Option (Option Value × x_W)
  | 0, _, _, _, _, _, _ => none
  | n + 1, d, mid, pc, al, st, w => match decode (x_code mid) pc with
    | .error _ => none
    | .ok (i, len) => if x_ln i len = false then none else match x_ret mid i st with
      | some r => some (r, w)
      | none => match x_site (x_oc mid) i with
        | some (k, mid2) => match d with
          | 0 => none
          | d' + 1 =>
            let vs := (st.take (x_na mid2)).reverse
            if x_na mid2 ≤ st.length ∧ x_cat (st.drop (x_na mid2)) ≤ 8 ∧ (x_ent vs).length ≤ x_ml mid2 ∧ x_rcv k mid2 vs w = true then
              match x_exec L xs n d' mid2 0 (x_loc mid2 vs) [] w with
              | some (r, w1) => x_exec L xs n d mid (pc + 3) al (r.toList ++ st.drop (x_na mid2)) w1
              | none => none
            else none
        | none => match x_step L xs (decide ((x_y mid).name = "<init>")) (x_oc mid) i pc al st w with
          | some (pc', al', st', w') => x_exec L xs n d mid pc' al' st' w'
          | none => none
