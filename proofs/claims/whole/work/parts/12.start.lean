/-! ===== the law's start: what the Statement gives is a world of the interpreter's ===== -/
/-! THE CLAIM OUT OF ONE WALK OF THE LAW'S BODY. Your part is whole_start (and what it stands on); all else here is the same for every law, but numbers. -/
def R_law : String := "OneNetLaw"
def lw_P (b : Addr) (xs : List Int32) (args : Array Value) (s : State) : Prop := args = #[.ref b] ∧ s.IntsAt b xs ∧ xs.length ≤ 3584 ∧ (Jvm.Cond.and given_1 narrow_1).before args s = true
def lw_Q (_ : Array Value) (s : State) (o : Outcome) (t : State) : Prop := o = .returned (some (.int 1)) ∧ Framed s o t [] 600000 7302250
def lw_Z (below : List Frame) (a : Array Value) (s : State) : State → Prop := fun t => ∃ o, t.status = .running ∧ Ended t below o ∧ lw_Q a s o t
/-- the law's own end, with 1 on the stack, nothing written that was there before, its room as the claim has it -/
theorem lw_ret {p : Program} {l : Launch} {e : Env} {s : State} {m : MethodId} {below : List Frame} {meth : Method} {c : Code} {b : Nat} (hx : p.tables.exec = Jvm.exec) (hb : c.code = code) (hr : meth.sig.returnType = ret) (hlocks : meth.locks = false) {pc : Nat} {H : Heap} {ls : Array Slot} (hdg : decode code pc = .ok (.ireturn, 1)) : W p l e room_1 s m #[Value.ref b] below meth c H [] 600000 7302250 (lw_Z below #[Value.ref b] s) (F0 m pc ls [.int 1]) := by
  intro T hT X
  obtain ⟨fs, hret, hrun, hended, hW, hframe⟩ := X.leave (v := some (.int 1)) (hlocks := hlocks) (fun h => by rw [hr] at h; cases h)
  have hmeth' : T.vm.method? m = some meth := X.method'
  refine ⟨T.setFrames fs, ?_, .returned (some (.int 1)), hrun, hended, rfl, ⟨_, rfl⟩, hW, hframe⟩
  jvm_step X.here [X.here.top, hx, hb, hdg, hmeth', hr, ret, narrow_b1]
  (try refine ⟨rfl, ?_⟩); (try refine ⟨rfl, ?_⟩)
  first | (intro acts; rw [hret _ acts rfl rfl rfl]) | rw [hret _ _ rfl rfl rfl]
  exact Steps.refl _
/-- what holds at the law's entry: the machine, the code, the tables' words (any of lw_tbl by 'hts w (by decide +kernel)'), the script of L ints xs at the cell b, what the Statement gives of the start (any of its parts by flat_of_before) -/
def lw_At (p : Program) (s : State) (m : MethodId) (meth : Method) (c : Code) (b L : Nat) (xs : Nat → Int32) : Prop :=
  p.tables.exec = Jvm.exec ∧ c.code = code ∧ meth.sig.returnType = ret ∧ c.maxLocals = 4 ∧ s.vm.findClass R_law = some m.cls ∧ (∀ w ∈ lw_tbl, w.before #[Value.ref b] s = true) ∧ va_X b L xs s s.heap ∧ b < s.heap.size ∧ meth.locks = false ∧ (Jvm.Cond.and given_1 narrow_1).before #[Value.ref b] s = true

-- ===== ours =====
def x_stm (i : Nat) : Term := [.string "OneNet" 42, .string "OneNet$Tape" 132, .string "OneNet$Tape" 134, .string "OneNet$Tape" 136, .string "OneNet$Tape" 138, .string "OneNet$Tape" 140, .string "OneNet$Tape" 142, .string "OneNet$Tape" 144, .string "OneNet$Tape" 146, .string "OneNet$Tape" 148, .string "OneNet$Tape" 150, .string "OneNet$Tape" 152, .string "OneNet$Tape" 154, .string "OneNet$Tape" 156].getD i (.string "" 0)
def x_nb (i : Nat) (w : Jvm.Cond) : Bool := decide ((flatC (Jvm.Cond.and given_1 narrow_1))[i]? = some w)
theorem x_nb_use {args : Array Value} {s : State} (h : (Jvm.Cond.and given_1 narrow_1).before args s = true) {i : Nat} {w : Jvm.Cond} (hw : x_nb i w = true) : w.before args s = true := flat_of_before _ h w (List.mem_of_getElem? (of_decide_eq_true hw))
def x_sp (i : Nat) : List Nat := [[52, 53, 54, 55, 56, 57, 58, 59, 60, 61, 62, 63, 64, 65, 66, 67, 68, 69, 70, 71, 72, 73, 74, 75, 76, 77, 78, 79, 80, 81, 82, 83, 84, 85, 86, 87, 88, 89, 90, 91, 92, 93, 94, 95, 96, 97, 98, 99, 100, 101, 102, 103, 104, 105], [106, 107, 108, 109, 110, 111, 112, 113], [115, 116, 117, 118, 119, 120, 121, 122], [125, 126, 127, 128, 129, 130, 131], [135, 136, 137, 138, 139, 140, 141, 142, 143, 144], [149, 150, 151, 152, 153, 154, 155, 156], [162, 163, 164, 165, 166, 167, 168], [175, 176, 177, 178, 179, 180, 181, 182], [190, 191, 192, 193, 194, 195, 196, 197, 198], [207, 208, 209, 210, 211, 212, 213, 214, 215], [225, 226, 227, 228, 229, 230], [241, 242, 243, 244, 245, 246, 247], [259, 260, 261, 262, 263, 264, 265], [278, 279, 280, 281, 282, 283, 284, 285, 286, 287, 288, 289]].getD i []
def x_pp (i j : Nat) : Nat := ([[0, 114, 123, 132, 145, 157, 169, 183, 199, 216, 231, 248, 266, 290], [114, 0, 124, 133, 146, 158, 170, 184, 200, 217, 232, 249, 267, 291], [123, 124, 0, 134, 147, 159, 171, 185, 201, 218, 233, 250, 268, 292], [132, 133, 134, 0, 148, 160, 172, 186, 202, 219, 234, 251, 269, 293], [145, 146, 147, 148, 0, 161, 173, 187, 203, 220, 235, 252, 270, 294], [157, 158, 159, 160, 161, 0, 174, 188, 204, 221, 236, 253, 271, 295], [169, 170, 171, 172, 173, 174, 0, 189, 205, 222, 237, 254, 272, 296], [183, 184, 185, 186, 187, 188, 189, 0, 206, 223, 238, 255, 273, 297], [199, 200, 201, 202, 203, 204, 205, 206, 0, 224, 239, 256, 274, 298], [216, 217, 218, 219, 220, 221, 222, 223, 224, 0, 240, 257, 275, 299], [231, 232, 233, 234, 235, 236, 237, 238, 239, 240, 0, 258, 276, 300], [248, 249, 250, 251, 252, 253, 254, 255, 256, 257, 258, 0, 277, 301], [266, 267, 268, 269, 270, 271, 272, 273, 274, 275, 276, 277, 0, 302], [290, 291, 292, 293, 294, 295, 296, 297, 298, 299, 300, 301, 302, 0]].getD i []).getD j 0
def x_spB (i : Nat) : Bool := x_nb ((x_sp i).getD 0 0) (.exactly (x_stm i) "java/lang/String") && x_nb ((x_sp i).getD 1 0) (.eq (.field (x_stm i) "java/lang/String" "coder" "B") (.int 0)) && x_nb ((x_sp i).getD 2 0) (.arrayOf (.field (x_stm i) "java/lang/String" "value" "[B") .byte) && x_nb ((x_sp i).getD 3 0) (.eq (.length (.field (x_stm i) "java/lang/String" "value" "[B")) (.int (Int32.ofNat (x_sbyt i).length)))
  && (List.range (x_sbyt i).length).all (fun j => x_nb ((x_sp i).getD (4 + j) 0) (.eq (.elem (.field (x_stm i) "java/lang/String" "value" "[B") (.int (Int32.ofNat j))) (.int ((x_sbyt i).getD j 0)))) && decide ((x_sbyt i).length < 100)
set_option maxRecDepth 100000 in
theorem x_spOk : (List.range 14).all x_spB = true := by decide +kernel
set_option maxRecDepth 100000 in
theorem x_ppOk : (List.range 14).all (fun i => (List.range 14).all (fun j => decide (i = j) || x_nb (x_pp i j) (.not (.eq (x_stm i) (x_stm j))) || x_nb (x_pp i j) (.not (.eq (x_stm j) (x_stm i))))) = true := by decide +kernel
set_option maxRecDepth 100000 in
theorem x_ksOk2 : x_ks.all (fun q => decide (x_stm q.2.1 = .string (x_own q.1.1) q.1.2)) = true := by decide +kernel
def x_ip (k : Nat) : Nat := [434, 145, 381, 440, 415, 490, 99, 91, 1018].getD k 0
set_option maxRecDepth 100000 in
theorem x_ipOk : (List.range 9).all (fun k => x_wb (x_ip k) (.instantiable (x_own k) (x_nf k))) = true := by decide +kernel
theorem x_stIS {args : Array Value} {s : State} (hn : (Jvm.Cond.and given_1 narrow_1).before args s = true) (hts : ∀ w ∈ lw_tbl, w.before args s = true) : ∃ t : Nat, va_Z "OneNet$Sleeper" "IS" "[I" (.ref t) (x_A s.heap.size) s s.heap ∧ va_T .int t 6 (fun j => .int ([1, 3, 5, 11, 21, 33].getD j 0)) (x_A s.heap.size) s s.heap := by
  have hA : ∀ a : Nat, a < s.heap.size → ¬ x_A s.heap.size a := fun a h q => absurd h (Nat.not_lt.mpr q)
  obtain ⟨t, h1, h2⟩ := va_Tof (tm := .static "OneNet$Sleeper" "IS" "[I") (ty := .int) (N := 6) (f := fun j => .int ([1, 3, 5, 11, 21, 33].getD j 0)) (A := x_A s.heap.size) (by decide) (x_nb_use hn (i := 10) (by decide +kernel)) (va_eqt (x_nb_use hn (i := 11) (by decide +kernel))) (fun j hj => by
    match j, hj with
    | 0, _ => exact va_eqt (x_nb_use hn (i := 12) (w := .eq (.elem (.static "OneNet$Sleeper" "IS" "[I") (.int 0)) (.int (1))) (by decide +kernel))
    | 1, _ => exact va_eqt (x_nb_use hn (i := 13) (w := .eq (.elem (.static "OneNet$Sleeper" "IS" "[I") (.int 1)) (.int (3))) (by decide +kernel))
    | 2, _ => exact va_eqt (x_nb_use hn (i := 14) (w := .eq (.elem (.static "OneNet$Sleeper" "IS" "[I") (.int 2)) (.int (5))) (by decide +kernel))
    | 3, _ => exact va_eqt (x_nb_use hn (i := 15) (w := .eq (.elem (.static "OneNet$Sleeper" "IS" "[I") (.int 3)) (.int (11))) (by decide +kernel))
    | 4, _ => exact va_eqt (x_nb_use hn (i := 16) (w := .eq (.elem (.static "OneNet$Sleeper" "IS" "[I") (.int 4)) (.int (21))) (by decide +kernel))
    | 5, _ => exact va_eqt (x_nb_use hn (i := 17) (w := .eq (.elem (.static "OneNet$Sleeper" "IS" "[I") (.int 5)) (.int (33))) (by decide +kernel))) hA
  exact ⟨t, va_Zref (hts _ (x_wb_mem (i := 696) (by decide +kernel))) (hts _ (x_wb_mem (i := 87) (by decide +kernel))) h1 hA, h2⟩
theorem x_stSTEPS {args : Array Value} {s : State} (hn : (Jvm.Cond.and given_1 narrow_1).before args s = true) (hts : ∀ w ∈ lw_tbl, w.before args s = true) : ∃ t : Nat, va_Z "OneNet$Net" "STEPS" "[I" (.ref t) (x_A s.heap.size) s s.heap ∧ va_T .int t 4 (fun j => .int ([-5, -1, 1, 5].getD j 0)) (x_A s.heap.size) s s.heap := by
  have hA : ∀ a : Nat, a < s.heap.size → ¬ x_A s.heap.size a := fun a h q => absurd h (Nat.not_lt.mpr q)
  obtain ⟨t, h1, h2⟩ := va_Tof (tm := .static "OneNet$Net" "STEPS" "[I") (ty := .int) (N := 4) (f := fun j => .int ([-5, -1, 1, 5].getD j 0)) (A := x_A s.heap.size) (by decide) (x_nb_use hn (i := 19) (by decide +kernel)) (va_eqt (x_nb_use hn (i := 20) (by decide +kernel))) (fun j hj => by
    match j, hj with
    | 0, _ => exact va_eqt (x_nb_use hn (i := 21) (w := .eq (.elem (.static "OneNet$Net" "STEPS" "[I") (.int 0)) (.int (-5))) (by decide +kernel))
    | 1, _ => exact va_eqt (x_nb_use hn (i := 22) (w := .eq (.elem (.static "OneNet$Net" "STEPS" "[I") (.int 1)) (.int (-1))) (by decide +kernel))
    | 2, _ => exact va_eqt (x_nb_use hn (i := 23) (w := .eq (.elem (.static "OneNet$Net" "STEPS" "[I") (.int 2)) (.int (1))) (by decide +kernel))
    | 3, _ => exact va_eqt (x_nb_use hn (i := 24) (w := .eq (.elem (.static "OneNet$Net" "STEPS" "[I") (.int 3)) (.int (5))) (by decide +kernel))) hA
  exact ⟨t, va_Zref (hts _ (x_wb_mem (i := 735) (by decide +kernel))) (hts _ (x_wb_mem (i := 86) (by decide +kernel))) h1 hA, h2⟩
theorem x_stC {args : Array Value} {s : State} (hn : (Jvm.Cond.and given_1 narrow_1).before args s = true) (hts : ∀ w ∈ lw_tbl, w.before args s = true) : va_Z "java/lang/String" "COMPACT_STRINGS" "Z" (.int 1) (x_A s.heap.size) s s.heap :=
  va_Zof (hts _ (x_wb_mem (i := 181) (by decide +kernel))) (hts _ (x_wb_mem (i := 75) (by decide +kernel))) (va_eqi (x_nb_use hn (i := 4) (by decide +kernel))) (fun a h q => absurd h (Nat.not_lt.mpr q))
theorem x_stF {args : Array Value} {s : State} (hn : (Jvm.Cond.and given_1 narrow_1).before args s = true) (hts : ∀ w ∈ lw_tbl, w.before args s = true) : va_Zq "jdk/internal/util/Preconditions" "SIOOBE_FORMATTER" "Ljava/util/function/BiFunction;" (x_A s.heap.size) s s.heap :=
  va_Zqof (hts _ (x_wb_mem (i := 197) (by decide +kernel))) (hts _ (x_wb_mem (i := 77) (by decide +kernel))) (x_nb_use hn (i := 5) (by decide +kernel)) (fun a h q => absurd h (Nat.not_lt.mpr q))
theorem x_stS {args : Array Value} {s : State} (hn : (Jvm.Cond.and given_1 narrow_1).before args s = true) : ∃ adK adV : Nat → Nat, vk_S 14 ((List.range 14).map (fun i => (x_sbyt i).length)) ((List.range 14).map x_sbyt) adK adV (x_A s.heap.size) s s.heap ∧ ∀ i : Nat, i < 14 → (x_stm i).eval args s none [] s = some (.ref (adK i)) := by
  have hb : ∀ i, i < 14 → x_spB i = true := fun i hi => List.all_eq_true.mp x_spOk i (List.mem_range.mpr hi)
  refine vk_Sof (fun i hi => ?_) (fun i hi => ?_) (fun i hi => ?_) (fun i hi => ?_) (fun i hi => ?_) (fun i hi j hj => ?_) (fun i j hi hj hne => ?_) (fun a h q => absurd h (Nat.not_lt.mpr q))
  all_goals first | (have h0 := hb i hi; simp only [x_spB, Bool.and_eq_true, List.all_eq_true, List.mem_range, decide_eq_true_eq] at h0; obtain ⟨⟨⟨⟨⟨p1, p2⟩, p3⟩, p4⟩, p5⟩, p6⟩ := h0)
  · rw [(x_byts i hi).1]; omega
  · exact x_nb_use hn p1
  · exact x_nb_use hn p2
  · exact x_nb_use hn p3
  · rw [(x_byts i hi).1]; exact x_nb_use hn p4
  · rw [(x_byts i hi).1] at hj
    rw [(x_byts i hi).2]
    exact x_nb_use hn (p5 j hj)
  · have h1 := List.all_eq_true.mp (List.all_eq_true.mp x_ppOk i (List.mem_range.mpr hi)) j (List.mem_range.mpr hj)
    simp only [Bool.or_eq_true, decide_eq_true_eq] at h1
    rcases h1 with (z | z) | z
    · exact absurd z hne
    · exact Or.inl (x_nb_use hn z)
    · exact Or.inr (x_nb_use hn z)
theorem x_stK {args : Array Value} {s : State} (hts : ∀ w ∈ lw_tbl, w.before args s = true) : ∃ (D : va_G) (cA : Nat → ClassId), va_K D x_cl (x_tys cA) s := by
  have h9 : ∀ k, ∃ q : ClassId × (Nat → Nat), k < 9 → u_Kn s (x_own k) (x_T k) (x_nf k) q.1 q.2 := by
    intro k
    by_cases hk : k < 9
    · obtain ⟨c, iS, h⟩ := u_known (ws := lw_tbl) (n := x_nf k) hts (fun w hw => (List.mem_filter.mp (x_u_in hk w hw)).1) (hts _ (x_wb_mem (List.all_eq_true.mp x_ipOk k (List.mem_range.mpr hk))))
      exact ⟨(c, iS), fun _ => h⟩
    · exact ⟨(0, fun _ => 0), fun q => absurd q hk⟩
  obtain ⟨f, hf⟩ := Classical.axiomOfChoice h9
  have hI : ∃ c : ClassId, ArrOfT s c .int ∧ va_RA s c .int := by
    obtain ⟨c, k, comp, h1, h2, h3⟩ := Cond.arrayClass_spec (args := args) (first := s) (o := none) (s := s) (idx := []) (hts (.arrayClass .int) (x_wb_mem (i := 139) (by decide +kernel)))
    exact ⟨c, fun n z => ⟨(fun k h => by cases h), k, h2, comp, h3⟩, h1⟩
  have hO : ∀ C : String, (Cond.arrayOver (.object C)) ∈ lw_tbl → ∃ c : ClassId, ArrOfT s c (.object C) ∧ va_RA s c (.object C) := by
    intro C hC
    obtain ⟨comp, c, k, h1, -, h2, h3, h4⟩ := Cond.arrayOver_spec (args := args) (first := s) (o := none) (s := s) (idx := []) (hts _ hC)
    exact ⟨c, fun n z => ⟨(fun k h => by cases h), k, h2, comp, h3⟩, k, comp, h2, h3, h1, h4⟩
  obtain ⟨c0, a0⟩ := hI
  obtain ⟨c1, a1⟩ := hO (x_own 2) (x_wb_mem (i := 141) (by decide +kernel))
  obtain ⟨c2, a2⟩ := hO (x_own 4) (x_wb_mem (i := 143) (by decide +kernel))
  obtain ⟨c3, a3⟩ := hO (x_own 5) (x_wb_mem (i := 489) (by decide +kernel))
  refine ⟨(fun k => (f k).1, fun k => (f k).2), fun k => [c0, c1, c2, c3].getD k 0, fun k q hq => ?_, fun k q hq => ?_⟩
  · have hk : k < 9 := (List.getElem?_eq_some_iff.mp hq).1
    rw [x_cl_at k hk] at hq
    cases hq
    exact hf k hk
  · match k, hq with
    | 0, hq => cases hq; exact a0
    | 1, hq => cases hq; exact a1
    | 2, hq => cases hq; exact a2
    | 3, hq => cases hq; exact a3
    | k + 4, hq => simp [x_tys] at hq
def x_w0 : x_W := ([], fun _ _ => 0, fun _ _ => .null)
/-- the law's walk, from a run of the interpreter -/
theorem x_law {p : Program} {e : Env} {s : State} {m : MethodId} {below : List Frame} {meth : Method} {c : Code} (l : Launch) {b L : Nat} {xs : Nat → Int32} (C0 : lw_At p s m meth c b L xs) {n : Nat} {w' : x_W} (hrun : x_exec L xs n 900 0 0 (x_loc 0 [.ref 999]) [] x_w0 = some (some (.int 1), w')) (h9 : w'.1.length ≤ 900) : W p l e room_1 s m #[Value.ref b] below meth c s.heap [] 0 0 (lw_Z below #[Value.ref b] s) (entryFrame m ([Value.ref b] : List Value).toArray 4) := by
  obtain ⟨hx, hb, hr, hml, hown, hts, hX, hbl, hlocks, hgv⟩ := id C0
  obtain ⟨t6, z6, T6⟩ := x_stIS hgv hts
  obtain ⟨t7, z7, T7⟩ := x_stSTEPS hgv hts
  obtain ⟨adK, adV, hS, hSe⟩ := x_stS hgv
  obtain ⟨D, cA, hK⟩ := x_stK hts
  obtain ⟨f8, hf8⟩ : ∃ f8 : Nat, va_Z "jdk/internal/util/Preconditions" "SIOOBE_FORMATTER" "Ljava/util/function/BiFunction;" (match f8 with | 0 => .null | k + 1 => .ref k) (x_A s.heap.size) s s.heap := by
    rcases x_stF hgv hts with h | ⟨t, h⟩
    · exact ⟨0, h⟩
    · exact ⟨t + 1, h⟩
  obtain ⟨ro, r9, r8, r7, r6, rK, rV⟩ : ∃ ro : Nat → Nat, ro 999 = b ∧ ro 998 = f8 ∧ ro 997 = t7 ∧ ro 996 = t6 ∧ (fun i => ro (1000 + 2 * i)) = adK ∧ (fun i => ro (1001 + 2 * i)) = adV := by
    refine ⟨fun k => if k = 999 then b else if k = 998 then f8 else if k = 997 then t7 else if k = 996 then t6 else if k % 2 = 0 then adK ((k - 1000) / 2) else adV ((k - 1001) / 2), rfl, rfl, rfl, rfl, ?_, ?_⟩
    · funext i
      dsimp only
      rw [if_neg (by omega), if_neg (by omega), if_neg (by omega), if_neg (by omega), if_pos (by omega)]
      congr 1; omega
    · funext i
      dsimp only
      rw [if_neg (by omega), if_neg (by omega), if_neg (by omega), if_neg (by omega), if_neg (by omega)]
      congr 1; omega
  have hRO : x_RO s.heap.size ro L xs s s.heap := by
    unfold x_RO x_fv
    rw [r9, r8, r7, r6, rK, rV]
    exact ⟨⟨hX, hbl, hbl⟩, x_stC hgv hts, hf8, ⟨z6, T6⟩, ⟨z7, T7⟩, hS⟩
  have hVM : x_VM ro s := by
    refine ⟨fun w hw hbad => ?_, fun q hq => ?_⟩
    · have h := hts w hw
      cases w with
      | methodLinkNest a i x hh => exact va_Nw.of rfl h
      | castable a b => exact va_Nw.of rfl h
      | arrayOver ty =>
        cases ty with
        | object C => exact va_AO.of h
        | _ => cases hbad
      | _ => cases hbad
    · have h1 := List.all_eq_true.mp x_ksOk q hq
      have h2 := of_decide_eq_true (List.all_eq_true.mp x_ksOk2 q hq)
      obtain ⟨⟨oc, idx⟩, i, ps⟩ := q
      unfold x_ksB at h1
      split at h1
      · rename_i a heq
        cases heq
        simp only [Bool.and_eq_true, decide_eq_true_eq] at h1
        have h3 := hSe i h1.1
        have h2' : x_stm i = .string (x_own oc) idx := h2
        rw [h2'] at h3
        have e0 : ro (1000 + 2 * i) = adK i := congrFun rK i
        show vk_R (x_own oc) idx (x_stx i) (ro (1000 + 2 * i)) s
        rw [e0]
        exact vk_R.of (hts _ (List.mem_of_getElem? h1.2)) h3
      · cases h1
  have C : x_MC p room_1 s m #[Value.ref b] meth c 0 900 w'.1.length s.heap.size ro L xs D cA := by
    refine ⟨hx, hb, hml, hown, fun w hw => hts w (List.mem_filter.mp hw).1, ⟨hRO, hVM, hK⟩, Nat.le_refl _, fun q => absurd q (by decide +kernel), by decide +kernel, by decide +kernel, ?_, ?_⟩
    · show s.heap.size + w'.1.length - s.heap.size ≤ 600000
      omega
    · show 2000 * (s.heap.size + w'.1.length - s.heap.size) ≤ 7302250
      omega
  have hl0 : x_L s.heap.size ro (x_loc 0 [.ref 999]) ((lg_sl [Value.ref b] ++ List.replicate (4 - (lg_sl [Value.ref b]).length) Slot.unset).toArray) 4 := by
    have h := x_L_entry s.heap.size ro 0 [.ref 999] (by decide +kernel)
    have e0 : x_tr s.heap.size ro (.ref 999) = .ref b := by rw [x_trRo (by decide), r9]
    rw [List.map_cons, List.map_nil, e0] at h
    exact h
  rw [lg_entry_eq]
  have hJ := x_body l L xs s.heap.size ro D cA n 900 0 0 _ _ _ _ _ hrun p e room_1 s m #[Value.ref b] below meth c (lw_Z below #[Value.ref b] s) w'.1.length C (Nat.le_refl _) ?_
  · refine hJ s.heap [] _ 0 0 ⟨rfl, Nat.zero_le _, fun k q hq => ?_, hl0, va_S.rf, rfl, Nat.le_refl _⟩
    rw [x_ws_at] at hq
    cases hq
  · intro pc al st i len hd hl hr H locs ls cells slots ok
    obtain ⟨q1, q2, q3, q4, q5, q6, q7⟩ := ok
    refine va_forget q5.2.2 ?_
    refine W.widen (k := 600000) (n := 7302250) (by omega) (by omega) ?_
    unfold x_ret at hr
    split at hr
    · split at hr <;> cases hr
    · split at hr
      · split at hr
        · cases hr
          (have e1 : len = 1 := eq_of_beq hl); subst e1
          exact lw_ret hx hb hr hlocks hd
        · cases hr
      · cases hr
    · split at hr <;> cases hr
    · split at hr <;> cases hr
    · cases hr
