/-! ===== frames: what a run leaves alone; what stands between the calls, in short ===== -/
def isK (b : Nat) : Bool := (b == 13 || Nat.ble 66 b) && b % 4 == 1
/-- what may change: the cells of a list, whether distances are known, the stacks of laws -/
def sc (l : List Nat) (b k : Nat) : Bool := l.elem b || (b == 23 && k == 6) || isK b
def Ch (P : Nat → Nat → Bool) (w w' : x_W) : Prop := w'.1 = w.1 ∧ w'.2.2 = w.2.2 ∧ ∀ b k, P b k = false → x_i w' b k = x_i w b k
section
variable {P : Nat → Nat → Bool} {w w' w'' : x_W}
theorem Ch.refl : Ch P w w := ⟨rfl, rfl, fun _ _ _ => rfl⟩
theorem Ch.trans (h : Ch P w w') (h' : Ch P w' w'') : Ch P w w'' := ⟨h'.1.trans h.1, h'.2.1.trans h.2.1, fun b k hb => (h'.2.2 b k hb).trans (h.2.2 b k hb)⟩
theorem Ch.mono {P' : Nat → Nat → Bool} (h : Ch P w w') (hp : ∀ b k, P' b k = false → P b k = false) : Ch P' w w' := ⟨h.1, h.2.1, fun b k hb => h.2.2 b k (hp b k hb)⟩
theorem Ch.i (h : Ch P w w') {b : Nat} (hb : ∀ k, P b k = false) : x_i w' b = x_i w b := funext fun k => h.2.2 b k (hb k)
theorem Ch.r (h : Ch P w w') (b : Nat) : x_r w' b = x_r w b := congrFun h.2.1 b
theorem Ch.t (h : Ch P w w') (b : Nat) : x_tag w' b = x_tag w b := by unfold x_tag; rw [h.1]
theorem Ch.sh (h : Ch P w w') (hs : Sh w) : Sh w' := by unfold Sh at *; rw [h.1, h.2.1]; exact hs
theorem Ch.sd (h : Ch P w w') (hd : Sd w) : Sd w' := by unfold Sd at *; rw [h.r]; exact hd
theorem Ch_sI {a : Nat} {f : Nat → Int32} (hP : ∀ k, P a k = true) : Ch P w (x_sI w a f) := ⟨rfl, rfl, fun b k hb => by
  have hne : b ≠ a := fun q => by subst q; rw [hP k] at hb; exact Bool.noConfusion hb
  rw [x_i_sIn _ _ _ hne]⟩
theorem Ch_si {a k : Nat} {v : Int32} (hP : P a k = true) : Ch P w (x_si w a k v) := ⟨rfl, rfl, fun b j hb => by
  unfold x_si
  by_cases hne : b = a
  · subst hne
    rw [x_i_sI]
    unfold upd
    rw [if_neg]
    intro q
    subst q
    rw [hP] at hb
    exact Bool.noConfusion hb
  · rw [x_i_sIn _ _ _ hne]⟩
end
def SA : List Nat := [25, 26, 27, 28, 31, 32, 33, 34, 57, 58, 59, 60, 61, 62, 63, 64, 65]
theorem sc_sub {l m : List Nat} (h : ∀ x, l.elem x = true → m.elem x = true) {b k : Nat} (hb : sc m b k = false) : sc l b k = false := by
  unfold sc at *
  rw [Bool.or_eq_false_iff, Bool.or_eq_false_iff] at *
  refine ⟨⟨?_, hb.1.2⟩, hb.2⟩
  cases hl : l.elem b with
  | false => rfl
  | true => rw [h b hl] at hb; exact absurd hb.1.1 (by decide)
theorem elem_sub {l m : List Nat} (h : (l.all fun x => m.elem x) = true) : ∀ x, l.elem x = true → m.elem x = true := by
  intro x hx
  exact List.all_eq_true.mp h x (List.elem_iff.mp hx)
theorem Ch.up {l m : List Nat} {w w' : x_W} (h : Ch (sc l) w w') (hl : (l.all fun x => m.elem x) = true) : Ch (sc m) w w' := h.mono fun _ _ hb => sc_sub (elem_sub hl) hb
abbrev ChA (w w' : x_W) : Prop := Ch (sc SA) w w'
theorem Ch.a {l : List Nat} {w w' : x_W} (h : Ch (sc l) w w') (hl : (l.all fun x => SA.elem x) = true) : ChA w w' := h.up hl
theorem ChA.i {w w' : x_W} (h : ChA w w') {b : Nat} (hb : ∀ k, sc SA b k = false) : x_i w' b = x_i w b := Ch.i h hb
section
variable {w w' : x_W} {S : Nat} {kd td mo kt : Nat → Nat}
theorem CX.ch (h : CX w S kd td mo kt) (hc : ChA w w') : CX w' S kd td mo kt := by
  refine ⟨hc.sh h.sh, hc.sd h.sd, ?_, h.S6, ?_, h.bd, ?_⟩
  · rw [hc.2.2 22 4 rfl]; exact h.hS
  · refine ⟨fun s hs => ?_, fun s hs => ?_⟩
    · have h1 := h.X.1 s hs
      have hi : x_i w' (35 + s) = x_i w (35 + s) := hc.i (by
        intro k
        rcases (by omega : s = 0 ∨ s = 1 ∨ s = 2 ∨ s = 3 ∨ s = 4 ∨ s = 5) with rfl | rfl | rfl | rfl | rfl | rfl <;> rfl)
      rw [hi, hc.i (fun k => rfl : ∀ k, sc SA 30 k = false)]
      exact h1
    · have h1 := h.X.2 s hs
      have h6 := h.S6
      have hi : x_i w' (35 + s) = x_i w (35 + s) := hc.i (by
        intro k
        rcases (by omega : s = 0 ∨ s = 1 ∨ s = 2 ∨ s = 3 ∨ s = 4 ∨ s = 5) with rfl | rfl | rfl | rfl | rfl | rfl <;> rfl)
      rw [hi]
      exact h1
  · rw [hc.i (fun k => rfl : ∀ k, sc SA 24 k = false)]; exact h.nb
theorem CM.ch (h : CM w S kd td mo kt) (hc : ChA w w') : CM w' S kd td mo kt := by
  refine ⟨hc.sh h.sh, ?_, h.S6, ?_⟩
  · rw [hc.2.2 41 2 rfl]; exact h.hS
  · intro s hs
    rw [hc.i (fun k => rfl : ∀ k, sc SA 43 k = false), hc.i (fun k => rfl : ∀ k, sc SA 44 k = false), hc.i (fun k => rfl : ∀ k, sc SA 45 k = false), hc.i (fun k => rfl : ∀ k, sc SA 46 k = false)]
    exact h.M s hs
end
/-- where a part of a text begins -/
def offT (tl : Nat → Nat) (p : Nat) : Nat := sumT tl p
/-- a law's cell: the first text's, or one behind the objects -/
def lawC (a : Nat) : Prop := a = 10 ∨ (66 ≤ a ∧ a % 4 = 2 ∧ a < 90)
/-- the class obeys a law of parts tk of tl signs -/
def LwX (w : x_W) (tl : Nat → Nat) (tk : Nat → Nat → Nat) : Prop := ∃ a n, lawC a ∧ LawW w a (a + 1) (a + 2) (a + 3) n ∧ ∀ p, p < 3 → PartX w (a + 1) (a + 2) n p (offT tl p) (offT tl p + tl p) (tk p) ∧ WfP (tk p) (tl p)
/-- so does the reference -/
def LwM (w : x_W) (tl : Nat → Nat) (tk : Nat → Nat → Nat) : Prop := ∃ r, r < 6 ∧ x_i w 41 12 = nI r ∧ ∀ p, p < 3 → PartM w r p (offT tl p) (offT tl p + tl p) (tk p) ∧ WfP (tk p) (tl p)
theorem sc_law {a : Nat} (ha : lawC a) (k : Nat) : sc SA (a + 1) k = false ∧ sc SA (a + 2) k = false ∧ sc SA a k = false := by
  rcases ha with rfl | ⟨h1, h2, h3⟩
  · exact ⟨rfl, rfl, rfl⟩
  · have key : ∀ b, 66 ≤ b → b % 4 ≠ 1 → sc SA b k = false := by
      intro b hb hm
      unfold sc isK
      have e1 : SA.elem b = false := by
        cases hq : SA.elem b with
        | false => rfl
        | true =>
          have := List.elem_iff.mp hq
          simp only [SA, List.mem_cons, List.not_mem_nil, or_false] at this
          omega
      have e2 : (b == 23) = false := by rw [beq_eq_false_iff_ne]; omega
      have e3 : (b % 4 == 1) = false := by rw [beq_eq_false_iff_ne]; omega
      rw [e1, e2, e3]
      simp
    exact ⟨key _ (by omega) (by omega), key _ (by omega) (by omega), key _ h1 (by omega)⟩
section
variable {w w' : x_W} {tl : Nat → Nat} {tk : Nat → Nat → Nat}
theorem LawX.ch {a A E K n : Nat} (h : LawX w a A E K n) (hc : ChA w w') : LawX w' a A E K n := by
  unfold LawX at *
  rw [hc.t, hc.t, hc.t, hc.t, hc.r]
  exact h
theorem LwX.ch (h : LwX w tl tk) (hc : ChA w w') : LwX w' tl tk := by
  obtain ⟨a, n, ha, hl, hp⟩ := h
  refine ⟨a, n, ha, ⟨hl.1.ch hc, hl.2.1, hl.2.2.1, by rw [hc.r]; exact hl.2.2.2⟩, fun p p3 => ?_⟩
  unfold PartX
  rw [hc.i (fun k => (sc_law ha k).1), hc.i (fun k => (sc_law ha k).2.1)]
  exact hp p p3
theorem LwM.ch (h : LwM w tl tk) (hc : ChA w w') : LwM w' tl tk := by
  obtain ⟨r, r6, hr, hp⟩ := h
  refine ⟨r, r6, by rw [hc.2.2 41 12 rfl]; exact hr, fun p p3 => ?_⟩
  unfold PartM
  rw [hc.i (fun k => rfl : ∀ k, sc SA 49 k = false), hc.i (fun k => rfl : ∀ k, sc SA 48 k = false)]
  exact hp p p3
theorem FarOk.ch {l : List Nat} (h : FarOk w) (hc : Ch (sc l) w w') (h28 : l.elem 28 = false) (h24 : l.elem 24 = false) (h6 : x_i w' 23 6 = x_i w 23 6) : FarOk w' := by
  have e28 : x_i w' 28 = x_i w 28 := hc.i (fun k => by unfold sc; rw [h28]; rfl)
  have e24 : x_i w' 24 = x_i w 24 := hc.i (fun k => by unfold sc; rw [h24]; rfl)
  unfold FarOk at *
  rw [h6, e28, e24]
  exact h
end
/-- the class's standing for a question -/
def EX (w : x_W) (S : Nat) (kd td mo kt tl : Nat → Nat) (tk : Nat → Nat → Nat) : Prop := CX w S kd td mo kt ∧ LwX w tl tk ∧ FarOk w
/-- the reference's -/
def EM (w : x_W) (S : Nat) (kd td mo kt tl : Nat → Nat) (tk : Nat → Nat → Nat) : Prop := CM w S kd td mo kt ∧ LwM w tl tk
section
variable {w w' : x_W} {S : Nat} {kd td mo kt tl : Nat → Nat} {tk : Nat → Nat → Nat}
theorem EX.ch (h : EX w S kd td mo kt tl tk) (hc : ChA w w') (hf : FarOk w') : EX w' S kd td mo kt tl tk := ⟨h.1.ch hc, h.2.1.ch hc, hf⟩
theorem EM.ch (h : EM w S kd td mo kt tl tk) (hc : ChA w w') : EM w' S kd td mo kt tl tk := ⟨h.1.ch hc, h.2.ch hc⟩
theorem EX.sh (h : EX w S kd td mo kt tl tk) : Sh w := h.1.sh
theorem EM.sh (h : EM w S kd td mo kt tl tk) : Sh w := h.1.sh
theorem EX.C (h : ChA w w') : x_i w' 24 = x_i w 24 := h.i (fun _ => rfl)
theorem EM.C (h : ChA w w') : x_i w' 42 = x_i w 42 := h.i (fun _ => rfl)
end
