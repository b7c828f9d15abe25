/-! ===== rolling: the deepest beside, on both sides ===== -/
def nbG {α : Type} (g : Nat → α → α) (k d : Nat) (q : α) : α := match nb k d with | some o => g o q | none => q
theorem nbr {α : Type} {g : Nat → α → α} (p : α) : ∀ k, k < 20 → (∀ o, o < 20 → besN k o = false → ∀ q, g o q = q) → fo g 20 p = fo (nbG g k) 4 p := by
  intro k hk h
  match k, hk with
  | 0, _ =>
    show g 19 (g 18 (g 17 (g 16 (g 15 (g 14 (g 13 (g 12 (g 11 (g 10 (g 9 (g 8 (g 7 (g 6 (g 5 (g 4 (g 3 (g 2 (g 1 (g 0 p))))))))))))))))))) = g 5 (g 1 p)
    simp only [h 0 (by decide) (by decide), h 2 (by decide) (by decide), h 3 (by decide) (by decide), h 4 (by decide) (by decide), h 6 (by decide) (by decide), h 7 (by decide) (by decide), h 8 (by decide) (by decide), h 9 (by decide) (by decide), h 10 (by decide) (by decide), h 11 (by decide) (by decide), h 12 (by decide) (by decide), h 13 (by decide) (by decide), h 14 (by decide) (by decide), h 15 (by decide) (by decide), h 16 (by decide) (by decide), h 17 (by decide) (by decide), h 18 (by decide) (by decide), h 19 (by decide) (by decide)]
  | 1, _ =>
    show g 19 (g 18 (g 17 (g 16 (g 15 (g 14 (g 13 (g 12 (g 11 (g 10 (g 9 (g 8 (g 7 (g 6 (g 5 (g 4 (g 3 (g 2 (g 1 (g 0 p))))))))))))))))))) = g 6 (g 2 (g 0 p))
    simp only [h 1 (by decide) (by decide), h 3 (by decide) (by decide), h 4 (by decide) (by decide), h 5 (by decide) (by decide), h 7 (by decide) (by decide), h 8 (by decide) (by decide), h 9 (by decide) (by decide), h 10 (by decide) (by decide), h 11 (by decide) (by decide), h 12 (by decide) (by decide), h 13 (by decide) (by decide), h 14 (by decide) (by decide), h 15 (by decide) (by decide), h 16 (by decide) (by decide), h 17 (by decide) (by decide), h 18 (by decide) (by decide), h 19 (by decide) (by decide)]
  | 2, _ =>
    show g 19 (g 18 (g 17 (g 16 (g 15 (g 14 (g 13 (g 12 (g 11 (g 10 (g 9 (g 8 (g 7 (g 6 (g 5 (g 4 (g 3 (g 2 (g 1 (g 0 p))))))))))))))))))) = g 7 (g 3 (g 1 p))
    simp only [h 0 (by decide) (by decide), h 2 (by decide) (by decide), h 4 (by decide) (by decide), h 5 (by decide) (by decide), h 6 (by decide) (by decide), h 8 (by decide) (by decide), h 9 (by decide) (by decide), h 10 (by decide) (by decide), h 11 (by decide) (by decide), h 12 (by decide) (by decide), h 13 (by decide) (by decide), h 14 (by decide) (by decide), h 15 (by decide) (by decide), h 16 (by decide) (by decide), h 17 (by decide) (by decide), h 18 (by decide) (by decide), h 19 (by decide) (by decide)]
  | 3, _ =>
    show g 19 (g 18 (g 17 (g 16 (g 15 (g 14 (g 13 (g 12 (g 11 (g 10 (g 9 (g 8 (g 7 (g 6 (g 5 (g 4 (g 3 (g 2 (g 1 (g 0 p))))))))))))))))))) = g 8 (g 4 (g 2 p))
    simp only [h 0 (by decide) (by decide), h 1 (by decide) (by decide), h 3 (by decide) (by decide), h 5 (by decide) (by decide), h 6 (by decide) (by decide), h 7 (by decide) (by decide), h 9 (by decide) (by decide), h 10 (by decide) (by decide), h 11 (by decide) (by decide), h 12 (by decide) (by decide), h 13 (by decide) (by decide), h 14 (by decide) (by decide), h 15 (by decide) (by decide), h 16 (by decide) (by decide), h 17 (by decide) (by decide), h 18 (by decide) (by decide), h 19 (by decide) (by decide)]
  | 4, _ =>
    show g 19 (g 18 (g 17 (g 16 (g 15 (g 14 (g 13 (g 12 (g 11 (g 10 (g 9 (g 8 (g 7 (g 6 (g 5 (g 4 (g 3 (g 2 (g 1 (g 0 p))))))))))))))))))) = g 9 (g 5 (g 3 p))
    simp only [h 0 (by decide) (by decide), h 1 (by decide) (by decide), h 2 (by decide) (by decide), h 4 (by decide) (by decide), h 5 (by decide) (by decide), h 6 (by decide) (by decide), h 7 (by decide) (by decide), h 8 (by decide) (by decide), h 10 (by decide) (by decide), h 11 (by decide) (by decide), h 12 (by decide) (by decide), h 13 (by decide) (by decide), h 14 (by decide) (by decide), h 15 (by decide) (by decide), h 16 (by decide) (by decide), h 17 (by decide) (by decide), h 18 (by decide) (by decide), h 19 (by decide) (by decide)]
  | 5, _ =>
    show g 19 (g 18 (g 17 (g 16 (g 15 (g 14 (g 13 (g 12 (g 11 (g 10 (g 9 (g 8 (g 7 (g 6 (g 5 (g 4 (g 3 (g 2 (g 1 (g 0 p))))))))))))))))))) = g 10 (g 6 (g 4 (g 0 p)))
    simp only [h 1 (by decide) (by decide), h 2 (by decide) (by decide), h 3 (by decide) (by decide), h 4 (by decide) (by decide), h 5 (by decide) (by decide), h 7 (by decide) (by decide), h 8 (by decide) (by decide), h 9 (by decide) (by decide), h 11 (by decide) (by decide), h 12 (by decide) (by decide), h 13 (by decide) (by decide), h 14 (by decide) (by decide), h 15 (by decide) (by decide), h 16 (by decide) (by decide), h 17 (by decide) (by decide), h 18 (by decide) (by decide), h 19 (by decide) (by decide)]
  | 6, _ =>
    show g 19 (g 18 (g 17 (g 16 (g 15 (g 14 (g 13 (g 12 (g 11 (g 10 (g 9 (g 8 (g 7 (g 6 (g 5 (g 4 (g 3 (g 2 (g 1 (g 0 p))))))))))))))))))) = g 11 (g 7 (g 5 (g 1 p)))
    simp only [h 0 (by decide) (by decide), h 2 (by decide) (by decide), h 3 (by decide) (by decide), h 4 (by decide) (by decide), h 6 (by decide) (by decide), h 8 (by decide) (by decide), h 9 (by decide) (by decide), h 10 (by decide) (by decide), h 12 (by decide) (by decide), h 13 (by decide) (by decide), h 14 (by decide) (by decide), h 15 (by decide) (by decide), h 16 (by decide) (by decide), h 17 (by decide) (by decide), h 18 (by decide) (by decide), h 19 (by decide) (by decide)]
  | 7, _ =>
    show g 19 (g 18 (g 17 (g 16 (g 15 (g 14 (g 13 (g 12 (g 11 (g 10 (g 9 (g 8 (g 7 (g 6 (g 5 (g 4 (g 3 (g 2 (g 1 (g 0 p))))))))))))))))))) = g 12 (g 8 (g 6 (g 2 p)))
    simp only [h 0 (by decide) (by decide), h 1 (by decide) (by decide), h 3 (by decide) (by decide), h 4 (by decide) (by decide), h 5 (by decide) (by decide), h 7 (by decide) (by decide), h 9 (by decide) (by decide), h 10 (by decide) (by decide), h 11 (by decide) (by decide), h 13 (by decide) (by decide), h 14 (by decide) (by decide), h 15 (by decide) (by decide), h 16 (by decide) (by decide), h 17 (by decide) (by decide), h 18 (by decide) (by decide), h 19 (by decide) (by decide)]
  | 8, _ =>
    show g 19 (g 18 (g 17 (g 16 (g 15 (g 14 (g 13 (g 12 (g 11 (g 10 (g 9 (g 8 (g 7 (g 6 (g 5 (g 4 (g 3 (g 2 (g 1 (g 0 p))))))))))))))))))) = g 13 (g 9 (g 7 (g 3 p)))
    simp only [h 0 (by decide) (by decide), h 1 (by decide) (by decide), h 2 (by decide) (by decide), h 4 (by decide) (by decide), h 5 (by decide) (by decide), h 6 (by decide) (by decide), h 8 (by decide) (by decide), h 10 (by decide) (by decide), h 11 (by decide) (by decide), h 12 (by decide) (by decide), h 14 (by decide) (by decide), h 15 (by decide) (by decide), h 16 (by decide) (by decide), h 17 (by decide) (by decide), h 18 (by decide) (by decide), h 19 (by decide) (by decide)]
  | 9, _ =>
    show g 19 (g 18 (g 17 (g 16 (g 15 (g 14 (g 13 (g 12 (g 11 (g 10 (g 9 (g 8 (g 7 (g 6 (g 5 (g 4 (g 3 (g 2 (g 1 (g 0 p))))))))))))))))))) = g 14 (g 10 (g 8 (g 4 p)))
    simp only [h 0 (by decide) (by decide), h 1 (by decide) (by decide), h 2 (by decide) (by decide), h 3 (by decide) (by decide), h 5 (by decide) (by decide), h 6 (by decide) (by decide), h 7 (by decide) (by decide), h 9 (by decide) (by decide), h 10 (by decide) (by decide), h 11 (by decide) (by decide), h 12 (by decide) (by decide), h 13 (by decide) (by decide), h 15 (by decide) (by decide), h 16 (by decide) (by decide), h 17 (by decide) (by decide), h 18 (by decide) (by decide), h 19 (by decide) (by decide)]
  | 10, _ =>
    show g 19 (g 18 (g 17 (g 16 (g 15 (g 14 (g 13 (g 12 (g 11 (g 10 (g 9 (g 8 (g 7 (g 6 (g 5 (g 4 (g 3 (g 2 (g 1 (g 0 p))))))))))))))))))) = g 15 (g 11 (g 9 (g 5 p)))
    simp only [h 0 (by decide) (by decide), h 1 (by decide) (by decide), h 2 (by decide) (by decide), h 3 (by decide) (by decide), h 4 (by decide) (by decide), h 6 (by decide) (by decide), h 7 (by decide) (by decide), h 8 (by decide) (by decide), h 9 (by decide) (by decide), h 10 (by decide) (by decide), h 12 (by decide) (by decide), h 13 (by decide) (by decide), h 14 (by decide) (by decide), h 16 (by decide) (by decide), h 17 (by decide) (by decide), h 18 (by decide) (by decide), h 19 (by decide) (by decide)]
  | 11, _ =>
    show g 19 (g 18 (g 17 (g 16 (g 15 (g 14 (g 13 (g 12 (g 11 (g 10 (g 9 (g 8 (g 7 (g 6 (g 5 (g 4 (g 3 (g 2 (g 1 (g 0 p))))))))))))))))))) = g 16 (g 12 (g 10 (g 6 p)))
    simp only [h 0 (by decide) (by decide), h 1 (by decide) (by decide), h 2 (by decide) (by decide), h 3 (by decide) (by decide), h 4 (by decide) (by decide), h 5 (by decide) (by decide), h 7 (by decide) (by decide), h 8 (by decide) (by decide), h 9 (by decide) (by decide), h 11 (by decide) (by decide), h 13 (by decide) (by decide), h 14 (by decide) (by decide), h 15 (by decide) (by decide), h 17 (by decide) (by decide), h 18 (by decide) (by decide), h 19 (by decide) (by decide)]
  | 12, _ =>
    show g 19 (g 18 (g 17 (g 16 (g 15 (g 14 (g 13 (g 12 (g 11 (g 10 (g 9 (g 8 (g 7 (g 6 (g 5 (g 4 (g 3 (g 2 (g 1 (g 0 p))))))))))))))))))) = g 17 (g 13 (g 11 (g 7 p)))
    simp only [h 0 (by decide) (by decide), h 1 (by decide) (by decide), h 2 (by decide) (by decide), h 3 (by decide) (by decide), h 4 (by decide) (by decide), h 5 (by decide) (by decide), h 6 (by decide) (by decide), h 8 (by decide) (by decide), h 9 (by decide) (by decide), h 10 (by decide) (by decide), h 12 (by decide) (by decide), h 14 (by decide) (by decide), h 15 (by decide) (by decide), h 16 (by decide) (by decide), h 18 (by decide) (by decide), h 19 (by decide) (by decide)]
  | 13, _ =>
    show g 19 (g 18 (g 17 (g 16 (g 15 (g 14 (g 13 (g 12 (g 11 (g 10 (g 9 (g 8 (g 7 (g 6 (g 5 (g 4 (g 3 (g 2 (g 1 (g 0 p))))))))))))))))))) = g 18 (g 14 (g 12 (g 8 p)))
    simp only [h 0 (by decide) (by decide), h 1 (by decide) (by decide), h 2 (by decide) (by decide), h 3 (by decide) (by decide), h 4 (by decide) (by decide), h 5 (by decide) (by decide), h 6 (by decide) (by decide), h 7 (by decide) (by decide), h 9 (by decide) (by decide), h 10 (by decide) (by decide), h 11 (by decide) (by decide), h 13 (by decide) (by decide), h 15 (by decide) (by decide), h 16 (by decide) (by decide), h 17 (by decide) (by decide), h 19 (by decide) (by decide)]
  | 14, _ =>
    show g 19 (g 18 (g 17 (g 16 (g 15 (g 14 (g 13 (g 12 (g 11 (g 10 (g 9 (g 8 (g 7 (g 6 (g 5 (g 4 (g 3 (g 2 (g 1 (g 0 p))))))))))))))))))) = g 19 (g 15 (g 13 (g 9 p)))
    simp only [h 0 (by decide) (by decide), h 1 (by decide) (by decide), h 2 (by decide) (by decide), h 3 (by decide) (by decide), h 4 (by decide) (by decide), h 5 (by decide) (by decide), h 6 (by decide) (by decide), h 7 (by decide) (by decide), h 8 (by decide) (by decide), h 10 (by decide) (by decide), h 11 (by decide) (by decide), h 12 (by decide) (by decide), h 14 (by decide) (by decide), h 15 (by decide) (by decide), h 16 (by decide) (by decide), h 17 (by decide) (by decide), h 18 (by decide) (by decide)]
  | 15, _ =>
    show g 19 (g 18 (g 17 (g 16 (g 15 (g 14 (g 13 (g 12 (g 11 (g 10 (g 9 (g 8 (g 7 (g 6 (g 5 (g 4 (g 3 (g 2 (g 1 (g 0 p))))))))))))))))))) = g 16 (g 14 (g 10 p))
    simp only [h 0 (by decide) (by decide), h 1 (by decide) (by decide), h 2 (by decide) (by decide), h 3 (by decide) (by decide), h 4 (by decide) (by decide), h 5 (by decide) (by decide), h 6 (by decide) (by decide), h 7 (by decide) (by decide), h 8 (by decide) (by decide), h 9 (by decide) (by decide), h 11 (by decide) (by decide), h 12 (by decide) (by decide), h 13 (by decide) (by decide), h 14 (by decide) (by decide), h 15 (by decide) (by decide), h 17 (by decide) (by decide), h 18 (by decide) (by decide), h 19 (by decide) (by decide)]
  | 16, _ =>
    show g 19 (g 18 (g 17 (g 16 (g 15 (g 14 (g 13 (g 12 (g 11 (g 10 (g 9 (g 8 (g 7 (g 6 (g 5 (g 4 (g 3 (g 2 (g 1 (g 0 p))))))))))))))))))) = g 17 (g 15 (g 11 p))
    simp only [h 0 (by decide) (by decide), h 1 (by decide) (by decide), h 2 (by decide) (by decide), h 3 (by decide) (by decide), h 4 (by decide) (by decide), h 5 (by decide) (by decide), h 6 (by decide) (by decide), h 7 (by decide) (by decide), h 8 (by decide) (by decide), h 9 (by decide) (by decide), h 10 (by decide) (by decide), h 12 (by decide) (by decide), h 13 (by decide) (by decide), h 14 (by decide) (by decide), h 16 (by decide) (by decide), h 18 (by decide) (by decide), h 19 (by decide) (by decide)]
  | 17, _ =>
    show g 19 (g 18 (g 17 (g 16 (g 15 (g 14 (g 13 (g 12 (g 11 (g 10 (g 9 (g 8 (g 7 (g 6 (g 5 (g 4 (g 3 (g 2 (g 1 (g 0 p))))))))))))))))))) = g 18 (g 16 (g 12 p))
    simp only [h 0 (by decide) (by decide), h 1 (by decide) (by decide), h 2 (by decide) (by decide), h 3 (by decide) (by decide), h 4 (by decide) (by decide), h 5 (by decide) (by decide), h 6 (by decide) (by decide), h 7 (by decide) (by decide), h 8 (by decide) (by decide), h 9 (by decide) (by decide), h 10 (by decide) (by decide), h 11 (by decide) (by decide), h 13 (by decide) (by decide), h 14 (by decide) (by decide), h 15 (by decide) (by decide), h 17 (by decide) (by decide), h 19 (by decide) (by decide)]
  | 18, _ =>
    show g 19 (g 18 (g 17 (g 16 (g 15 (g 14 (g 13 (g 12 (g 11 (g 10 (g 9 (g 8 (g 7 (g 6 (g 5 (g 4 (g 3 (g 2 (g 1 (g 0 p))))))))))))))))))) = g 19 (g 17 (g 13 p))
    simp only [h 0 (by decide) (by decide), h 1 (by decide) (by decide), h 2 (by decide) (by decide), h 3 (by decide) (by decide), h 4 (by decide) (by decide), h 5 (by decide) (by decide), h 6 (by decide) (by decide), h 7 (by decide) (by decide), h 8 (by decide) (by decide), h 9 (by decide) (by decide), h 10 (by decide) (by decide), h 11 (by decide) (by decide), h 12 (by decide) (by decide), h 14 (by decide) (by decide), h 15 (by decide) (by decide), h 16 (by decide) (by decide), h 18 (by decide) (by decide)]
  | 19, _ =>
    show g 19 (g 18 (g 17 (g 16 (g 15 (g 14 (g 13 (g 12 (g 11 (g 10 (g 9 (g 8 (g 7 (g 6 (g 5 (g 4 (g 3 (g 2 (g 1 (g 0 p))))))))))))))))))) = g 18 (g 14 p)
    simp only [h 0 (by decide) (by decide), h 1 (by decide) (by decide), h 2 (by decide) (by decide), h 3 (by decide) (by decide), h 4 (by decide) (by decide), h 5 (by decide) (by decide), h 6 (by decide) (by decide), h 7 (by decide) (by decide), h 8 (by decide) (by decide), h 9 (by decide) (by decide), h 10 (by decide) (by decide), h 11 (by decide) (by decide), h 12 (by decide) (by decide), h 13 (by decide) (by decide), h 15 (by decide) (by decide), h 16 (by decide) (by decide), h 17 (by decide) (by decide), h 19 (by decide) (by decide)]
  | k + 20, hk => exact absurd hk (by omega)
def stB (c : Nat → Bool) (dp : Nat → Nat) (o : Nat) (p : Option Nat) : Option Nat := if c o = true then (match p with | none => some o | some b => if dp b < dp o then some o else some b) else p
def obI (p : Option Nat) : Int32 := match p with | none => -1 | some o => nI o
def okB (p : Option Nat) : Prop := match p with | none => True | some o => o < 20
theorem stB_ok {c : Nat → Bool} {dp : Nat → Nat} {o : Nat} {p : Option Nat} (ho : o < 20) (hp : okB p) : okB (stB c dp o p) := by
  unfold stB
  split
  · cases p with
    | none => exact ho
    | some b => dsimp only; split; exact ho; exact hp
  · exact hp
theorem fo_ok {g : Nat → Option Nat → Option Nat} (h : ∀ o p, o < 20 → okB p → okB (g o p)) : ∀ n, n ≤ 20 → okB (fo g n none) := by
  intro n
  induction n with
  | zero => intro _; exact trivial
  | succ n ih => intro hn; exact h n _ (by omega) (ih (by omega))
theorem nbG_ok {c : Nat → Bool} {dp : Nat → Nat} {k : Nat} (hk : k < 20) : ∀ n, n ≤ 4 → okB (fo (nbG (stB c dp) k) n none) := by
  intro n
  induction n with
  | zero => intro _; exact trivial
  | succ n ih =>
    intro hn
    show okB (nbG (stB c dp) k n _)
    unfold nbG
    have h := nb_fact k hk n (by omega)
    cases hq : nb k n with
    | none => exact ih (by omega)
    | some o =>
      rw [hq] at h
      exact stB_ok (of_decide_eq_true h).1 (ih (by omega))
theorem stB_cg {c c' : Nat → Bool} {dp dp' : Nat → Nat} (hc : ∀ o, o < 20 → c o = c' o) (hd : ∀ o, o < 20 → dp o = dp' o) : ∀ n, n ≤ 20 → fo (stB c dp) n none = fo (stB c' dp') n none := by
  intro n
  induction n with
  | zero => intro _; rfl
  | succ n ih =>
    intro hn
    show stB c dp n (fo (stB c dp) n none) = stB c' dp' n (fo (stB c' dp') n none)
    rw [ih (by omega)]
    have hok := fo_ok (g := stB c' dp') (fun o p ho hp => stB_ok ho hp) n (by omega)
    generalize fo (stB c' dp') n none = P at *
    unfold stB
    rw [hc n (by omega)]
    cases P with
    | none => rfl
    | some b =>
      dsimp only
      rw [hd b hok, hd n (by omega)]
section S99
variable {L : Nat} {xs : Nat → Int32} {d : Nat} {w : x_W} {S : Nat} {kd td mo kt tl : Nat → Nat} {tk : Nat → Nat → Nat}
theorem S96 {k : Nat} {dp : Nat → Nat} (hs : Sh w) (hd : Sd w) (hk : k < 20) (hnb : Nb (x_i w 24)) (hp : ∀ o, o < 20 → x_i w 26 o = nI (dp o) ∧ dp o ≤ 999) {Q : Option Value → x_W → Prop} : X_R L xs (d + 1) 96 0 [.ref 23, .int (nI k), x_junk, x_junk, x_junk] [] w Q = Q (some (.int (obI (fo (stB (cbN (x_i w 24) k) dp) 20 none)))) w := by
  have hkx := x_ix_nI hk (show 20 < 2 ^ 31 by decide)
  have hkc := nI_cl (show k < 2 ^ 31 by omega)
  rw [nbr none k hk (fun o ho hb q => by unfold stB; rw [hnb k o hk ho hb]; rfl)]
  have loop : ∀ n j (v5 : Value), x_isL v5 = false → j + n = 4 → X_R L xs (d + 1) 96 4 [.ref 23, .int (nI k), .int (obI (fo (nbG (stB (cbN (x_i w 24) k) dp) k) j none)), .int (nI j), v5] [] w Q = Q (some (.int (obI (fo (nbG (stB (cbN (x_i w 24) k) dp) k) 4 none)))) w := by
    intro n
    induction n with
    | zero =>
      intro j v5 h5 hj
      obtain rfl : j = 4 := by omega
      rw [X96_4]
      simp only [X96_5, X96_6, X96_58, X96_59, Nat.zero_le, and_true, true_and, x_nb0, x_nb1, x_nbp, x_isL_int, x_isL_ref, x_isL_junk, x_isR_ref, x_cat_nil, x_cat_int, x_cat_ref, x_cat_long, Option.toList_some, Option.toList_none, List.cons_append, List.nil_append, Nat.reduceAdd, Nat.reduceLeDiff, Nat.reduceLT, t_tag_si, t_tag_sr, t_tag_sI, x_r_si, x_i_sr, t_r_sI, x_ia_si, x_ia_sI, x_ia_sr, x_ra_si, x_ra_sI, x_ra_sr, nI_leT (Nat.le_refl 4) (by decide), if_true]
    | succ n ih =>
      intro j v5 h5 hj
      have hjx := x_ix_nI (show j < 4 by omega) (show 4 < 2 ^ 31 by decide)
      have hjc := nI_cl (show j < 2 ^ 31 by omega)
      have hnb := nb_fact k hk j (by omega)
      have est : ([-5, -1, 1, 5] : List Int32).getD j 0 = stN j := rfl
      have hok := nbG_ok (c := cbN (x_i w 24) k) (dp := dp) hk j (by omega)
      have hst : fo (nbG (stB (cbN (x_i w 24) k) dp) k) (j + 1) none = nbG (stB (cbN (x_i w 24) k) dp) k j (fo (nbG (stB (cbN (x_i w 24) k) dp) k) j none) := rfl
      cases hn : nb k j with
      | none =>
        rw [hn] at hnb
        have hnb' : ¬ (kn (nI k) ∧ kn (nI k + stN j)) := fun q => absurd q.2 (of_decide_eq_true hnb)
        have e2 := ih (j + 1) (.int (nI k + stN j)) rfl (by omega)
        have hst2 : nbG (stB (cbN (x_i w 24) k) dp) k j (fo (nbG (stB (cbN (x_i w 24) k) dp) k) j none) = fo (nbG (stB (cbN (x_i w 24) k) dp) k) j none := by unfold nbG; rw [hn]
        rw [hst, hst2] at e2
        rw [X96_4, ← e2]
        simp only [X96_5, X96_6, X96_9, X96_10, X96_13, X96_14, X96_14s, X96_15, X96_16, X96_18, X96_19, X96_20, X96_22, X96_25, X96_52, X96_55, Nat.zero_le, and_true, true_and, x_nb0, x_nb1, x_nbp, x_isL_int, x_isL_ref, x_isL_junk, x_isR_ref, x_cat_nil, x_cat_int, x_cat_ref, x_cat_long, Option.toList_some, Option.toList_none, List.cons_append, List.nil_append, Nat.reduceAdd, Nat.reduceLeDiff, Nat.reduceLT, t_tag_si, t_tag_sr, t_tag_sI, x_r_si, x_i_sr, t_r_sI, x_ia_si, x_ia_sI, x_ia_sr, x_ra_si, x_ra_sI, x_ra_sr, h5, nI_leF (show j < 4 by omega) (by decide), if_false, g_t23 hs, hjx, hjc, est, S88f hnb', if_true, nI_add]
      | some o =>
        rw [hn] at hnb
        obtain ⟨ho, hoe⟩ := of_decide_eq_true hnb
        have hox := x_ix_nI ho (show 20 < 2 ^ 31 by decide)
        have hoc := nI_cl (show o < 2 ^ 31 by omega)
        obtain ⟨hpo, hpo9⟩ := hp o ho
        have e2 := ih (j + 1) (.int (nI o)) rfl (by omega)
        have hst2 : nbG (stB (cbN (x_i w 24) k) dp) k j (fo (nbG (stB (cbN (x_i w 24) k) dp) k) j none) = stB (cbN (x_i w 24) k) dp o (fo (nbG (stB (cbN (x_i w 24) k) dp) k) j none) := by unfold nbG; rw [hn]
        rw [hst, hst2] at e2
        have e88 := fun (Q' : Option Value → x_W → Prop) => S88t (L := L) (xs := xs) (d := d) (Q := Q') hs (kn_nI hk) (kn_nI ho)
        rw [hkc] at e88
        generalize hP : fo (nbG (stB (cbN (x_i w 24) k) dp) k) j none = P at *
        rw [X96_4, ← e2]
        rcases bv_cases (x_i w 24 k) (nI o) with hb | hb
        · have hcb : cbN (x_i w 24) k o = false := by unfold cbN; rw [hb]; decide
          have e3 : stB (cbN (x_i w 24) k) dp o P = P := by unfold stB; rw [hcb]; rfl
          rw [e3]
          simp only [X96_5, X96_6, X96_9, X96_10, X96_13, X96_14, X96_14s, X96_15, X96_16, X96_18, X96_19, X96_20, X96_22, X96_25, X96_52, X96_55, Nat.zero_le, and_true, true_and, x_nb0, x_nb1, x_nbp, x_isL_int, x_isL_ref, x_isL_junk, x_isR_ref, x_cat_nil, x_cat_int, x_cat_ref, x_cat_long, Option.toList_some, Option.toList_none, List.cons_append, List.nil_append, Nat.reduceAdd, Nat.reduceLeDiff, Nat.reduceLT, t_tag_si, t_tag_sr, t_tag_sI, x_r_si, x_i_sr, t_r_sI, x_ia_si, x_ia_sI, x_ia_sr, x_ra_si, x_ra_sI, x_ra_sr, h5, nI_leF (show j < 4 by omega) (by decide), if_false, g_t23 hs, hjx, hjc, est, hoe, e88, hb, if_true, nI_add]
        · have hcb : cbN (x_i w 24) k o = true := by unfold cbN; rw [hb]; decide
          cases P with
          | none =>
            have e3 : stB (cbN (x_i w 24) k) dp o none = some o := by unfold stB; rw [if_pos hcb]
            have e4 : obI none = -1 := rfl
            have e5 : obI (some o) = nI o := rfl
            rw [e3, e4, e5]
            simp only [X96_5, X96_6, X96_9, X96_10, X96_13, X96_14, X96_14s, X96_15, X96_16, X96_18, X96_19, X96_20, X96_22, X96_25, X96_28, X96_29, X96_30, X96_49, X96_51, X96_52, X96_55, Nat.zero_le, and_true, true_and, x_nb0, x_nb1, x_nbp, x_isL_int, x_isL_ref, x_isL_junk, x_isR_ref, x_cat_nil, x_cat_int, x_cat_ref, x_cat_long, Option.toList_some, Option.toList_none, List.cons_append, List.nil_append, Nat.reduceAdd, Nat.reduceLeDiff, Nat.reduceLT, t_tag_si, t_tag_sr, t_tag_sI, x_r_si, x_i_sr, t_r_sI, x_ia_si, x_ia_sI, x_ia_sr, x_ra_si, x_ra_sI, x_ra_sr, h5, nI_leF (show j < 4 by omega) (by decide), if_false, g_t23 hs, hjx, hjc, est, hoe, e88, hb, n10, if_true, nI_add]
          | some b =>
            have hb20 : b < 20 := hok
            obtain ⟨hpb, hpb9⟩ := hp b hb20
            have hbx := x_ix_nI hb20 (show 20 < 2 ^ 31 by decide)
            have hbc := nI_cl (show b < 2 ^ 31 by omega)
            have e4 : obI (some b) = nI b := rfl
            have hm1 := nI_m1e (show b < 2 ^ 31 by omega)
            by_cases hl : dp b < dp o
            · have e3 : stB (cbN (x_i w 24) k) dp o (some b) = some o := by unfold stB; rw [if_pos hcb]; dsimp only; rw [if_pos hl]
              have e5 : obI (some o) = nI o := rfl
              rw [e3, e4, e5]
              simp only [X96_5, X96_6, X96_9, X96_10, X96_13, X96_14, X96_14s, X96_15, X96_16, X96_18, X96_19, X96_20, X96_22, X96_25, X96_28, X96_29, X96_30, X96_33, X96_34, X96_37, X96_39, X96_39s, X96_40, X96_41, X96_44, X96_45, X96_45s, X96_46, X96_49, X96_51, X96_52, X96_55, Nat.zero_le, and_true, true_and, x_nb0, x_nb1, x_nbp, x_isL_int, x_isL_ref, x_isL_junk, x_isR_ref, x_cat_nil, x_cat_int, x_cat_ref, x_cat_long, Option.toList_some, Option.toList_none, List.cons_append, List.nil_append, Nat.reduceAdd, Nat.reduceLeDiff, Nat.reduceLT, t_tag_si, t_tag_sr, t_tag_sI, x_r_si, x_i_sr, t_r_sI, x_ia_si, x_ia_sI, x_ia_sr, x_ra_si, x_ra_sI, x_ra_sr, h5, nI_leF (show j < 4 by omega) (by decide), if_false, g_t23 hs, hd.1, g_a26 hs, hjx, hjc, est, hoe, e88, hb, n10, hm1, hox, hoc, hbx, hbc, hpo, hpb, nI_leF hl (show dp o < 2 ^ 31 by omega), nI_add]
            · have e3 : stB (cbN (x_i w 24) k) dp o (some b) = some b := by unfold stB; rw [if_pos hcb]; dsimp only; rw [if_neg hl]
              rw [e3, e4]
              simp only [X96_5, X96_6, X96_9, X96_10, X96_13, X96_14, X96_14s, X96_15, X96_16, X96_18, X96_19, X96_20, X96_22, X96_25, X96_28, X96_29, X96_30, X96_33, X96_34, X96_37, X96_39, X96_39s, X96_40, X96_41, X96_44, X96_45, X96_45s, X96_46, X96_52, X96_55, Nat.zero_le, and_true, true_and, x_nb0, x_nb1, x_nbp, x_isL_int, x_isL_ref, x_isL_junk, x_isR_ref, x_cat_nil, x_cat_int, x_cat_ref, x_cat_long, Option.toList_some, Option.toList_none, List.cons_append, List.nil_append, Nat.reduceAdd, Nat.reduceLeDiff, Nat.reduceLT, t_tag_si, t_tag_sr, t_tag_sI, x_r_si, x_i_sr, t_r_sI, x_ia_si, x_ia_sI, x_ia_sr, x_ra_si, x_ra_sI, x_ra_sr, h5, nI_leF (show j < 4 by omega) (by decide), if_false, g_t23 hs, hd.1, g_a26 hs, hjx, hjc, est, hoe, e88, hb, n10, hm1, hox, hoc, hbx, hbc, hpo, hpb, nI_leT (Nat.not_lt.mp hl) (show dp b < 2 ^ 31 by omega), if_true, nI_add]
  have h0 := loop 4 0 x_junk rfl rfl
  rw [← h0]
  simp only [X96_0, X96_1, X96_2, X96_3, Nat.zero_le, and_true, true_and, x_nb0, x_nb1, x_nbp, x_isL_int, x_isL_ref, x_isL_junk, x_isR_ref, x_cat_nil, x_cat_int, x_cat_ref, x_cat_long, Option.toList_some, Option.toList_none, List.cons_append, List.nil_append, Nat.reduceAdd, Nat.reduceLeDiff, Nat.reduceLT, t_tag_si, t_tag_sr, t_tag_sI, x_r_si, x_i_sr, t_r_sI, x_ia_si, x_ia_sI, x_ia_sr, x_ra_si, x_ra_sI, x_ra_sr]
  rfl
end S99
