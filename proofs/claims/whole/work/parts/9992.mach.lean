/-! ===== the reference's reader as a pure machine ===== -/
def rk (c : Nat) : Nat := if c = 0 then 0 else if c = 11 then 1 else if c = 12 then 2 else if c = 13 then 3 else if c ≤ 15 then 4 else if c ≤ 17 then 5 else if c = 18 then 6 else 7
def unw (r : Nat) : List Nat → List Nat → List Nat × List Nat
  | [], o => ([], o)
  | c :: H, o => if r ≤ rk c then unw r H (o ++ [20000 + c]) else (c :: H, o)
def cnt : List Nat → Nat
  | [] => 0
  | c :: H => (if c = 0 ∨ c = 13 ∨ c = 19 then 1 else 0) + cnt H
def hdR : List Nat → Nat
  | [] => 0
  | c :: _ => rk c
def sgO (t : Nat) : Nat := if t = 265 then 11 else if t = 266 then 12 else if t = 60 then 14 else if t = 61 then 15 else if t = 43 then 16 else if t = 45 then 17 else if t = 42 then 18 else 0
abbrev MSt : Type := List Nat × List Nat × Nat × Nat
abbrev MR : Type := Sum MSt (Sum Nat (List Nat × Nat))
def mOpd (b : Nat → Nat) (n : Nat) (H out : List Nat) (s : Nat) : MR := .inl ((unw 7 H out).1, (unw 7 H out).2, tN b n s, 0)
def mShut (b : Nat → Nat) (n : Nat) (out : List Nat) (s : Nat) : List Nat → MR
  | [] => .inr (.inl s)
  | _ :: H => mOpd b n H out s
def mst (b : Nat → Nat) (n : Nat) (A : MSt) : MR :=
  let H := A.1
  let out := A.2.1
  let s := A.2.2.1
  let t := tK b n s
  if A.2.2.2 = 0 then
    if t = 59 then (if (unw 1 H out).1 = [] then .inr (.inr ((unw 1 H out).2, s)) else .inr (.inl s))
    else if t = 41 then mShut b n (unw 1 H out).2 s (unw 1 H out).1
    else if sgO t = 0 then .inr (.inl s)
    else if rk (sgO t) = 4 ∧ hdR (unw 5 H out).1 = 4 then .inr (.inl s)
    else .inl (sgO t :: (unw (if rk (sgO t) = 4 then 5 else rk (sgO t)) H out).1, (unw (if rk (sgO t) = 4 then 5 else rk (sgO t)) H out).2, tN b n s, if sgO t ≤ 12 then 2 else 1)
  else if t = 300 then mOpd b n H (out ++ [vN b s (tE b n s - s)]) s
  else if 256 ≤ t ∧ t < 262 then mOpd b n H (out ++ [10000 + (t - 256)]) s
  else if t = 267 ∧ A.2.2.2 = 2 then (if cnt H = 5 then .inr (.inl s) else .inl (13 :: H, out, tN b n s, 2))
  else if t = 45 then (if cnt H = 5 then .inr (.inl s) else .inl (19 :: H, out, tN b n s, 1))
  else if t = 40 then (if cnt H = 5 then .inr (.inl s) else .inl (0 :: H, out, tN b n s, 2))
  else .inr (.inl s)
def mrun (b : Nat → Nat) (n : Nat) : Nat → MSt → MR
  | 0, A => .inl A
  | k + 1, A => match mst b n A with
    | .inl B => mrun b n k B
    | .inr r => .inr r
def Rch (b : Nat → Nat) (n : Nat) (A : MSt) (R : MR) : Prop := ∃ k, mrun b n k A = R
def Lds (b : Nat → Nat) (n : Nat) (A B : MSt) : Prop := ∀ R, Rch b n B R → Rch b n A R
def cds (H : List Nat) : List Nat := H.map fun c => 20000 + c
section S9992
variable {b : Nat → Nat} {n : Nat}
theorem Rch_s {A B : MSt} {R : MR} (h : mst b n A = .inl B) (h2 : Rch b n B R) : Rch b n A R := by
  obtain ⟨k, hk⟩ := h2
  exact ⟨k + 1, by unfold mrun; rw [h]; exact hk⟩
theorem Rch_e {A : MSt} {r : Sum Nat (List Nat × Nat)} (h : mst b n A = .inr r) : Rch b n A (.inr r) := ⟨1, by unfold mrun; rw [h]⟩
theorem Lds_s {A B : MSt} (h : mst b n A = .inl B) : Lds b n A B := fun _ h2 => Rch_s h h2
theorem Lds.trans {A B C : MSt} (h : Lds b n A B) (h2 : Lds b n B C) : Lds b n A C := fun R hR => h R (h2 R hR)
theorem Lds.refl (A : MSt) : Lds b n A A := fun _ h => h
theorem unw_id {r : Nat} {H out : List Nat} (h : hdR H < r) : unw r H out = (H, out) := by
  cases H with
  | nil => rfl
  | cons c H =>
    have h2 : rk c < r := h
    unfold unw
    rw [if_neg (Nat.not_le.mpr h2)]
theorem unw_app {r : Nat} {H : List Nat} (h : hdR H < r) : ∀ (p out : List Nat), (∀ c, c ∈ p → r ≤ rk c) → unw r (p ++ H) out = (H, out ++ cds p) := by
  intro p
  induction p with
  | nil => intro out _; rw [List.nil_append, unw_id h]; unfold cds; rw [List.map_nil, List.append_nil]
  | cons c p ih =>
    intro out hp
    show unw r (c :: (p ++ H)) out = _
    unfold unw
    rw [if_pos (hp c (List.mem_cons_self ..)), ih _ (fun x hx => hp x (List.mem_cons_of_mem _ hx))]
    show (H, (out ++ [20000 + c]) ++ cds p) = (H, out ++ cds (c :: p))
    rw [List.append_assoc]
    rfl
theorem mst_op {H out : List Nat} {s t : Nat} (ht : tK b n s = t) (h0 : sgO t ≠ 0) (h4 : ¬ (rk (sgO t) = 4 ∧ hdR (unw 5 H out).1 = 4)) {r : Nat} (hr : (if rk (sgO t) = 4 then 5 else rk (sgO t)) = r) {H2 out2 : List Nat} (hu : unw r H out = (H2, out2)) {wt : Nat} (hw : (if sgO t ≤ 12 then 2 else 1) = wt) : mst b n (H, out, s, 0) = .inl (sgO t :: H2, out2, tN b n s, wt) := by
  have h59 : t ≠ 59 := fun z => h0 (by rw [z]; rfl)
  have h41 : t ≠ 41 := fun z => h0 (by rw [z]; rfl)
  unfold mst
  simp only []
  rw [if_pos trivial, ht, if_neg h59, if_neg h41, if_neg h0, if_neg h4, hr, hu, hw]
theorem mst_stuck {H out : List Nat} {s t : Nat} (ht : tK b n s = t) (h4 : rk (sgO t) = 4) (hh : hdR (unw 5 H out).1 = 4) : mst b n (H, out, s, 0) = .inr (.inl s) := by
  have h0 : sgO t ≠ 0 := fun z => by rw [z] at h4; exact absurd h4 (by decide)
  have h59 : t ≠ 59 := fun z => h0 (by rw [z]; rfl)
  have h41 : t ≠ 41 := fun z => h0 (by rw [z]; rfl)
  unfold mst
  simp only []
  rw [if_pos trivial, ht, if_neg h59, if_neg h41, if_neg h0, if_pos ⟨h4, hh⟩]
theorem mst_num {H out : List Nat} {s wt : Nat} (hw : wt ≠ 0) (ht : tK b n s = 300) : mst b n (H, out, s, wt) = mOpd b n H (out ++ [vN b s (tE b n s - s)]) s := by
  unfold mst
  simp only []
  rw [if_neg hw, if_pos ht]
theorem mst_name {H out : List Nat} {s wt : Nat} (hw : wt ≠ 0) {i : Nat} (ht : tK b n s = 256 + i) (hi : i < 6) : mst b n (H, out, s, wt) = mOpd b n H (out ++ [10000 + i]) s := by
  unfold mst
  simp only []
  rw [if_neg hw, ht, if_neg (show ¬ 256 + i = 300 by omega), if_pos (show 256 ≤ 256 + i ∧ 256 + i < 262 by omega), show 256 + i - 256 = i by omega]
theorem mst_not {H out : List Nat} {s : Nat} (ht : tK b n s = 267) : mst b n (H, out, s, 2) = if cnt H = 5 then .inr (.inl s) else .inl (13 :: H, out, tN b n s, 2) := by
  unfold mst
  simp only []
  rw [if_neg (by decide), ht, if_neg (by decide), if_neg (by decide), if_pos ⟨rfl, trivial⟩]
theorem mst_neg {H out : List Nat} {s wt : Nat} (hw : wt ≠ 0) (ht : tK b n s = 45) : mst b n (H, out, s, wt) = if cnt H = 5 then .inr (.inl s) else .inl (19 :: H, out, tN b n s, 1) := by
  unfold mst
  simp only []
  rw [if_neg hw, ht, if_neg (by decide), if_neg (by decide), if_neg (fun z => absurd z.1 (by decide)), if_pos rfl]
theorem mst_par {H out : List Nat} {s wt : Nat} (hw : wt ≠ 0) (ht : tK b n s = 40) : mst b n (H, out, s, wt) = if cnt H = 5 then .inr (.inl s) else .inl (0 :: H, out, tN b n s, 2) := by
  unfold mst
  simp only []
  rw [if_neg hw, ht, if_neg (by decide), if_neg (by decide), if_neg (fun z => absurd z.1 (by decide)), if_neg (by decide), if_pos rfl]
theorem mst_bad {H out : List Nat} {s wt : Nat} (hw : wt ≠ 0) (h1 : tK b n s ≠ 300) (h2 : ¬ (256 ≤ tK b n s ∧ tK b n s < 262)) (h3 : ¬ (tK b n s = 267 ∧ wt = 2)) (h4 : tK b n s ≠ 45) (h5 : tK b n s ≠ 40) : mst b n (H, out, s, wt) = .inr (.inl s) := by
  unfold mst
  simp only []
  rw [if_neg hw, if_neg h1, if_neg h2, if_neg h3, if_neg h4, if_neg h5]
/-- an operator's place, none fits: no brace to shut, no end -/
theorem mst_nop {H out : List Nat} {s : Nat} (h1 : tK b n s ≠ 59) (h2 : tK b n s ≠ 41) (h3 : sgO (tK b n s) = 0) : mst b n (H, out, s, 0) = .inr (.inl s) := by
  unfold mst
  simp only []
  rw [if_pos trivial, if_neg h1, if_neg h2, if_pos h3]
theorem mst_end {H out : List Nat} {s : Nat} (ht : tK b n s = 59) {out2 H2 : List Nat} (hu : unw 1 H out = (H2, out2)) : mst b n (H, out, s, 0) = if H2 = [] then .inr (.inr (out2, s)) else .inr (.inl s) := by
  unfold mst
  simp only []
  rw [if_pos trivial, if_pos ht, hu]
theorem mst_shut {H out : List Nat} {s : Nat} (ht : tK b n s = 41) {out2 H2 : List Nat} (hu : unw 1 H out = (H2, out2)) : mst b n (H, out, s, 0) = mShut b n out2 s H2 := by
  unfold mst
  simp only []
  rw [if_pos trivial, ht, if_neg (by decide), if_pos rfl, hu]
end S9992
/-- a run of tokens takes the height h to h' -/
def wfL : List Nat → Nat → Nat → Prop
  | [], h, h' => h' = h
  | t :: l, h, h' => wfT t h ∧ wfL l (top1 t h) h'
theorem wfL_app : ∀ (l m : List Nat) (h h1 h2 : Nat), wfL l h h1 → wfL m h1 h2 → wfL (l ++ m) h h2 := by
  intro l
  induction l with
  | nil => intro m h h1 h2 hl hm; rw [show h1 = h from hl] at hm; exact hm
  | cons t l ih => intro m h h1 h2 hl hm; exact ⟨hl.1, ih m _ h1 h2 hl.2 hm⟩
theorem wfL_opd {t : Nat} (ht : t < 10000 ∨ (10000 ≤ t ∧ t < 10006)) (h : Nat) : wfL [t] h (h + 1) := by
  refine ⟨⟨by unfold okT; omega, fun z => by omega⟩, ?_⟩
  show h + 1 = top1 t h
  unfold top1
  rw [if_pos (by omega)]
theorem wfL_bin {l m : List Nat} {c : Nat} (hc : isop c) (hl : ∀ h, wfL l h (h + 1)) (hm : ∀ h, wfL m h (h + 1)) (h : Nat) : wfL (l ++ m ++ [20000 + c]) h (h + 1) := by
  have hc2 : c ≤ 18 ∧ c ≠ 13 := by unfold isop at hc; omega
  refine wfL_app _ _ h (h + 2) (h + 1) (wfL_app _ _ h (h + 1) (h + 2) (hl h) (hm (h + 1))) ⟨⟨?_, fun _ => ⟨by omega, fun _ _ => by omega⟩⟩, ?_⟩
  · refine Or.inr (Or.inr ⟨by omega, Or.inl ?_⟩)
    rw [Nat.add_sub_cancel_left]
    exact hc
  · show h + 1 = top1 (20000 + c) (h + 2)
    unfold top1
    rw [if_neg (by omega), if_neg (by omega)]
    rfl
theorem wfL_un {l : List Nat} {c : Nat} (hc : c = 13 ∨ c = 19) (hl : ∀ h, wfL l h (h + 1)) (h : Nat) : wfL (l ++ [20000 + c]) h (h + 1) := by
  refine wfL_app _ _ h (h + 1) (h + 1) (hl h) ⟨⟨?_, fun _ => ⟨by omega, fun z1 z2 => by omega⟩⟩, ?_⟩
  · exact Or.inr (Or.inr ⟨by omega, Or.inr (by omega)⟩)
  · show h + 1 = top1 (20000 + c) (h + 1)
    unfold top1
    rw [if_neg (by omega), if_pos (by omega)]
