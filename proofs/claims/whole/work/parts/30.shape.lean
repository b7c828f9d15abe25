/-! ===== the cells of the two objects ===== -/
def T0 : List (Nat × Nat) := [(0, 7), (0, 6), (1, 160), (1, 160), (1, 3), (2, 6), (3, 4), (0, 1), (1, 20), (1, 6), (0, 2), (1, 11), (1, 3), (1, 12), (0, 4), (1, 40), (0, 4), (1, 40), (0, 4), (1, 40), (0, 4), (1, 40), (0, 0), (0, 3), (1, 20), (1, 20), (1, 20), (1, 20), (1, 400), (4, 6), (1, 6), (1, 6), (1, 6), (1, 6), (1, 6), (0, 5), (0, 5), (0, 5), (0, 5), (0, 5), (0, 5), (0, 8), (1, 20), (1, 6), (1, 6), (1, 6), (1, 6), (1, 160), (1, 1200), (1, 24), (1, 20), (1, 6), (1, 4), (1, 4), (1, 160), (1, 50), (1, 96), (1, 200), (1, 200), (1, 6), (1, 20), (1, 20), (1, 20), (1, 6), (1, 6), (1, 6)]
def R0 : List (Nat × Nat × Nat) := [(0, 0, 1), (0, 1, 5), (0, 4, 22), (0, 5, 23), (0, 6, 6), (0, 7, 7), (1, 0, 2), (1, 2, 3), (1, 4, 4), (6, 0, 14), (6, 1, 16), (6, 2, 18), (6, 3, 20), (7, 2, 8), (7, 4, 9), (10, 0, 11), (10, 1, 12), (10, 2, 13), (14, 2, 15), (16, 2, 17), (18, 2, 19), (20, 2, 21), (22, 0, 23), (22, 2, 29), (22, 3, 30), (22, 5, 31), (22, 6, 32), (22, 7, 33), (22, 8, 34), (23, 0, 24), (23, 2, 25), (23, 5, 28), (29, 0, 35), (29, 1, 36), (29, 2, 37), (29, 3, 38), (29, 4, 39), (29, 5, 40), (41, 0, 42), (41, 3, 43), (41, 4, 44), (41, 5, 45), (41, 6, 46), (41, 7, 47), (41, 9, 48), (41, 10, 49), (41, 17, 50), (41, 18, 51), (41, 19, 52), (41, 20, 53), (41, 21, 54), (41, 22, 55), (41, 27, 56), (41, 28, 57), (41, 32, 58), (41, 33, 59), (41, 34, 60), (41, 35, 61), (41, 36, 62), (41, 37, 63), (41, 38, 64), (41, 39, 65)]
def SH (T : List (Nat × Nat)) (r : Nat → Nat → Value) : Prop := (∀ (a : Nat) (t : Nat × Nat), T0[a]? = some t → T[a]? = some t) ∧ ∀ q ∈ R0, r q.1 q.2.1 = .ref q.2.2
def Sh (w : x_W) : Prop := SH w.1 w.2.2
theorem x_ia_si (w : x_W) (a k : Nat) (v : Int32) (b : Nat) (i : Int32) : x_ia (x_si w a k v) b i = x_ia w b i := Eq.trans rfl rfl
theorem x_ia_sI (w : x_W) (a : Nat) (f : Nat → Int32) (b : Nat) (i : Int32) : x_ia (x_sI w a f) b i = x_ia w b i := Eq.trans rfl rfl
theorem x_ia_sr (w : x_W) (a k : Nat) (v : Value) (b : Nat) (i : Int32) : x_ia (x_sr w a k v) b i = x_ia w b i := Eq.trans rfl rfl
theorem x_ra_si (w : x_W) (a k : Nat) (v : Int32) (b : Nat) (i : Int32) : x_ra (x_si w a k v) b i = x_ra w b i := Eq.trans rfl rfl
theorem x_ra_sI (w : x_W) (a : Nat) (f : Nat → Int32) (b : Nat) (i : Int32) : x_ra (x_sI w a f) b i = x_ra w b i := Eq.trans rfl rfl
theorem x_ra_sr (w : x_W) (a k : Nat) (v : Value) (b : Nat) (i : Int32) : x_ra (x_sr w a k v) b i = x_ra w b i := Eq.trans rfl rfl
theorem x_ia_eq {w : x_W} {a n : Nat} (h : x_tag w a = some (1, n)) (ha : a < 900) (i : Int32) : x_ia w a i = x_ix i n := by
  simp only [x_ia, x_tn, h, ha, Option.getD_some, true_and]
theorem x_ra_eq {w : x_W} {a t n : Nat} (h : x_tag w a = some (t + 2, n)) (ht : t < 3) (i : Int32) : x_ra w a i = x_ix i n := by
  unfold x_ra x_tn x_tk
  rw [h]
  simp only [Option.getD_some]
  have h1 : 2 ≤ t + 2 := by omega
  have h2 : t + 2 < 5 := by omega
  simp only [h1, h2, true_and]
theorem g_t0 {w : x_W} (h : Sh w) : x_tag w 0 = some (0, 7) := h.1 0 _ rfl
theorem g_t1 {w : x_W} (h : Sh w) : x_tag w 1 = some (0, 6) := h.1 1 _ rfl
theorem g_t2 {w : x_W} (h : Sh w) : x_tag w 2 = some (1, 160) := h.1 2 _ rfl
theorem g_a2 {w : x_W} (h : Sh w) (i : Int32) : x_ia w 2 i = x_ix i 160 := x_ia_eq (g_t2 h) (by decide) i
theorem g_t3 {w : x_W} (h : Sh w) : x_tag w 3 = some (1, 160) := h.1 3 _ rfl
theorem g_a3 {w : x_W} (h : Sh w) (i : Int32) : x_ia w 3 i = x_ix i 160 := x_ia_eq (g_t3 h) (by decide) i
theorem g_t4 {w : x_W} (h : Sh w) : x_tag w 4 = some (1, 3) := h.1 4 _ rfl
theorem g_a4 {w : x_W} (h : Sh w) (i : Int32) : x_ia w 4 i = x_ix i 3 := x_ia_eq (g_t4 h) (by decide) i
theorem g_t5 {w : x_W} (h : Sh w) : x_tag w 5 = some (2, 6) := h.1 5 _ rfl
theorem g_a5 {w : x_W} (h : Sh w) (i : Int32) : x_ra w 5 i = x_ix i 6 := x_ra_eq (t := 0) (g_t5 h) (by decide) i
theorem g_t6 {w : x_W} (h : Sh w) : x_tag w 6 = some (3, 4) := h.1 6 _ rfl
theorem g_a6 {w : x_W} (h : Sh w) (i : Int32) : x_ra w 6 i = x_ix i 4 := x_ra_eq (t := 1) (g_t6 h) (by decide) i
theorem g_t7 {w : x_W} (h : Sh w) : x_tag w 7 = some (0, 1) := h.1 7 _ rfl
theorem g_t8 {w : x_W} (h : Sh w) : x_tag w 8 = some (1, 20) := h.1 8 _ rfl
theorem g_a8 {w : x_W} (h : Sh w) (i : Int32) : x_ia w 8 i = x_ix i 20 := x_ia_eq (g_t8 h) (by decide) i
theorem g_t9 {w : x_W} (h : Sh w) : x_tag w 9 = some (1, 6) := h.1 9 _ rfl
theorem g_a9 {w : x_W} (h : Sh w) (i : Int32) : x_ia w 9 i = x_ix i 6 := x_ia_eq (g_t9 h) (by decide) i
theorem g_t10 {w : x_W} (h : Sh w) : x_tag w 10 = some (0, 2) := h.1 10 _ rfl
theorem g_t11 {w : x_W} (h : Sh w) : x_tag w 11 = some (1, 11) := h.1 11 _ rfl
theorem g_a11 {w : x_W} (h : Sh w) (i : Int32) : x_ia w 11 i = x_ix i 11 := x_ia_eq (g_t11 h) (by decide) i
theorem g_t12 {w : x_W} (h : Sh w) : x_tag w 12 = some (1, 3) := h.1 12 _ rfl
theorem g_a12 {w : x_W} (h : Sh w) (i : Int32) : x_ia w 12 i = x_ix i 3 := x_ia_eq (g_t12 h) (by decide) i
theorem g_t13 {w : x_W} (h : Sh w) : x_tag w 13 = some (1, 12) := h.1 13 _ rfl
theorem g_a13 {w : x_W} (h : Sh w) (i : Int32) : x_ia w 13 i = x_ix i 12 := x_ia_eq (g_t13 h) (by decide) i
theorem g_t14 {w : x_W} (h : Sh w) : x_tag w 14 = some (0, 4) := h.1 14 _ rfl
theorem g_t15 {w : x_W} (h : Sh w) : x_tag w 15 = some (1, 40) := h.1 15 _ rfl
theorem g_a15 {w : x_W} (h : Sh w) (i : Int32) : x_ia w 15 i = x_ix i 40 := x_ia_eq (g_t15 h) (by decide) i
theorem g_t16 {w : x_W} (h : Sh w) : x_tag w 16 = some (0, 4) := h.1 16 _ rfl
theorem g_t17 {w : x_W} (h : Sh w) : x_tag w 17 = some (1, 40) := h.1 17 _ rfl
theorem g_a17 {w : x_W} (h : Sh w) (i : Int32) : x_ia w 17 i = x_ix i 40 := x_ia_eq (g_t17 h) (by decide) i
theorem g_t18 {w : x_W} (h : Sh w) : x_tag w 18 = some (0, 4) := h.1 18 _ rfl
theorem g_t19 {w : x_W} (h : Sh w) : x_tag w 19 = some (1, 40) := h.1 19 _ rfl
theorem g_a19 {w : x_W} (h : Sh w) (i : Int32) : x_ia w 19 i = x_ix i 40 := x_ia_eq (g_t19 h) (by decide) i
theorem g_t20 {w : x_W} (h : Sh w) : x_tag w 20 = some (0, 4) := h.1 20 _ rfl
theorem g_t21 {w : x_W} (h : Sh w) : x_tag w 21 = some (1, 40) := h.1 21 _ rfl
theorem g_a21 {w : x_W} (h : Sh w) (i : Int32) : x_ia w 21 i = x_ix i 40 := x_ia_eq (g_t21 h) (by decide) i
theorem g_t22 {w : x_W} (h : Sh w) : x_tag w 22 = some (0, 0) := h.1 22 _ rfl
theorem g_t23 {w : x_W} (h : Sh w) : x_tag w 23 = some (0, 3) := h.1 23 _ rfl
theorem g_t24 {w : x_W} (h : Sh w) : x_tag w 24 = some (1, 20) := h.1 24 _ rfl
theorem g_a24 {w : x_W} (h : Sh w) (i : Int32) : x_ia w 24 i = x_ix i 20 := x_ia_eq (g_t24 h) (by decide) i
theorem g_t25 {w : x_W} (h : Sh w) : x_tag w 25 = some (1, 20) := h.1 25 _ rfl
theorem g_a25 {w : x_W} (h : Sh w) (i : Int32) : x_ia w 25 i = x_ix i 20 := x_ia_eq (g_t25 h) (by decide) i
theorem g_t26 {w : x_W} (h : Sh w) : x_tag w 26 = some (1, 20) := h.1 26 _ rfl
theorem g_a26 {w : x_W} (h : Sh w) (i : Int32) : x_ia w 26 i = x_ix i 20 := x_ia_eq (g_t26 h) (by decide) i
theorem g_t27 {w : x_W} (h : Sh w) : x_tag w 27 = some (1, 20) := h.1 27 _ rfl
theorem g_a27 {w : x_W} (h : Sh w) (i : Int32) : x_ia w 27 i = x_ix i 20 := x_ia_eq (g_t27 h) (by decide) i
theorem g_t28 {w : x_W} (h : Sh w) : x_tag w 28 = some (1, 400) := h.1 28 _ rfl
theorem g_a28 {w : x_W} (h : Sh w) (i : Int32) : x_ia w 28 i = x_ix i 400 := x_ia_eq (g_t28 h) (by decide) i
theorem g_t29 {w : x_W} (h : Sh w) : x_tag w 29 = some (4, 6) := h.1 29 _ rfl
theorem g_a29 {w : x_W} (h : Sh w) (i : Int32) : x_ra w 29 i = x_ix i 6 := x_ra_eq (t := 2) (g_t29 h) (by decide) i
theorem g_t30 {w : x_W} (h : Sh w) : x_tag w 30 = some (1, 6) := h.1 30 _ rfl
theorem g_a30 {w : x_W} (h : Sh w) (i : Int32) : x_ia w 30 i = x_ix i 6 := x_ia_eq (g_t30 h) (by decide) i
theorem g_t31 {w : x_W} (h : Sh w) : x_tag w 31 = some (1, 6) := h.1 31 _ rfl
theorem g_a31 {w : x_W} (h : Sh w) (i : Int32) : x_ia w 31 i = x_ix i 6 := x_ia_eq (g_t31 h) (by decide) i
theorem g_t32 {w : x_W} (h : Sh w) : x_tag w 32 = some (1, 6) := h.1 32 _ rfl
theorem g_a32 {w : x_W} (h : Sh w) (i : Int32) : x_ia w 32 i = x_ix i 6 := x_ia_eq (g_t32 h) (by decide) i
theorem g_t33 {w : x_W} (h : Sh w) : x_tag w 33 = some (1, 6) := h.1 33 _ rfl
theorem g_a33 {w : x_W} (h : Sh w) (i : Int32) : x_ia w 33 i = x_ix i 6 := x_ia_eq (g_t33 h) (by decide) i
theorem g_t34 {w : x_W} (h : Sh w) : x_tag w 34 = some (1, 6) := h.1 34 _ rfl
theorem g_a34 {w : x_W} (h : Sh w) (i : Int32) : x_ia w 34 i = x_ix i 6 := x_ia_eq (g_t34 h) (by decide) i
theorem g_t35 {w : x_W} (h : Sh w) : x_tag w 35 = some (0, 5) := h.1 35 _ rfl
theorem g_t36 {w : x_W} (h : Sh w) : x_tag w 36 = some (0, 5) := h.1 36 _ rfl
theorem g_t37 {w : x_W} (h : Sh w) : x_tag w 37 = some (0, 5) := h.1 37 _ rfl
theorem g_t38 {w : x_W} (h : Sh w) : x_tag w 38 = some (0, 5) := h.1 38 _ rfl
theorem g_t39 {w : x_W} (h : Sh w) : x_tag w 39 = some (0, 5) := h.1 39 _ rfl
theorem g_t40 {w : x_W} (h : Sh w) : x_tag w 40 = some (0, 5) := h.1 40 _ rfl
theorem g_t41 {w : x_W} (h : Sh w) : x_tag w 41 = some (0, 8) := h.1 41 _ rfl
theorem g_t42 {w : x_W} (h : Sh w) : x_tag w 42 = some (1, 20) := h.1 42 _ rfl
theorem g_a42 {w : x_W} (h : Sh w) (i : Int32) : x_ia w 42 i = x_ix i 20 := x_ia_eq (g_t42 h) (by decide) i
theorem g_t43 {w : x_W} (h : Sh w) : x_tag w 43 = some (1, 6) := h.1 43 _ rfl
theorem g_a43 {w : x_W} (h : Sh w) (i : Int32) : x_ia w 43 i = x_ix i 6 := x_ia_eq (g_t43 h) (by decide) i
theorem g_t44 {w : x_W} (h : Sh w) : x_tag w 44 = some (1, 6) := h.1 44 _ rfl
theorem g_a44 {w : x_W} (h : Sh w) (i : Int32) : x_ia w 44 i = x_ix i 6 := x_ia_eq (g_t44 h) (by decide) i
theorem g_t45 {w : x_W} (h : Sh w) : x_tag w 45 = some (1, 6) := h.1 45 _ rfl
theorem g_a45 {w : x_W} (h : Sh w) (i : Int32) : x_ia w 45 i = x_ix i 6 := x_ia_eq (g_t45 h) (by decide) i
theorem g_t46 {w : x_W} (h : Sh w) : x_tag w 46 = some (1, 6) := h.1 46 _ rfl
theorem g_a46 {w : x_W} (h : Sh w) (i : Int32) : x_ia w 46 i = x_ix i 6 := x_ia_eq (g_t46 h) (by decide) i
theorem g_t47 {w : x_W} (h : Sh w) : x_tag w 47 = some (1, 160) := h.1 47 _ rfl
theorem g_a47 {w : x_W} (h : Sh w) (i : Int32) : x_ia w 47 i = x_ix i 160 := x_ia_eq (g_t47 h) (by decide) i
theorem g_t48 {w : x_W} (h : Sh w) : x_tag w 48 = some (1, 1200) := h.1 48 _ rfl
theorem g_a48 {w : x_W} (h : Sh w) (i : Int32) : x_ia w 48 i = x_ix i 1200 := x_ia_eq (g_t48 h) (by decide) i
theorem g_t49 {w : x_W} (h : Sh w) : x_tag w 49 = some (1, 24) := h.1 49 _ rfl
theorem g_a49 {w : x_W} (h : Sh w) (i : Int32) : x_ia w 49 i = x_ix i 24 := x_ia_eq (g_t49 h) (by decide) i
theorem g_t50 {w : x_W} (h : Sh w) : x_tag w 50 = some (1, 20) := h.1 50 _ rfl
theorem g_a50 {w : x_W} (h : Sh w) (i : Int32) : x_ia w 50 i = x_ix i 20 := x_ia_eq (g_t50 h) (by decide) i
theorem g_t51 {w : x_W} (h : Sh w) : x_tag w 51 = some (1, 6) := h.1 51 _ rfl
theorem g_a51 {w : x_W} (h : Sh w) (i : Int32) : x_ia w 51 i = x_ix i 6 := x_ia_eq (g_t51 h) (by decide) i
theorem g_t52 {w : x_W} (h : Sh w) : x_tag w 52 = some (1, 4) := h.1 52 _ rfl
theorem g_a52 {w : x_W} (h : Sh w) (i : Int32) : x_ia w 52 i = x_ix i 4 := x_ia_eq (g_t52 h) (by decide) i
theorem g_t53 {w : x_W} (h : Sh w) : x_tag w 53 = some (1, 4) := h.1 53 _ rfl
theorem g_a53 {w : x_W} (h : Sh w) (i : Int32) : x_ia w 53 i = x_ix i 4 := x_ia_eq (g_t53 h) (by decide) i
theorem g_t54 {w : x_W} (h : Sh w) : x_tag w 54 = some (1, 160) := h.1 54 _ rfl
theorem g_a54 {w : x_W} (h : Sh w) (i : Int32) : x_ia w 54 i = x_ix i 160 := x_ia_eq (g_t54 h) (by decide) i
theorem g_t55 {w : x_W} (h : Sh w) : x_tag w 55 = some (1, 50) := h.1 55 _ rfl
theorem g_a55 {w : x_W} (h : Sh w) (i : Int32) : x_ia w 55 i = x_ix i 50 := x_ia_eq (g_t55 h) (by decide) i
theorem g_t56 {w : x_W} (h : Sh w) : x_tag w 56 = some (1, 96) := h.1 56 _ rfl
theorem g_a56 {w : x_W} (h : Sh w) (i : Int32) : x_ia w 56 i = x_ix i 96 := x_ia_eq (g_t56 h) (by decide) i
theorem g_t57 {w : x_W} (h : Sh w) : x_tag w 57 = some (1, 200) := h.1 57 _ rfl
theorem g_a57 {w : x_W} (h : Sh w) (i : Int32) : x_ia w 57 i = x_ix i 200 := x_ia_eq (g_t57 h) (by decide) i
theorem g_t58 {w : x_W} (h : Sh w) : x_tag w 58 = some (1, 200) := h.1 58 _ rfl
theorem g_a58 {w : x_W} (h : Sh w) (i : Int32) : x_ia w 58 i = x_ix i 200 := x_ia_eq (g_t58 h) (by decide) i
theorem g_t59 {w : x_W} (h : Sh w) : x_tag w 59 = some (1, 6) := h.1 59 _ rfl
theorem g_a59 {w : x_W} (h : Sh w) (i : Int32) : x_ia w 59 i = x_ix i 6 := x_ia_eq (g_t59 h) (by decide) i
theorem g_t60 {w : x_W} (h : Sh w) : x_tag w 60 = some (1, 20) := h.1 60 _ rfl
theorem g_a60 {w : x_W} (h : Sh w) (i : Int32) : x_ia w 60 i = x_ix i 20 := x_ia_eq (g_t60 h) (by decide) i
theorem g_t61 {w : x_W} (h : Sh w) : x_tag w 61 = some (1, 20) := h.1 61 _ rfl
theorem g_a61 {w : x_W} (h : Sh w) (i : Int32) : x_ia w 61 i = x_ix i 20 := x_ia_eq (g_t61 h) (by decide) i
theorem g_t62 {w : x_W} (h : Sh w) : x_tag w 62 = some (1, 20) := h.1 62 _ rfl
theorem g_a62 {w : x_W} (h : Sh w) (i : Int32) : x_ia w 62 i = x_ix i 20 := x_ia_eq (g_t62 h) (by decide) i
theorem g_t63 {w : x_W} (h : Sh w) : x_tag w 63 = some (1, 6) := h.1 63 _ rfl
theorem g_a63 {w : x_W} (h : Sh w) (i : Int32) : x_ia w 63 i = x_ix i 6 := x_ia_eq (g_t63 h) (by decide) i
theorem g_t64 {w : x_W} (h : Sh w) : x_tag w 64 = some (1, 6) := h.1 64 _ rfl
theorem g_a64 {w : x_W} (h : Sh w) (i : Int32) : x_ia w 64 i = x_ix i 6 := x_ia_eq (g_t64 h) (by decide) i
theorem g_t65 {w : x_W} (h : Sh w) : x_tag w 65 = some (1, 6) := h.1 65 _ rfl
theorem g_a65 {w : x_W} (h : Sh w) (i : Int32) : x_ia w 65 i = x_ix i 6 := x_ia_eq (g_t65 h) (by decide) i
theorem g_r0_0 {w : x_W} (h : Sh w) : x_r w 0 0 = .ref 1 := h.2 (0, 0, 1) (List.mem_of_getElem? (i := 0) rfl)
theorem g_r0_1 {w : x_W} (h : Sh w) : x_r w 0 1 = .ref 5 := h.2 (0, 1, 5) (List.mem_of_getElem? (i := 1) rfl)
theorem g_r0_4 {w : x_W} (h : Sh w) : x_r w 0 4 = .ref 22 := h.2 (0, 4, 22) (List.mem_of_getElem? (i := 2) rfl)
theorem g_r0_5 {w : x_W} (h : Sh w) : x_r w 0 5 = .ref 23 := h.2 (0, 5, 23) (List.mem_of_getElem? (i := 3) rfl)
theorem g_r0_6 {w : x_W} (h : Sh w) : x_r w 0 6 = .ref 6 := h.2 (0, 6, 6) (List.mem_of_getElem? (i := 4) rfl)
theorem g_r0_7 {w : x_W} (h : Sh w) : x_r w 0 7 = .ref 7 := h.2 (0, 7, 7) (List.mem_of_getElem? (i := 5) rfl)
theorem g_r1_0 {w : x_W} (h : Sh w) : x_r w 1 0 = .ref 2 := h.2 (1, 0, 2) (List.mem_of_getElem? (i := 6) rfl)
theorem g_r1_2 {w : x_W} (h : Sh w) : x_r w 1 2 = .ref 3 := h.2 (1, 2, 3) (List.mem_of_getElem? (i := 7) rfl)
theorem g_r1_4 {w : x_W} (h : Sh w) : x_r w 1 4 = .ref 4 := h.2 (1, 4, 4) (List.mem_of_getElem? (i := 8) rfl)
theorem g_r6_0 {w : x_W} (h : Sh w) : x_r w 6 0 = .ref 14 := h.2 (6, 0, 14) (List.mem_of_getElem? (i := 9) rfl)
theorem g_r6_1 {w : x_W} (h : Sh w) : x_r w 6 1 = .ref 16 := h.2 (6, 1, 16) (List.mem_of_getElem? (i := 10) rfl)
theorem g_r6_2 {w : x_W} (h : Sh w) : x_r w 6 2 = .ref 18 := h.2 (6, 2, 18) (List.mem_of_getElem? (i := 11) rfl)
theorem g_r6_3 {w : x_W} (h : Sh w) : x_r w 6 3 = .ref 20 := h.2 (6, 3, 20) (List.mem_of_getElem? (i := 12) rfl)
theorem g_r7_2 {w : x_W} (h : Sh w) : x_r w 7 2 = .ref 8 := h.2 (7, 2, 8) (List.mem_of_getElem? (i := 13) rfl)
theorem g_r7_4 {w : x_W} (h : Sh w) : x_r w 7 4 = .ref 9 := h.2 (7, 4, 9) (List.mem_of_getElem? (i := 14) rfl)
theorem g_r10_0 {w : x_W} (h : Sh w) : x_r w 10 0 = .ref 11 := h.2 (10, 0, 11) (List.mem_of_getElem? (i := 15) rfl)
theorem g_r10_1 {w : x_W} (h : Sh w) : x_r w 10 1 = .ref 12 := h.2 (10, 1, 12) (List.mem_of_getElem? (i := 16) rfl)
theorem g_r10_2 {w : x_W} (h : Sh w) : x_r w 10 2 = .ref 13 := h.2 (10, 2, 13) (List.mem_of_getElem? (i := 17) rfl)
theorem g_r14_2 {w : x_W} (h : Sh w) : x_r w 14 2 = .ref 15 := h.2 (14, 2, 15) (List.mem_of_getElem? (i := 18) rfl)
theorem g_r16_2 {w : x_W} (h : Sh w) : x_r w 16 2 = .ref 17 := h.2 (16, 2, 17) (List.mem_of_getElem? (i := 19) rfl)
theorem g_r18_2 {w : x_W} (h : Sh w) : x_r w 18 2 = .ref 19 := h.2 (18, 2, 19) (List.mem_of_getElem? (i := 20) rfl)
theorem g_r20_2 {w : x_W} (h : Sh w) : x_r w 20 2 = .ref 21 := h.2 (20, 2, 21) (List.mem_of_getElem? (i := 21) rfl)
theorem g_r22_0 {w : x_W} (h : Sh w) : x_r w 22 0 = .ref 23 := h.2 (22, 0, 23) (List.mem_of_getElem? (i := 22) rfl)
theorem g_r22_2 {w : x_W} (h : Sh w) : x_r w 22 2 = .ref 29 := h.2 (22, 2, 29) (List.mem_of_getElem? (i := 23) rfl)
theorem g_r22_3 {w : x_W} (h : Sh w) : x_r w 22 3 = .ref 30 := h.2 (22, 3, 30) (List.mem_of_getElem? (i := 24) rfl)
theorem g_r22_5 {w : x_W} (h : Sh w) : x_r w 22 5 = .ref 31 := h.2 (22, 5, 31) (List.mem_of_getElem? (i := 25) rfl)
theorem g_r22_6 {w : x_W} (h : Sh w) : x_r w 22 6 = .ref 32 := h.2 (22, 6, 32) (List.mem_of_getElem? (i := 26) rfl)
theorem g_r22_7 {w : x_W} (h : Sh w) : x_r w 22 7 = .ref 33 := h.2 (22, 7, 33) (List.mem_of_getElem? (i := 27) rfl)
theorem g_r22_8 {w : x_W} (h : Sh w) : x_r w 22 8 = .ref 34 := h.2 (22, 8, 34) (List.mem_of_getElem? (i := 28) rfl)
theorem g_r23_0 {w : x_W} (h : Sh w) : x_r w 23 0 = .ref 24 := h.2 (23, 0, 24) (List.mem_of_getElem? (i := 29) rfl)
theorem g_r23_2 {w : x_W} (h : Sh w) : x_r w 23 2 = .ref 25 := h.2 (23, 2, 25) (List.mem_of_getElem? (i := 30) rfl)
theorem g_r23_5 {w : x_W} (h : Sh w) : x_r w 23 5 = .ref 28 := h.2 (23, 5, 28) (List.mem_of_getElem? (i := 31) rfl)
theorem g_r29_0 {w : x_W} (h : Sh w) : x_r w 29 0 = .ref 35 := h.2 (29, 0, 35) (List.mem_of_getElem? (i := 32) rfl)
theorem g_r29_1 {w : x_W} (h : Sh w) : x_r w 29 1 = .ref 36 := h.2 (29, 1, 36) (List.mem_of_getElem? (i := 33) rfl)
theorem g_r29_2 {w : x_W} (h : Sh w) : x_r w 29 2 = .ref 37 := h.2 (29, 2, 37) (List.mem_of_getElem? (i := 34) rfl)
theorem g_r29_3 {w : x_W} (h : Sh w) : x_r w 29 3 = .ref 38 := h.2 (29, 3, 38) (List.mem_of_getElem? (i := 35) rfl)
theorem g_r29_4 {w : x_W} (h : Sh w) : x_r w 29 4 = .ref 39 := h.2 (29, 4, 39) (List.mem_of_getElem? (i := 36) rfl)
theorem g_r29_5 {w : x_W} (h : Sh w) : x_r w 29 5 = .ref 40 := h.2 (29, 5, 40) (List.mem_of_getElem? (i := 37) rfl)
theorem g_r41_0 {w : x_W} (h : Sh w) : x_r w 41 0 = .ref 42 := h.2 (41, 0, 42) (List.mem_of_getElem? (i := 38) rfl)
theorem g_r41_3 {w : x_W} (h : Sh w) : x_r w 41 3 = .ref 43 := h.2 (41, 3, 43) (List.mem_of_getElem? (i := 39) rfl)
theorem g_r41_4 {w : x_W} (h : Sh w) : x_r w 41 4 = .ref 44 := h.2 (41, 4, 44) (List.mem_of_getElem? (i := 40) rfl)
theorem g_r41_5 {w : x_W} (h : Sh w) : x_r w 41 5 = .ref 45 := h.2 (41, 5, 45) (List.mem_of_getElem? (i := 41) rfl)
theorem g_r41_6 {w : x_W} (h : Sh w) : x_r w 41 6 = .ref 46 := h.2 (41, 6, 46) (List.mem_of_getElem? (i := 42) rfl)
theorem g_r41_7 {w : x_W} (h : Sh w) : x_r w 41 7 = .ref 47 := h.2 (41, 7, 47) (List.mem_of_getElem? (i := 43) rfl)
theorem g_r41_9 {w : x_W} (h : Sh w) : x_r w 41 9 = .ref 48 := h.2 (41, 9, 48) (List.mem_of_getElem? (i := 44) rfl)
theorem g_r41_10 {w : x_W} (h : Sh w) : x_r w 41 10 = .ref 49 := h.2 (41, 10, 49) (List.mem_of_getElem? (i := 45) rfl)
theorem g_r41_17 {w : x_W} (h : Sh w) : x_r w 41 17 = .ref 50 := h.2 (41, 17, 50) (List.mem_of_getElem? (i := 46) rfl)
theorem g_r41_18 {w : x_W} (h : Sh w) : x_r w 41 18 = .ref 51 := h.2 (41, 18, 51) (List.mem_of_getElem? (i := 47) rfl)
theorem g_r41_19 {w : x_W} (h : Sh w) : x_r w 41 19 = .ref 52 := h.2 (41, 19, 52) (List.mem_of_getElem? (i := 48) rfl)
theorem g_r41_20 {w : x_W} (h : Sh w) : x_r w 41 20 = .ref 53 := h.2 (41, 20, 53) (List.mem_of_getElem? (i := 49) rfl)
theorem g_r41_21 {w : x_W} (h : Sh w) : x_r w 41 21 = .ref 54 := h.2 (41, 21, 54) (List.mem_of_getElem? (i := 50) rfl)
theorem g_r41_22 {w : x_W} (h : Sh w) : x_r w 41 22 = .ref 55 := h.2 (41, 22, 55) (List.mem_of_getElem? (i := 51) rfl)
theorem g_r41_27 {w : x_W} (h : Sh w) : x_r w 41 27 = .ref 56 := h.2 (41, 27, 56) (List.mem_of_getElem? (i := 52) rfl)
theorem g_r41_28 {w : x_W} (h : Sh w) : x_r w 41 28 = .ref 57 := h.2 (41, 28, 57) (List.mem_of_getElem? (i := 53) rfl)
theorem g_r41_32 {w : x_W} (h : Sh w) : x_r w 41 32 = .ref 58 := h.2 (41, 32, 58) (List.mem_of_getElem? (i := 54) rfl)
theorem g_r41_33 {w : x_W} (h : Sh w) : x_r w 41 33 = .ref 59 := h.2 (41, 33, 59) (List.mem_of_getElem? (i := 55) rfl)
theorem g_r41_34 {w : x_W} (h : Sh w) : x_r w 41 34 = .ref 60 := h.2 (41, 34, 60) (List.mem_of_getElem? (i := 56) rfl)
theorem g_r41_35 {w : x_W} (h : Sh w) : x_r w 41 35 = .ref 61 := h.2 (41, 35, 61) (List.mem_of_getElem? (i := 57) rfl)
theorem g_r41_36 {w : x_W} (h : Sh w) : x_r w 41 36 = .ref 62 := h.2 (41, 36, 62) (List.mem_of_getElem? (i := 58) rfl)
theorem g_r41_37 {w : x_W} (h : Sh w) : x_r w 41 37 = .ref 63 := h.2 (41, 37, 63) (List.mem_of_getElem? (i := 59) rfl)
theorem g_r41_38 {w : x_W} (h : Sh w) : x_r w 41 38 = .ref 64 := h.2 (41, 38, 64) (List.mem_of_getElem? (i := 60) rfl)
theorem g_r41_39 {w : x_W} (h : Sh w) : x_r w 41 39 = .ref 65 := h.2 (41, 39, 65) (List.mem_of_getElem? (i := 61) rfl)
-- rows of numbers: the first n places as f has them
theorem t_tag_si (w : x_W) (a k : Nat) (v : Int32) (b : Nat) : x_tag (x_si w a k v) b = x_tag w b := Eq.trans rfl rfl
theorem t_tag_sr (w : x_W) (a k : Nat) (v : Value) (b : Nat) : x_tag (x_sr w a k v) b = x_tag w b := Eq.trans rfl rfl
theorem t_tag_sI (w : x_W) (a : Nat) (f : Nat → Int32) (b : Nat) : x_tag (x_sI w a f) b = x_tag w b := Eq.trans rfl rfl
theorem t_r_sI (w : x_W) (a : Nat) (f : Nat → Int32) (b : Nat) : x_r (x_sI w a f) b = x_r w b := Eq.trans rfl rfl
def x_fn (n : Nat) (f g : Nat → Int32) : Nat → Int32 := fun k => if k < n then f k else g k
theorem x_fn_0 (f g : Nat → Int32) : x_fn 0 f g = g := by funext k; simp [x_fn]
theorem x_fn_in {n : Nat} {f g : Nat → Int32} {k : Nat} (h : k < n) : x_fn n f g k = f k := by simp [x_fn, h]
theorem x_fn_out {n : Nat} {f g : Nat → Int32} {k : Nat} (h : n ≤ k) : x_fn n f g k = g k := by simp [x_fn, Nat.not_lt.mpr h]
theorem x_fn_s (n : Nat) (f g : Nat → Int32) : upd (x_fn n f g) n (f n) = x_fn (n + 1) f g := by
  funext k
  unfold upd x_fn
  by_cases h : k = n
  · subst h; simp
  · by_cases h2 : k < n
    · rw [if_neg h, if_pos h2, if_pos (by omega)]
    · rw [if_neg h, if_neg h2, if_neg (by omega)]
theorem x_sI_id (w : x_W) (a : Nat) : x_sI w a (x_i w a) = w := by
  obtain ⟨T, i, r⟩ := w
  unfold x_sI x_i
  simp only [Prod.mk.injEq, true_and, and_true]
  funext b
  by_cases h : b = a
  · subst h; simp
  · simp [h]
theorem x_sI_sI (w : x_W) (a : Nat) (f g : Nat → Int32) : x_sI (x_sI w a f) a g = x_sI w a g := by
  obtain ⟨T, i, r⟩ := w
  unfold x_sI
  simp only [Prod.mk.injEq, true_and, and_true]
  funext b
  by_cases h : b = a <;> simp [h]
theorem x_sI_comm (w : x_W) {a b : Nat} (hab : a ≠ b) (f g : Nat → Int32) : x_sI (x_sI w a f) b g = x_sI (x_sI w b g) a f := by
  obtain ⟨T, i, r⟩ := w
  unfold x_sI
  simp only [Prod.mk.injEq, true_and, and_true]
  funext c
  by_cases h : c = a
  · subst h; simp [hab]
  · by_cases h2 : c = b
    · subst h2; simp [h]
    · simp [h, h2]
theorem x_si_sI (w : x_W) (a k : Nat) (f : Nat → Int32) (v : Int32) : x_si (x_sI w a f) a k v = x_sI w a (upd f k v) := by
  unfold x_si
  rw [x_i_sI, x_sI_sI]
theorem x_ix_lt {i : Int32} {n : Nat} (h : x_ix i n) : i.toNatClampNeg < n := Nat.not_le.mp fun q => h (Or.inr q)
theorem x_ix_iff {i : Int32} {n : Nat} : x_ix i n ↔ 0 ≤ i.toInt ∧ i.toInt < n := vp_in_iff
theorem nI_cl {n : Nat} (h : n < 2 ^ 31) : (nI n).toNatClampNeg = n := nI_clamp h
