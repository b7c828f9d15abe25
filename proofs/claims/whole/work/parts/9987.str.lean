/-! ===== strings ===== -/
def sE (a : Nat) : Prop := 1000 ≤ a ∧ a < 1028 ∧ a % 2 = 0
def sO (a : Nat) : Prop := 1000 ≤ a ∧ a < 1028 ∧ a % 2 = 1
theorem sE.o {a : Nat} (h : sE a) : sO (a + 1) := by unfold sE sO at *; omega
def chV (v : Int32) : Int32 := ((v &&& nI 255).toUInt32 % 65536).toInt32
theorem nI1 : (1 : Int32) = nI 1 := rfl
theorem s_0 (x : Int32) : x >>> (nI 0 &&& 31) = x := by
  show x >>> (0 : Int32) = x
  apply Int32.toBitVec_inj.mp
  simp
section S9987
variable {L : Nat} {xs : Nat → Int32} {d : Nat} {w : x_W} {Q : Option Value → x_W → Prop}
theorem S233 {a : Nat} (hA : sE a) : X_R L xs d 233 0 [.ref a] [] w Q = Q (some (.int (nI 0))) w := by
  have n0 : narrow .byte (.int (nI 0)) = .int (nI 0) := by decide
  simp only [X233_0, X233_3, X233_6, X233_10, X233_7 hA, X233_14 n0, Nat.zero_le, and_true, true_and, x_nb0, x_nb1, x_nbp, x_isL_int, x_isL_ref, x_isL_junk, x_isR_ref, x_cat_nil, x_cat_int, x_cat_ref, x_cat_long, Option.toList_some, Option.toList_none, List.cons_append, List.nil_append, Nat.reduceAdd, Nat.reduceLeDiff, Nat.reduceLT, t_tag_si, t_tag_sr, t_tag_sI, x_r_si, x_i_sr, t_r_sI, x_ia_si, x_ia_sI, x_ia_sr, x_ra_si, x_ra_sI, x_ra_sr, nI1, n10, if_false]
theorem S235 {a : Nat} (hA : sE a) : X_R L xs d 235 0 [.ref a] [] w Q = Q (some (.int (nI 1))) w := by
  simp only [X235_0, X235_3, X235_6, X235_10, X235_13, X235_14, X235_17, X235_18, X235_7 hA, Nat.zero_le, and_true, true_and, x_nb0, x_nb1, x_nbp, x_isL_int, x_isL_ref, x_isL_junk, x_isR_ref, x_cat_nil, x_cat_int, x_cat_ref, x_cat_long, Option.toList_some, Option.toList_none, List.cons_append, List.nil_append, Nat.reduceAdd, Nat.reduceLeDiff, Nat.reduceLT, t_tag_si, t_tag_sr, t_tag_sI, x_r_si, x_i_sr, t_r_sI, x_ia_si, x_ia_sI, x_ia_sr, x_ra_si, x_ra_sI, x_ra_sr, nI1, n10, if_false, if_true]
theorem S232 {a N : Nat} (hA : sE a) (hl : (x_sbyt ((a + 1 - 1000) / 2)).length = N) : X_R L xs (d + 1) 232 0 [.ref a] [] w Q = Q (some (.int (nI N))) w := by
  simp only [X232_0, X232_5, X232_9, X232_10, X232_1 hA, X232_4 hA.o, hl, X232_6 hA, Nat.zero_le, and_true, true_and, x_nb0, x_nb1, x_nbp, x_isL_int, x_isL_ref, x_isL_junk, x_isR_ref, x_cat_nil, x_cat_int, x_cat_ref, x_cat_long, Option.toList_some, Option.toList_none, List.cons_append, List.nil_append, Nat.reduceAdd, Nat.reduceLeDiff, Nat.reduceLT, t_tag_si, t_tag_sr, t_tag_sI, x_r_si, x_i_sr, t_r_sI, x_ia_si, x_ia_sI, x_ia_sr, x_ra_si, x_ra_sI, x_ra_sr, S233 hA, s_0]
theorem S246 {i n : Nat} (hi : i < n) (hn : n < 2 ^ 31) {v : Value} : X_R L xs d 246 0 [.int (nI i), .int (nI n), v] [] w Q = Q (some (.int (nI i))) w := by
  simp only [X246_0, X246_1, X246_4, X246_5, X246_6, X246_9, X246_10, X246_11, X246_16, X246_17, Nat.zero_le, and_true, true_and, x_nb0, x_nb1, x_nbp, x_isL_int, x_isL_ref, x_isL_junk, x_isR_ref, x_cat_nil, x_cat_int, x_cat_ref, x_cat_long, Option.toList_some, Option.toList_none, List.cons_append, List.nil_append, Nat.reduceAdd, Nat.reduceLeDiff, Nat.reduceLT, t_tag_si, t_tag_sr, t_tag_sI, x_r_si, x_i_sr, t_r_sI, x_ia_si, x_ia_sI, x_ia_sr, x_ra_si, x_ra_sI, x_ra_sr, nI_ltF (Nat.zero_le i) (show i < 2 ^ 31 by omega), nI_ltT hi hn, if_false, if_true]
theorem S236 {i n : Nat} (hi : i < n) (hn : n < 2 ^ 31) : X_R L xs (d + 1) 236 0 [.int (nI i), .int (nI n)] [] w Q = Q none w := by
  simp only [X236_0, X236_1, X236_2, X236_5, X236_8, X236_8r, X236_9, Nat.zero_le, and_true, true_and, x_nb0, x_nb1, x_nbp, x_isL_int, x_isL_ref, x_isL_junk, x_isR_ref, x_cat_nil, x_cat_int, x_cat_ref, x_cat_long, Option.toList_some, Option.toList_none, List.cons_append, List.nil_append, Nat.reduceAdd, Nat.reduceLeDiff, Nat.reduceLT, t_tag_si, t_tag_sr, t_tag_sI, x_r_si, x_i_sr, t_r_sI, x_ia_si, x_ia_sI, x_ia_sr, x_ra_si, x_ra_sI, x_ra_sr, S246 hi hn]
theorem S239 {a N i : Nat} (hA : sE a) (hl : (x_sbyt ((a + 1 - 1000) / 2)).length = N) (hN : N < 64) (hi : i < N) (hc : narrow .char (.int (chV ((x_sbyt ((a + 1 - 1000) / 2)).getD i 0))) = .int (chV ((x_sbyt ((a + 1 - 1000) / 2)).getD i 0))) : X_R L xs (d + 2) 239 0 [.ref (a + 1), .int (nI i)] [] w Q = Q (some (.int (chV ((x_sbyt ((a + 1 - 1000) / 2)).getD i 0)))) w := by
  have tx : x_ix (nI i) (x_sbyt ((a + 1 - 1000) / 2)).length := by rw [hl]; exact x_ix_nI hi (by omega)
  have h2 := fun (Q' : Option Value → x_W → Prop) => S236 (L := L) (xs := xs) (d := d) (w := w) (Q := Q') hi (show N < 2 ^ 31 by omega)
  simp only [X239_0, X239_1, X239_3, X239_6, X239_7, X239_9, X239_12, X239_13, X239_2 hA.o, hl, Nat.zero_le, and_true, true_and, x_nb0, x_nb1, x_nbp, x_isL_int, x_isL_ref, x_isL_junk, x_isR_ref, x_cat_nil, x_cat_int, x_cat_ref, x_cat_long, Option.toList_some, Option.toList_none, List.cons_append, List.nil_append, Nat.reduceAdd, Nat.reduceLeDiff, Nat.reduceLT, t_tag_si, t_tag_sr, t_tag_sI, x_r_si, x_i_sr, t_r_sI, x_ia_si, x_ia_sI, x_ia_sr, x_ra_si, x_ra_sI, x_ra_sr, h2, X239_8 hA.o tx, nI_cl (show i < 2 ^ 31 by omega)]
  exact X239_14 hc
theorem S234 {a N i : Nat} (hA : sE a) (hl : (x_sbyt ((a + 1 - 1000) / 2)).length = N) (hN : N < 64) (hi : i < N) (hc : narrow .char (.int (chV ((x_sbyt ((a + 1 - 1000) / 2)).getD i 0))) = .int (chV ((x_sbyt ((a + 1 - 1000) / 2)).getD i 0))) : X_R L xs (d + 3) 234 0 [.ref a, .int (nI i)] [] w Q = Q (some (.int (chV ((x_sbyt ((a + 1 - 1000) / 2)).getD i 0)))) w := by
  simp only [X234_0, X234_4, X234_7, X234_11, X234_12, X234_1 hA, X234_8 hA, Nat.zero_le, and_true, true_and, x_nb0, x_nb1, x_nbp, x_isL_int, x_isL_ref, x_isL_junk, x_isR_ref, x_cat_nil, x_cat_int, x_cat_ref, x_cat_long, Option.toList_some, Option.toList_none, List.cons_append, List.nil_append, Nat.reduceAdd, Nat.reduceLeDiff, Nat.reduceLT, t_tag_si, t_tag_sr, t_tag_sI, x_r_si, x_i_sr, t_r_sI, x_ia_si, x_ia_sI, x_ia_sr, x_ra_si, x_ra_sI, x_ra_sr, S235 hA, n10, if_false, S239 hA hl hN hi hc]
  exact X234_15 hc
theorem S241 {b : Nat} (hb : b ≤ 255) : X_R L xs d 241 0 [.int (nI b)] [] w Q = Q (some (.int (nI 1))) w := by
  simp only [X241_0, X241_1, X241_4, X241_5, X241_8, X241_11, X241_12, X241_15, X241_16, Nat.zero_le, and_true, true_and, x_nb0, x_nb1, x_nbp, x_isL_int, x_isL_ref, x_isL_junk, x_isR_ref, x_cat_nil, x_cat_int, x_cat_ref, x_cat_long, Option.toList_some, Option.toList_none, List.cons_append, List.nil_append, Nat.reduceAdd, Nat.reduceLeDiff, Nat.reduceLT, t_tag_si, t_tag_sr, t_tag_sI, x_r_si, x_i_sr, t_r_sI, x_ia_si, x_ia_sI, x_ia_sr, x_ra_si, x_ra_sI, x_ra_sr, nI_ltF (Nat.zero_le b) (show b < 2 ^ 31 by omega), nI_ltF hb (show 255 < 2 ^ 31 by decide), if_false]
/-- where a byte stands among a string's bytes, from place j on; n places are left -/
def ixO (a : Nat) (c : Int32) : Nat → Nat → Int32
  | 0, _ => -1
  | n + 1, j => if (x_sbyt ((a + 1 - 1000) / 2)).getD j 0 = c then nI j else ixO a c n (j + 1)
theorem S242l {a N : Nat} (hA : sE a) (hl : (x_sbyt ((a + 1 - 1000) / 2)).length = N) (hN : N < 64) (c v2 v3 : Int32) : ∀ n j, j + n = N → X_R L xs d 242 7 [.ref (a + 1), .int v2, .int v3, .int (nI N), .int c, .int (nI j)] [] w Q = Q (some (.int (ixO a c n j))) w := by
  intro n
  induction n with
  | zero =>
    intro j hj
    obtain rfl : j = N := by omega
    simp only [X242_7, X242_9, X242_10, X242_31, X242_32, Nat.zero_le, and_true, true_and, x_nb0, x_nb1, x_nbp, x_isL_int, x_isL_ref, x_isL_junk, x_isR_ref, x_cat_nil, x_cat_int, x_cat_ref, x_cat_long, Option.toList_some, Option.toList_none, List.cons_append, List.nil_append, Nat.reduceAdd, Nat.reduceLeDiff, Nat.reduceLT, t_tag_si, t_tag_sr, t_tag_sI, x_r_si, x_i_sr, t_r_sI, x_ia_si, x_ia_sI, x_ia_sr, x_ra_si, x_ra_sI, x_ra_sr, nI_leT (Nat.le_refl j) (show j < 2 ^ 31 by omega), if_true]
    rfl
  | succ n ih =>
    intro j hj
    have tx : x_ix (nI j) (x_sbyt ((a + 1 - 1000) / 2)).length := by rw [hl]; exact x_ix_nI (by omega) (by omega)
    unfold ixO
    by_cases h : (x_sbyt ((a + 1 - 1000) / 2)).getD j 0 = c
    · simp only [X242_7, X242_9, X242_10, X242_13, X242_14, X242_17, X242_19, X242_22, X242_24, Nat.zero_le, and_true, true_and, x_nb0, x_nb1, x_nbp, x_isL_int, x_isL_ref, x_isL_junk, x_isR_ref, x_cat_nil, x_cat_int, x_cat_ref, x_cat_long, Option.toList_some, Option.toList_none, List.cons_append, List.nil_append, Nat.reduceAdd, Nat.reduceLeDiff, Nat.reduceLT, t_tag_si, t_tag_sr, t_tag_sI, x_r_si, x_i_sr, t_r_sI, x_ia_si, x_ia_sI, x_ia_sr, x_ra_si, x_ra_sI, x_ra_sr, nI_leF (show j < N by omega) (show N < 2 ^ 31 by omega), if_false, X242_16 hA.o tx, nI_cl (show j < 2 ^ 31 by omega), eq_true h, if_true]
    · rw [if_neg h, ← ih (j + 1) (by omega)]
      simp only [X242_7, X242_9, X242_10, X242_13, X242_14, X242_17, X242_19, X242_25, X242_28, Nat.zero_le, and_true, true_and, x_nb0, x_nb1, x_nbp, x_isL_int, x_isL_ref, x_isL_junk, x_isR_ref, x_cat_nil, x_cat_int, x_cat_ref, x_cat_long, Option.toList_some, Option.toList_none, List.cons_append, List.nil_append, Nat.reduceAdd, Nat.reduceLeDiff, Nat.reduceLT, t_tag_si, t_tag_sr, t_tag_sI, x_r_si, x_i_sr, t_r_sI, x_ia_si, x_ia_sI, x_ia_sr, x_ra_si, x_ra_sI, x_ra_sr, nI_leF (show j < N by omega) (show N < 2 ^ 31 by omega), if_false, X242_16 hA.o tx, nI_cl (show j < 2 ^ 31 by omega), eq_false h, nI_add]
theorem S240 {a N b : Nat} (hA : sE a) (hl : (x_sbyt ((a + 1 - 1000) / 2)).length = N) (hN : N < 64) (h0 : 0 < N) (hb : b ≤ 255) : X_R L xs (d + 1) 240 0 [.ref (a + 1), .int (nI b), .int (nI 0), .int (nI N)] [] w Q = Q (some (.int (ixO a (nI b).toInt8.toInt32 N 0))) w := by
  have m0 : (if nI 0 < nI 0 then nI 0 else nI 0) = nI 0 := by split <;> rfl
  have m1 : (if nI N < nI N then nI N else nI N) = nI N := by split <;> rfl
  have h2 := fun (v2 v3 : Int32) (Q' : Option Value → x_W → Prop) => S242l (L := L) (xs := xs) (d := d) (w := w) (Q := Q') hA hl hN (nI b).toInt8.toInt32 v2 v3 N 0 (by omega)
  simp only [X240_0, X240_1, X240_4, X240_9, X240_10, X240_11, X240_14, X240_15, X240_16, X240_18, X240_21, X240_22, X240_23, X240_24, X240_29, X240_30, X240_31, X240_32, X240_33, X240_36, X240_17 hA.o, hl, Nat.zero_le, and_true, true_and, x_nb0, x_nb1, x_nbp, x_isL_int, x_isL_ref, x_isL_junk, x_isR_ref, x_cat_nil, x_cat_int, x_cat_ref, x_cat_long, Option.toList_some, Option.toList_none, List.cons_append, List.nil_append, Nat.reduceAdd, Nat.reduceLeDiff, Nat.reduceLT, t_tag_si, t_tag_sr, t_tag_sI, x_r_si, x_i_sr, t_r_sI, x_ia_si, x_ia_sI, x_ia_sr, x_ra_si, x_ra_sI, x_ra_sr, S241 hb, n10, if_false, m0, m1, nI_ltT h0 (show N < 2 ^ 31 by omega), if_true, X242_0, X242_1, X242_2, X242_4, X242_5, h2]
theorem S237 {a N b : Nat} (hA : sE a) (hl : (x_sbyt ((a + 1 - 1000) / 2)).length = N) (hN : N < 64) (h0 : 0 < N) (hb : b ≤ 255) : X_R L xs (d + 3) 237 0 [.ref a, .int (nI b)] [] w Q = Q (some (.int (ixO a (nI b).toInt8.toInt32 N 0))) w := by
  simp only [X237_0, X237_1, X237_2, X237_6, X237_3 hA, Nat.zero_le, and_true, true_and, x_nb0, x_nb1, x_nbp, x_isL_int, x_isL_ref, x_isL_junk, x_isR_ref, x_cat_nil, x_cat_int, x_cat_ref, x_cat_long, Option.toList_some, Option.toList_none, List.cons_append, List.nil_append, Nat.reduceAdd, Nat.reduceLeDiff, Nat.reduceLT, t_tag_si, t_tag_sr, t_tag_sI, x_r_si, x_i_sr, t_r_sI, x_ia_si, x_ia_sI, x_ia_sr, x_ra_si, x_ra_sI, x_ra_sr, X238_0, X238_4, X238_7, X238_11, X238_12, X238_13, X238_17, X238_20, X238_36, X238_1 hA, X238_8 hA, X238_14 hA, S235 hA, n10, if_false, S232 hA hl, S240 hA hl hN h0 hb]
end S9987
