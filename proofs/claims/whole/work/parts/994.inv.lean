/-! ===== what stands between the calls ===== -/
def wdL : List (List Nat) := [[116, 111, 108, 100], [109, 111, 114, 101], [102, 97, 114], [119, 101, 105, 103, 104, 116], [107, 110, 111, 116], [119, 104, 111], [102, 101, 108, 116], [115, 108, 111, 112, 101], [98, 101, 97, 114, 115], [111, 114], [97, 110, 100], [110, 111, 116]]
def wdC (q i : Nat) : Nat := (wdL.getD q []).getD i 32
def mqi (r : Nat) : Nat := if r < 3 then r + 6 else if r < 9 then r - 3 else r
def WD (w : x_W) : Prop := ∀ r i, r < 12 → i < 8 → x_i w 56 (8 * r + i) = nI (wdC (mqi r) i)
def TPE (w : x_W) : Prop := ∃ n, n ≤ 160 ∧ x_i w 1 1 = nI n ∧ x_i w 41 8 = nI n ∧ (∀ k, k < n → ∃ b, b ≤ 255 ∧ x_i w 2 k = nI b ∧ x_i w 47 k = nI b) ∧ WD w
def IMG (w : x_W) (S nt : Nat) : Prop := (x_i w 7 0 = nI 0 ∧ x_i w 41 13 = nI 0) ∨ (x_i w 7 0 = nI 1 ∧ x_i w 41 13 = nI 1 ∧ ∃ (S' r' : Nat) (kt' : Nat → Nat), S' ≤ S ∧ r' < nt ∧ (x_i w 7 5 = nI S' ∧ x_i w 41 14 = nI S') ∧ (x_i w 7 1 = nI r' ∧ x_i w 41 16 = nI r') ∧ x_i w 7 3 = x_i w 41 15 ∧ (∀ k, k < 20 → x_i w 8 k = x_i w 50 k) ∧ (∀ q, q < 6 → x_i w 9 q = nI (kt' q) ∧ x_i w 51 q = nI (kt' q) ∧ kt' q < 20) ∧ CdM (x_i w 8) ∧ Sy (x_i w 8))
def J (w : x_W) (S : Nat) (kd td mo kt : Nat → Nat) (nt r : Nat) (tls : Nat → Nat → Nat) (tks : Nat → Nat → Nat → Nat) (so : Nat → Int32) (sz : Nat → Nat) : Prop := AGT w S kd td mo kt nt r tls tks ∧ SHT w so sz ∧ TPE w ∧ IMG w S nt ∧ w.1.length = 62 + 4 * nt
def JJ (w : x_W) : Prop := ∃ (S : Nat) (kd td mo kt : Nat → Nat) (nt r : Nat) (tls : Nat → Nat → Nat) (tks : Nat → Nat → Nat → Nat) (so : Nat → Int32) (sz : Nat → Nat), J w S kd td mo kt nt r tls tks so sz
/-- a call answered alike by both, all standing afterwards -/
def CA (L : Nat) (xs : Nat → Int32) (d mx mm : Nat) (ax am : List Value) (w : x_W) : Prop := ∃ v w1 w', JJ w' ∧ (∀ Q, X_R L xs d mx 0 ax [] w Q = Q (some v) w1) ∧ ∀ Q, X_R L xs d mm 0 am [] w1 Q = Q (some v) w'
-- cells and places that may change
def gp (l : List Nat) (ps : List (Nat × Nat)) (b k : Nat) : Bool := l.elem b || ps.any (fun q => b == q.1 && k == q.2)
def lowC (x : Nat) : Bool := decide (x < 66) && x != 11 && x != 12
theorem gp_low {l : List Nat} {ps : List (Nat × Nat)} (hl : (l.all lowC) = true) (hp : (ps.all fun q => lowC q.1) = true) {b : Nat} (hb : lowC b = false) (k : Nat) : gp l ps b k = false := by
  unfold gp
  rw [Bool.or_eq_false_iff]
  constructor
  · cases hq : l.elem b with
    | false => rfl
    | true =>
      have h1 := List.all_eq_true.mp hl b (List.elem_iff.mp hq)
      rw [hb] at h1
      exact Bool.noConfusion h1
  · cases hq : ps.any (fun q => b == q.1 && k == q.2) with
    | false => rfl
    | true =>
      obtain ⟨q, hq1, hq2⟩ := List.any_eq_true.mp hq
      have h1 := List.all_eq_true.mp hp q hq1
      rw [Bool.and_eq_true, beq_iff_eq] at hq2
      rw [← hq2.1] at h1
      exact absurd h1 (by rw [hb]; decide)
theorem lowC_law {a : Nat} (ha : lawC a) : lowC (a + 1) = false ∧ lowC (a + 2) = false := by
  rcases ha with rfl | ⟨h1, h2, h3⟩
  · exact ⟨rfl, rfl⟩
  · unfold lowC
    rw [decide_eq_false (show ¬ a + 1 < 66 by omega), decide_eq_false (show ¬ a + 2 < 66 by omega)]
    exact ⟨rfl, rfl⟩
def KL (P : Nat → Nat → Bool) : Prop := ∀ a, lawC a → ∀ k, P (a + 1) k = false ∧ P (a + 2) k = false
theorem KL_gp {l : List Nat} {ps : List (Nat × Nat)} (hl : (l.all lowC) = true) (hp : (ps.all fun q => lowC q.1) = true) : KL (gp l ps) := fun _ ha k => ⟨gp_low hl hp (lowC_law ha).1 k, gp_low hl hp (lowC_law ha).2 k⟩
theorem KL_scO : KL scO := by
  intro a ha k
  have h := sc_law ha k
  unfold scO
  have e1 : (a + 1 == 41) = false := beq_false_of_ne (by rcases ha with rfl | ⟨_, _, _⟩ <;> omega)
  have e2 : (a + 2 == 41) = false := beq_false_of_ne (by rcases ha with rfl | ⟨_, _, _⟩ <;> omega)
  rw [h.1, h.2.1, e1, e2]
  exact ⟨rfl, rfl⟩
theorem sm_gp {l m : List Nat} {ps : List (Nat × Nat)} {w w' : x_W} (h : Ch (sm l) w w') (hl : (l.all fun x => m.elem x) = true) : Ch (gp m ps) w w' := h.mono fun b k hb => by
  unfold gp at hb
  rw [Bool.or_eq_false_iff] at hb
  unfold sm
  cases hq : l.elem b with
  | false => rfl
  | true => exact absurd (elem_sub hl b hq) (by rw [hb.1]; decide)
section S994a
variable {P : Nat → Nat → Bool} {w w' : x_W} {S nt r : Nat} {kd td mo kt : Nat → Nat} {tls : Nat → Nat → Nat} {tks : Nat → Nat → Nat → Nat} {so : Nat → Int32} {sz : Nat → Nat}
theorem TX.gen (h : TX w nt tls tks) (hc : Ch P w w') (h2 : P 0 2 = false) (hl : KL P) : TX w' nt tls tks := h.chR (ChR.of hc) h2 hl
theorem RX.gen (h : RX w r) (hc : Ch P w w') (h3 : P 0 3 = false) : RX w' r := ⟨by rw [hc.2.2 0 3 h3]; exact h.1, by rw [hc.r]; exact h.2⟩
theorem RM.gen (h : RM w r) (hc : Ch P w w') (h3 : P 41 12 = false) : RM w' r := by
  have h' : x_i w 41 12 = nI r := h
  show x_i w' 41 12 = nI r
  rw [hc.2.2 41 12 h3]
  exact h'
theorem AgC.gen (h : AgC w) (hc : Ch P w w') (h1 : ∀ k, P 24 k = false ∧ P 42 k = false) (h2 : P 23 1 = false) (h3 : P 41 1 = false) : AgC w' := by
  unfold AgC at *
  rw [hc.i (fun k => (h1 k).1), hc.i (fun k => (h1 k).2), hc.2.2 23 1 h2, hc.2.2 41 1 h3]
  exact h
theorem TPE.gen (h : TPE w) (hc : Ch P w w') (h1 : P 1 1 = false) (h2 : P 41 8 = false) (h3 : ∀ k, P 2 k = false ∧ P 47 k = false ∧ P 56 k = false) : TPE w' := by
  unfold TPE WD at *
  rw [hc.2.2 1 1 h1, hc.2.2 41 8 h2, hc.i (fun k => (h3 k).1), hc.i (fun k => (h3 k).2.1), hc.i (fun k => (h3 k).2.2)]
  exact h
theorem IMG.gen (h : IMG w S nt) (hc : Ch P w w') (h7 : ∀ k, P 7 k = false ∧ P 8 k = false ∧ P 9 k = false ∧ P 50 k = false ∧ P 51 k = false) (h41 : P 41 13 = false ∧ P 41 14 = false ∧ P 41 15 = false ∧ P 41 16 = false) : IMG w' S nt := by
  unfold IMG at *
  rw [hc.i (fun k => (h7 k).1), hc.i (fun k => (h7 k).2.1), hc.i (fun k => (h7 k).2.2.1), hc.i (fun k => (h7 k).2.2.2.1), hc.i (fun k => (h7 k).2.2.2.2), hc.2.2 41 13 h41.1, hc.2.2 41 14 h41.2.1, hc.2.2 41 15 h41.2.2.1, hc.2.2 41 16 h41.2.2.2]
  exact h
theorem IMG.up (h : IMG w S nt) {S2 nt2 : Nat} (h1 : S ≤ S2) (h2 : nt ≤ nt2) : IMG w S2 nt2 := by
  rcases h with h | ⟨a, b, S', r', kt', c, d', e⟩
  · exact Or.inl h
  · exact Or.inr ⟨a, b, S', r', kt', by omega, by omega, e⟩
/-- the sides' standing out of its pieces -/
theorem AGT.mk' (hX : CX w S kd td mo kt) (hM : CM w S kd td mo kt) (hF : FarOk w) (hA : AgC w) (hC : CdM (x_i w 24)) (hS : Sy (x_i w 24)) (hT : TX w nt tls tks) (hTM : TM w nt tls tks) (hR : RX w r) (hRM : RM w r) (hr : r < nt) : AGT w S kd td mo kt nt r tls tks := ⟨⟨⟨hX, hT.lw hr hR.2, hF⟩, ⟨hM, hTM.lw hT.2.1 hr hRM⟩, hA, hC, hS⟩, hT, hTM, hR, hRM, hr⟩
/-- what of the standing has to do with sleepers, cords, texts, isn't touched -/
def KA (P : Nat → Nat → Bool) : Prop := (P 22 4 = false ∧ P 0 2 = false ∧ P 0 3 = false ∧ P 23 1 = false ∧ P 41 1 = false ∧ P 41 2 = false ∧ P 41 11 = false ∧ P 41 12 = false) ∧ (∀ k, P 30 k = false ∧ P 24 k = false ∧ P 42 k = false ∧ P 43 k = false ∧ P 44 k = false ∧ P 45 k = false ∧ P 46 k = false ∧ P 48 k = false ∧ P 49 k = false) ∧ (∀ s, s < 6 → ∀ k, P (35 + s) k = false) ∧ KL P
theorem AGT.gen (h : AGT w S kd td mo kt nt r tls tks) (hc : Ch P w w') (hk : KA P) (hF : FarOk w') : AGT w' S kd td mo kt nt r tls tks := by
  obtain ⟨⟨k1, k2, k3, k4, k5, k6, k7, k8⟩, kc, ks, kl⟩ := hk
  obtain ⟨hG, hT, hTM, hR, hRM, hr⟩ := h
  have e24 : x_i w' 24 = x_i w 24 := hc.i (fun k => (kc k).2.1)
  exact AGT.mk' (hG.1.1.gen hc k1 (fun k => (kc k).1) ks (by rw [e24]; exact hG.1.1.nb)) (hG.2.1.1.gen hc k6 (fun k => ⟨(kc k).2.2.2.1, (kc k).2.2.2.2.1, (kc k).2.2.2.2.2.1, (kc k).2.2.2.2.2.2.1⟩)) hF (hG.2.2.1.gen hc (fun k => ⟨(kc k).2.1, (kc k).2.2.1⟩) k4 k5) (by rw [e24]; exact hG.2.2.2.1) (by rw [e24]; exact hG.2.2.2.2) (hT.gen hc k2 kl) (hTM.ch hc k7 (fun k => ⟨(kc k).2.2.2.2.2.2.2.2, (kc k).2.2.2.2.2.2.2.1⟩)) (hR.gen hc k3) (hRM.gen hc k8) hr
theorem KA_scO : KA scO := ⟨⟨rfl, rfl, rfl, rfl, rfl, rfl, rfl, rfl⟩, fun _ => ⟨rfl, rfl, rfl, rfl, rfl, rfl, rfl, rfl, rfl⟩, six ⟨fun _ => rfl, fun _ => rfl, fun _ => rfl, fun _ => rfl, fun _ => rfl, fun _ => rfl⟩, KL_scO⟩
theorem Ch.len (hc : Ch P w w') {n : Nat} (h : w.1.length = n) : w'.1.length = n := by rw [hc.1]; exact h
theorem J.scO (h : J w S kd td mo kt nt r tls tks so sz) (hc : Ch scO w w') (hF : FarOk w') : J w' S kd td mo kt nt r tls tks so sz := ⟨h.1.gen hc KA_scO hF, h.2.1.gen hc (four ⟨fun _ => ⟨rfl, rfl⟩, fun _ => ⟨rfl, rfl⟩, fun _ => ⟨rfl, rfl⟩, fun _ => ⟨rfl, rfl⟩⟩) (fun _ => ⟨rfl, rfl, rfl⟩), h.2.2.1.gen hc rfl rfl (fun _ => ⟨rfl, rfl, rfl⟩), h.2.2.2.1.gen hc (fun _ => ⟨rfl, rfl, rfl, rfl, rfl⟩) ⟨rfl, rfl, rfl, rfl⟩, hc.len h.2.2.2.2⟩
theorem J.jj (h : J w S kd td mo kt nt r tls tks so sz) : JJ w := ⟨S, kd, td, mo, kt, nt, r, tls, tks, so, sz, h⟩
theorem J.ag (h : J w S kd td mo kt nt r tls tks so sz) : AG w S kd td mo kt (tls r) (tks r) := h.1.1
theorem J.sh (h : J w S kd td mo kt nt r tls tks so sz) : Sh w := h.1.1.1.sh
/-- everything but sleepers, cords, texts isn't touched -/
def KO (P : Nat → Nat → Bool) : Prop := (∀ s, s < 4 → ∀ k, P (14 + 2 * s) k = false ∧ P (15 + 2 * s) k = false) ∧ (∀ k, P 52 k = false ∧ P 53 k = false ∧ P 54 k = false ∧ P 2 k = false ∧ P 47 k = false ∧ P 7 k = false ∧ P 8 k = false ∧ P 9 k = false ∧ P 50 k = false ∧ P 51 k = false ∧ P 56 k = false) ∧ P 1 1 = false ∧ P 41 8 = false ∧ P 41 13 = false ∧ P 41 14 = false ∧ P 41 15 = false ∧ P 41 16 = false
theorem J.of (h : J w S kd td mo kt nt r tls tks so sz) (hc : Ch P w w') (ho : KO P) {S2 : Nat} (hS : S ≤ S2) {kd2 td2 mo2 kt2 : Nat → Nat} {r2 : Nat} (h2 : AGT w' S2 kd2 td2 mo2 kt2 nt r2 tls tks) : J w' S2 kd2 td2 mo2 kt2 nt r2 tls tks so sz := ⟨h2, h.2.1.gen hc ho.1 (fun k => ⟨(ho.2.1 k).1, (ho.2.1 k).2.1, (ho.2.1 k).2.2.1⟩), h.2.2.1.gen hc ho.2.2.1 ho.2.2.2.1 (fun k => ⟨(ho.2.1 k).2.2.2.1, (ho.2.1 k).2.2.2.2.1, (ho.2.1 k).2.2.2.2.2.2.2.2.2.2⟩), (h.2.2.2.1.gen hc (fun k => ⟨(ho.2.1 k).2.2.2.2.2.1, (ho.2.1 k).2.2.2.2.2.2.1, (ho.2.1 k).2.2.2.2.2.2.2.1, (ho.2.1 k).2.2.2.2.2.2.2.2.1, (ho.2.1 k).2.2.2.2.2.2.2.2.2.1⟩) ho.2.2.2.2).up hS (Nat.le_refl _), hc.len h.2.2.2.2⟩
variable {L : Nat} {xs : Nat → Int32} {d : Nat}
theorem AQo.ca {mx mm : Nat} {ax am : List Value} (h : AQo L xs d mx mm ax am w) (hJ : J w S kd td mo kt nt r tls tks so sz) : CA L xs d mx mm ax am w := by
  obtain ⟨v, w1, w2, c, hF, e1, e2⟩ := h
  exact ⟨v, w1, w2, (hJ.scO c hF).jj, e1, e2⟩
theorem AQ.ca {mx mm : Nat} {ax am : List Value} (h : AQ L xs d mx mm ax am w) (hJ : J w S kd td mo kt nt r tls tks so sz) : CA L xs d mx mm ax am w := h.o.ca hJ
theorem CA_no {mx mm : Nat} {ax am : List Value} {v : Value} (hJ : J w S kd td mo kt nt r tls tks so sz) (h1 : ∀ Q, X_R L xs d mx 0 ax [] w Q = Q (some v) w) (h2 : ∀ Q, X_R L xs d mm 0 am [] w Q = Q (some v) w) : CA L xs d mx mm ax am w := ⟨v, w, w, hJ.jj, h1, h2⟩
theorem KO_chL : KO chL := ⟨four ⟨fun _ => ⟨rfl, rfl⟩, fun _ => ⟨rfl, rfl⟩, fun _ => ⟨rfl, rfl⟩, fun _ => ⟨rfl, rfl⟩⟩, fun _ => ⟨rfl, rfl, rfl, rfl, rfl, rfl, rfl, rfl, rfl, rfl, rfl⟩, rfl, rfl, rfl, rfl, rfl, rfl⟩
theorem KL_chL : KL chL := by
  intro a ha k
  have h := sc_law ha k
  have e1 : (a + 1 == 30) = false ∧ (a + 1 == 46) = false ∧ (a + 2 == 30) = false ∧ (a + 2 == 46) = false := by
    rcases ha with rfl | ⟨_, _, _⟩
    · exact ⟨rfl, rfl, rfl, rfl⟩
    · exact ⟨beq_false_of_ne (by omega), beq_false_of_ne (by omega), beq_false_of_ne (by omega), beq_false_of_ne (by omega)⟩
  unfold chL orc
  rw [h.1, h.2.1, e1.1, e1.2.1, e1.2.2.1, e1.2.2.2]
  exact ⟨rfl, rfl⟩
theorem AL.ca {mx mm : Nat} {ax am : List Value} (h : AL L xs d mx mm ax am w) (hJ : J w S kd td mo kt nt r tls tks so sz) : CA L xs d mx mm ax am w := by
  obtain ⟨v, w1, w2, kt', c, hF, hl, e1, e2⟩ := h
  refine ⟨v, w1, w2, (hJ.of c KO_chL (Nat.le_refl _) (kd2 := kd) (td2 := td) (mo2 := mo) (kt2 := kt') (r2 := r) ?_).jj, e1, e2⟩
  obtain ⟨hG, hT, hTM, hR, hRM, hr⟩ := hJ.1
  have e24 : x_i w2 24 = x_i w 24 := c.i (fun _ => rfl)
  have hX : CX w2 S kd td mo kt' := by
    refine ⟨c.sh hG.1.sh, c.sd hG.1.1.sd, by rw [c.2.2 22 4 rfl]; exact hG.1.1.hS, hG.1.1.S6, ⟨fun s hs => ?_, fun s hs => ?_⟩, fun s hs => ?_, by rw [e24]; exact hG.1.1.nb⟩
    · have h1 := hG.1.1.X.1 s hs
      rw [c.i (six (p := fun s => ∀ k, chL (35 + s) k = false) ⟨fun _ => rfl, fun _ => rfl, fun _ => rfl, fun _ => rfl, fun _ => rfl, fun _ => rfl⟩ s hs)]
      exact ⟨h1.1, h1.2.1, h1.2.2.1, (hl s hs).1⟩
    · have h6 := hG.1.1.S6
      rw [c.i (six (p := fun s => ∀ k, chL (35 + s) k = false) ⟨fun _ => rfl, fun _ => rfl, fun _ => rfl, fun _ => rfl, fun _ => rfl, fun _ => rfl⟩ s (by omega))]
      exact hG.1.1.X.2 s hs
    · have h1 := hG.1.1.bd s hs
      exact ⟨h1.1, h1.2.1, h1.2.2.1, (hl s hs).2.2⟩
  have hM : CM w2 S kd td mo kt' := by
    refine ⟨c.sh hG.1.sh, by rw [c.2.2 41 2 rfl]; exact hG.2.1.1.hS, hG.1.1.S6, fun s hs => ?_⟩
    have h1 := hG.2.1.1.M s hs
    rw [c.i (fun _ => rfl : ∀ k, chL 43 k = false), c.i (fun _ => rfl : ∀ k, chL 44 k = false), c.i (fun _ => rfl : ∀ k, chL 45 k = false)]
    exact ⟨h1.1, h1.2.1, h1.2.2.1, (hl s hs).2⟩
  exact AGT.mk' hX hM hF (hG.2.2.1.gen c (fun _ => ⟨rfl, rfl⟩) rfl rfl) (by rw [e24]; exact hG.2.2.2.1) (by rw [e24]; exact hG.2.2.2.2) (hT.gen c rfl KL_chL) (hTM.ch c rfl (fun _ => ⟨rfl, rfl⟩)) (hR.gen c rfl) (hRM.gen c rfl) hr
end S994a
