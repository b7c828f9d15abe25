/-! ===== the tables of sites: each stands on the Statement's words ===== -/
def x_gw : List Jvm.Cond := lw_tbl.filter goodWord
def x_w (i : Nat) (w : Jvm.Cond) : Bool := decide (lw_tbl[i]? = some w) && goodWord w
theorem x_w_mem {i : Nat} {w : Jvm.Cond} (h : x_w i w = true) : w ∈ x_gw := by
  simp only [x_w, Bool.and_eq_true, decide_eq_true_eq] at h
  exact List.mem_filter.mpr ⟨List.mem_of_getElem? h.1, h.2⟩
def x_pn (y : MethodName) (n : Nat) : Bool := decide ((parseMethodDescriptor y.desc).map (fun d => d.parameters.length) = some n)
def x_mh (y : MethodName) : Bool := decide (y.cls ≠ "java/lang/invoke/MethodHandle") && decide (y.cls ≠ "java/lang/invoke/VarHandle") && plainName y.cls
-- a method's row: its code word, its class
def x_cw (me : x_M) : Jvm.Cond := .code me.2.1 me.2.2.1 me.2.2.2.1 me.2.2.2.2.1
def x_meB (me : x_M) : Bool := decide (me.2.1.cls = x_own me.1) && x_mh me.2.1 && decide (me.2.2.2.1 ≤ 40)
def x_wb (i : Nat) (w : Jvm.Cond) : Bool := decide (lw_tbl[i]? = some w)
def x_csB (e : (Nat × Nat) × (Nat × Nat) × List Nat) : Bool := match e with
  | ((oc, idx), (k, mid), ps) => decide (0 < mid) && decide (mid < 247) && match k, ps with
    | 0, [a, b, c] => x_w a (.methodLink (x_own oc) idx (x_y mid)) && x_w b (.static (x_y mid)) && x_w c (.initialized (x_y mid).cls) && x_pn (x_y mid) (x_na mid)
    | 1, [a, b, c, d] => x_w a (.methodLink (x_own oc) idx (x_y mid)) && x_w b (.instanceMethod (x_y mid)) && x_w c (.initialized (x_y mid).cls) && x_w d (.selects (x_y mid).cls (x_y mid) (x_y mid)) && x_pn (x_y mid) (x_na mid - 1) && decide (0 < x_na mid)
    | 2, [a, b, c] => x_w a (.methodLink (x_own oc) idx (x_y mid)) && x_w b (.instanceMethod (x_y mid)) && x_w c (.initialized (x_y mid).cls) && decide ((x_y mid).name = "<init>") && x_pn (x_y mid) (x_na mid - 1) && decide (0 < x_na mid) && decide (x_rt mid = none)
    | 3, [a, b, c] => x_wb a (.methodLinkNest (x_own oc) idx (x_y mid) "OneNet") && x_w b (.instanceMethod (x_y mid)) && x_w c (.initialized (x_y mid).cls) && decide ((x_y mid).name = "<init>") && x_pn (x_y mid) (x_na mid - 1) && decide (0 < x_na mid) && decide (x_rt mid = none)
    | 4, [a, b, c] => x_wb a (.methodLinkNest (x_own oc) idx (x_y mid) "OneNet") && x_w b (.static (x_y mid)) && x_w c (.initialized (x_y mid).cls) && x_pn (x_y mid) (x_na mid)
    | _, _ => false
def x_fsB (e : (Nat × Nat) × (Nat × Nat) × List Nat) : Bool := match e with
  | ((oc, idx), (ci, k), [a]) => decide (ci < 9) && decide (k < x_nf ci) && decide ((x_T ci k).1 = x_own ci) && x_w a (.fieldLink (x_own oc) idx (x_own ci) (x_T ci k).2.1 (x_T ci k).2.2.1)
  | _ => false
def x_nsB (e : (Nat × Nat) × Nat × List Nat) : Bool := match e with
  | ((oc, idx), ci, [a, b, c]) => decide (ci < 9) && x_w a (.classLink (x_own oc) idx (x_own ci)) && x_w b (.instantiable (x_own ci) (x_nf ci)) && x_w c (.initialized (x_own ci))
  | _ => false
def x_asB (e : (Nat × Nat) × Nat × List Nat) : Bool := match e with
  | ((oc, idx), t, [a, b]) => decide (0 < t) && decide (t < 4) && x_w a (.classLink (x_own oc) idx (x_own (x_el t))) && x_wb b (.arrayOver (.object (x_own (x_el t))))
  | _ => false
def x_kiB (e : (Nat × Nat) × Int32 × List Nat) : Bool := match e with
  | ((oc, idx), v, [a]) => x_w a (.constant (x_own oc) idx v)
  | _ => false
def x_klB (e : (Nat × Nat) × Int64 × List Nat) : Bool := match e with
  | ((oc, idx), v, [a]) => x_w a (.constantLong (x_own oc) idx v)
  | _ => false
-- (a constant text's word isn't one that a method hands on)
def x_ksB (e : (Nat × Nat) × Nat × List Nat) : Bool := match e with
  | ((oc, idx), i, [a]) => decide (i < 14) && decide (lw_tbl[a]? = some (.stringRef (x_own oc) idx (x_stx i)))
  | _ => false
def x_oiB (e : (Nat × Nat) × Nat × List Nat) : Bool := match e with
  | ((oc, idx), _, [a]) => x_w a (.methodLink (x_own oc) idx Lib.objectInit)
  | _ => false
def x_mmB (e : (Nat × Nat) × Nat × List Nat) : Bool := match e with
  | ((oc, idx), 0, [a, b, c, d]) => x_w a (.methodLink (x_own oc) idx Lib.Math.max.name) && x_w b (.static Lib.Math.max.name) && x_w c (.initialized "java/lang/Math") && x_w d (.code Lib.Math.max.name Lib.Math.max.code 2 (some .int))
  | ((oc, idx), 1, [a, b, c, d]) => x_w a (.methodLink (x_own oc) idx Lib.Math.min.name) && x_w b (.static Lib.Math.min.name) && x_w c (.initialized "java/lang/Math") && x_w d (.code Lib.Math.min.name Lib.Math.min.code 2 (some .int))
  | ((oc, idx), 2, [a, b, c, d]) => x_w a (.methodLink (x_own oc) idx Lib.Math.abs.name) && x_w b (.static Lib.Math.abs.name) && x_w c (.initialized "java/lang/Math") && x_w d (.code Lib.Math.abs.name Lib.Math.abs.code 1 (some .int))
  | _ => false
def x_lpB (ci : Nat) : Bool := decide ((x_lp ci).length = x_nf ci) && (List.range (x_nf ci)).all (fun k => x_w ((x_lp ci).getD k 0) (u_lay (x_own ci) (x_T ci) k))
set_option maxRecDepth 100000 in
theorem x_mtOk : (x_mt.drop 1).all x_meB = true := by decide +kernel
set_option maxRecDepth 100000 in
theorem x_mw0 : (x_mt_0.drop 1).map (fun me => lw_tbl[me.2.2.2.2.2.2]?) = (x_mt_0.drop 1).map (fun me => some (x_cw me)) := by rfl
set_option maxRecDepth 100000 in
theorem x_mw1 : x_mt_1.map (fun me => lw_tbl[me.2.2.2.2.2.2]?) = x_mt_1.map (fun me => some (x_cw me)) := by rfl
set_option maxRecDepth 100000 in
theorem x_mw2 : x_mt_2.map (fun me => lw_tbl[me.2.2.2.2.2.2]?) = x_mt_2.map (fun me => some (x_cw me)) := by rfl
set_option maxRecDepth 100000 in
theorem x_mw3 : x_mt_3.map (fun me => lw_tbl[me.2.2.2.2.2.2]?) = x_mt_3.map (fun me => some (x_cw me)) := by rfl
set_option maxRecDepth 100000 in
theorem x_mw4 : x_mt_4.map (fun me => lw_tbl[me.2.2.2.2.2.2]?) = x_mt_4.map (fun me => some (x_cw me)) := by rfl
set_option maxRecDepth 100000 in
theorem x_mw5 : x_mt_5.map (fun me => lw_tbl[me.2.2.2.2.2.2]?) = x_mt_5.map (fun me => some (x_cw me)) := by rfl
set_option maxRecDepth 100000 in
theorem x_mw6 : x_mt_6.map (fun me => lw_tbl[me.2.2.2.2.2.2]?) = x_mt_6.map (fun me => some (x_cw me)) := by rfl
set_option maxRecDepth 100000 in
theorem x_mw7 : x_mt_7.map (fun me => lw_tbl[me.2.2.2.2.2.2]?) = x_mt_7.map (fun me => some (x_cw me)) := by rfl
set_option maxRecDepth 100000 in
theorem x_mw8 : x_mt_8.map (fun me => lw_tbl[me.2.2.2.2.2.2]?) = x_mt_8.map (fun me => some (x_cw me)) := by rfl
set_option maxRecDepth 100000 in
theorem x_csOk0 : x_cs_0.all x_csB = true := by decide +kernel
set_option maxRecDepth 100000 in
theorem x_csOk1 : x_cs_1.all x_csB = true := by decide +kernel
set_option maxRecDepth 100000 in
theorem x_csOk2 : x_cs_2.all x_csB = true := by decide +kernel
set_option maxRecDepth 100000 in
theorem x_csOk3 : x_cs_3.all x_csB = true := by decide +kernel
set_option maxRecDepth 100000 in
theorem x_csOk4 : x_cs_4.all x_csB = true := by decide +kernel
set_option maxRecDepth 100000 in
theorem x_csOk5 : x_cs_5.all x_csB = true := by decide +kernel
set_option maxRecDepth 100000 in
theorem x_csOk6 : x_cs_6.all x_csB = true := by decide +kernel
theorem x_csOk : x_cs.all x_csB = true := by
  simp only [x_cs, List.all_append, x_csOk0, x_csOk1, x_csOk2, x_csOk3, x_csOk4, x_csOk5, x_csOk6, Bool.and_self]
set_option maxRecDepth 100000 in
theorem x_fsOk : x_fs.all x_fsB = true := by decide +kernel
set_option maxRecDepth 100000 in
theorem x_nsOk : x_ns.all x_nsB = true := by decide +kernel
set_option maxRecDepth 100000 in
theorem x_asOk : x_as.all x_asB = true := by decide +kernel
set_option maxRecDepth 100000 in
theorem x_kiOk : x_ki.all x_kiB = true := by decide +kernel
set_option maxRecDepth 100000 in
theorem x_klOk : x_kl.all x_klB = true := by decide +kernel
set_option maxRecDepth 100000 in
theorem x_ksOk : x_ks.all x_ksB = true := by decide +kernel
set_option maxRecDepth 100000 in
theorem x_oiOk : x_oi.all x_oiB = true := by decide +kernel
set_option maxRecDepth 100000 in
theorem x_mmOk : x_mm.all x_mmB = true := by decide +kernel
set_option maxRecDepth 100000 in
theorem x_lpOk : (List.range 9).all x_lpB = true := by decide +kernel
theorem x_u_in {ci : Nat} (h : ci < 9) : ∀ w ∈ u_ws (x_own ci) (x_T ci) (x_nf ci), w ∈ x_gw := by
  intro w hw
  have h1 := List.all_eq_true.mp x_lpOk ci (List.mem_range.mpr h)
  simp only [x_lpB, Bool.and_eq_true, List.all_eq_true, List.mem_range] at h1
  obtain ⟨k, hk, rfl⟩ := List.mem_map.mp hw
  exact x_w_mem (h1.2 k (List.mem_range.mp hk))
theorem x_nmOk : ∀ ci, ci < 9 → ∀ a, a < x_nf ci → ∀ b, b < x_nf ci → a ≠ b → (x_T ci a).2.1 ≠ (x_T ci b).2.1 := by
  intro ci h
  match ci, h with
  | 0, _ => exact nmX0
  | 1, _ => exact nmX1
  | 2, _ => exact nmX2
  | 3, _ => exact nmX3
  | 4, _ => exact nmX4
  | 5, _ => exact nmX5
  | 6, _ => exact nmX6
  | 7, _ => exact nmX7
  | 8, _ => exact nmX8
theorem x_tyOk : ∀ ci, ci < 9 → ∀ k, k < x_nf ci → parseFieldDescriptor (x_T ci k).2.2.1 = some (x_ty ci k) := by
  intro ci h
  match ci, h with
  | 0, _ => exact tyX0_ok
  | 1, _ => exact tyX1_ok
  | 2, _ => exact tyX2_ok
  | 3, _ => exact tyX3_ok
  | 4, _ => exact tyX4_ok
  | 5, _ => exact tyX5_ok
  | 6, _ => exact tyX6_ok
  | 7, _ => exact tyX7_ok
  | 8, _ => exact tyX8_ok
-- which types the fields have
theorem x_tyK : ∀ ci, ci < 9 → ∀ k, k < x_nf ci → x_ty ci k = .int ∨ x_ty ci k = .boolean ∨ x_refT (x_ty ci k) = true := by
  have h : (List.range 9).all (fun ci => (List.range (x_nf ci)).all (fun k => decide (x_ty ci k = .int) || decide (x_ty ci k = .boolean) || x_refT (x_ty ci k))) = true := by decide +kernel
  intro ci h1 k h2
  have h3 := List.all_eq_true.mp (List.all_eq_true.mp h ci (List.mem_range.mpr h1)) k (List.mem_range.mpr h2)
  simpa [or_assoc] using h3
