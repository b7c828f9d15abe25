/-! ===== a law's signs, and its machine ===== -/
def opI (c : Nat) (a b : Int32) : Int32 :=
  if c = 11 then (if a = nI 0 then (if b = nI 0 then nI 0 else nI 1) else nI 1)
  else if c = 12 then (if a = nI 0 then nI 0 else if b = nI 0 then nI 0 else nI 1)
  else if c = 14 then (if b ≤ a then nI 0 else nI 1)
  else if c = 15 then (if a = b then nI 1 else nI 0)
  else if c = 16 then a + b
  else if c = 17 then a - b
  else a * b
def isop (c : Nat) : Prop := c = 11 ∨ c = 12 ∨ c = 14 ∨ c = 15 ∨ c = 16 ∨ c = 17 ∨ c = 18
def sgN (c : Nat) : Nat := if c = 11 then 265 else if c = 12 then 266 else if c = 14 then 60 else if c = 15 then 61 else if c = 16 then 43 else if c = 17 then 45 else if c = 18 then 42 else if c = 13 then 267 else 303
def ngI (a : Int32) : Int32 := if a = nI 0 then nI 1 else nI 0
section S54
variable {L : Nat} {xs : Nat → Int32} {d : Nat} {w : x_W} {Q : Option Value → x_W → Prop}
theorem S84 {c : Nat} {a b : Int32} (h : isop c) : X_R L xs d 84 0 [.int (nI (sgN c)), .int a, .int b] [] w Q = Q (some (.int (opI c a b))) w := by
  rcases h with rfl | rfl | rfl | rfl | rfl | rfl | rfl
  · show X_R L xs d 84 0 [.int (nI 265), .int a, .int b] [] w Q = Q (some (.int (if a = nI 0 then (if b = nI 0 then nI 0 else nI 1) else nI 1))) w
    by_cases ha : a = nI 0 <;> by_cases hb : b = nI 0 <;> simp only [X84_0, X84_1_42, X84_1_43, X84_1_45, X84_1_60, X84_1_61, X84_1_266, X84_1_265, X84_60, X84_61, X84_62, X84_63, X84_64, X84_65, X84_66, X84_67, X84_68, X84_69, X84_70, X84_71, X84_72, X84_73, X84_74, X84_77, X84_78, X84_81, X84_82, X84_83, X84_84, X84_85, X84_88, X84_89, X84_92, X84_93, X84_94, X84_95, X84_98, X84_99, X84_102, X84_103, X84_106, X84_107, X84_108, X84_109, X84_112, X84_113, X84_116, X84_117, X84_120, X84_121, Nat.zero_le, and_true, true_and, x_nb0, x_nb1, x_nbp, x_isL_int, x_isL_ref, x_isL_junk, x_isR_ref, x_cat_nil, x_cat_int, x_cat_ref, x_cat_long, Option.toList_some, Option.toList_none, List.cons_append, List.nil_append, Nat.reduceAdd, Nat.reduceLeDiff, Nat.reduceLT, t_tag_si, t_tag_sr, t_tag_sI, x_r_si, x_i_sr, t_r_sI, x_ia_si, x_ia_sI, x_ia_sr, x_ra_si, x_ra_sI, x_ra_sr, ha, hb, if_true, if_false, n10]
  · show X_R L xs d 84 0 [.int (nI 266), .int a, .int b] [] w Q = Q (some (.int (if a = nI 0 then nI 0 else if b = nI 0 then nI 0 else nI 1))) w
    by_cases ha : a = nI 0 <;> by_cases hb : b = nI 0 <;> simp only [X84_0, X84_1_42, X84_1_43, X84_1_45, X84_1_60, X84_1_61, X84_1_266, X84_1_265, X84_60, X84_61, X84_62, X84_63, X84_64, X84_65, X84_66, X84_67, X84_68, X84_69, X84_70, X84_71, X84_72, X84_73, X84_74, X84_77, X84_78, X84_81, X84_82, X84_83, X84_84, X84_85, X84_88, X84_89, X84_92, X84_93, X84_94, X84_95, X84_98, X84_99, X84_102, X84_103, X84_106, X84_107, X84_108, X84_109, X84_112, X84_113, X84_116, X84_117, X84_120, X84_121, Nat.zero_le, and_true, true_and, x_nb0, x_nb1, x_nbp, x_isL_int, x_isL_ref, x_isL_junk, x_isR_ref, x_cat_nil, x_cat_int, x_cat_ref, x_cat_long, Option.toList_some, Option.toList_none, List.cons_append, List.nil_append, Nat.reduceAdd, Nat.reduceLeDiff, Nat.reduceLT, t_tag_si, t_tag_sr, t_tag_sI, x_r_si, x_i_sr, t_r_sI, x_ia_si, x_ia_sI, x_ia_sr, x_ra_si, x_ra_sI, x_ra_sr, ha, hb, if_true, if_false, n10]
  · show X_R L xs d 84 0 [.int (nI 60), .int a, .int b] [] w Q = Q (some (.int (if b ≤ a then nI 0 else nI 1))) w
    by_cases ha : b ≤ a <;> simp only [X84_0, X84_1_42, X84_1_43, X84_1_45, X84_1_60, X84_1_61, X84_1_266, X84_1_265, X84_60, X84_61, X84_62, X84_63, X84_64, X84_65, X84_66, X84_67, X84_68, X84_69, X84_70, X84_71, X84_72, X84_73, X84_74, X84_77, X84_78, X84_81, X84_82, X84_83, X84_84, X84_85, X84_88, X84_89, X84_92, X84_93, X84_94, X84_95, X84_98, X84_99, X84_102, X84_103, X84_106, X84_107, X84_108, X84_109, X84_112, X84_113, X84_116, X84_117, X84_120, X84_121, Nat.zero_le, and_true, true_and, x_nb0, x_nb1, x_nbp, x_isL_int, x_isL_ref, x_isL_junk, x_isR_ref, x_cat_nil, x_cat_int, x_cat_ref, x_cat_long, Option.toList_some, Option.toList_none, List.cons_append, List.nil_append, Nat.reduceAdd, Nat.reduceLeDiff, Nat.reduceLT, t_tag_si, t_tag_sr, t_tag_sI, x_r_si, x_i_sr, t_r_sI, x_ia_si, x_ia_sI, x_ia_sr, x_ra_si, x_ra_sI, x_ra_sr, ha, if_true, if_false]
  · show X_R L xs d 84 0 [.int (nI 61), .int a, .int b] [] w Q = Q (some (.int (if a = b then nI 1 else nI 0))) w
    by_cases ha : a = b <;> simp only [X84_0, X84_1_42, X84_1_43, X84_1_45, X84_1_60, X84_1_61, X84_1_266, X84_1_265, X84_60, X84_61, X84_62, X84_63, X84_64, X84_65, X84_66, X84_67, X84_68, X84_69, X84_70, X84_71, X84_72, X84_73, X84_74, X84_77, X84_78, X84_81, X84_82, X84_83, X84_84, X84_85, X84_88, X84_89, X84_92, X84_93, X84_94, X84_95, X84_98, X84_99, X84_102, X84_103, X84_106, X84_107, X84_108, X84_109, X84_112, X84_113, X84_116, X84_117, X84_120, X84_121, Nat.zero_le, and_true, true_and, x_nb0, x_nb1, x_nbp, x_isL_int, x_isL_ref, x_isL_junk, x_isR_ref, x_cat_nil, x_cat_int, x_cat_ref, x_cat_long, Option.toList_some, Option.toList_none, List.cons_append, List.nil_append, Nat.reduceAdd, Nat.reduceLeDiff, Nat.reduceLT, t_tag_si, t_tag_sr, t_tag_sI, x_r_si, x_i_sr, t_r_sI, x_ia_si, x_ia_sI, x_ia_sr, x_ra_si, x_ra_sI, x_ra_sr, ha, if_true, if_false]
  · show X_R L xs d 84 0 [.int (nI 43), .int a, .int b] [] w Q = Q (some (.int (a + b))) w
    simp only [X84_0, X84_1_42, X84_1_43, X84_1_45, X84_1_60, X84_1_61, X84_1_266, X84_1_265, X84_60, X84_61, X84_62, X84_63, X84_64, X84_65, X84_66, X84_67, X84_68, X84_69, X84_70, X84_71, X84_72, X84_73, X84_74, X84_77, X84_78, X84_81, X84_82, X84_83, X84_84, X84_85, X84_88, X84_89, X84_92, X84_93, X84_94, X84_95, X84_98, X84_99, X84_102, X84_103, X84_106, X84_107, X84_108, X84_109, X84_112, X84_113, X84_116, X84_117, X84_120, X84_121, Nat.zero_le, and_true, true_and, x_nb0, x_nb1, x_nbp, x_isL_int, x_isL_ref, x_isL_junk, x_isR_ref, x_cat_nil, x_cat_int, x_cat_ref, x_cat_long, Option.toList_some, Option.toList_none, List.cons_append, List.nil_append, Nat.reduceAdd, Nat.reduceLeDiff, Nat.reduceLT, t_tag_si, t_tag_sr, t_tag_sI, x_r_si, x_i_sr, t_r_sI, x_ia_si, x_ia_sI, x_ia_sr, x_ra_si, x_ra_sI, x_ra_sr]
  · show X_R L xs d 84 0 [.int (nI 45), .int a, .int b] [] w Q = Q (some (.int (a - b))) w
    simp only [X84_0, X84_1_42, X84_1_43, X84_1_45, X84_1_60, X84_1_61, X84_1_266, X84_1_265, X84_60, X84_61, X84_62, X84_63, X84_64, X84_65, X84_66, X84_67, X84_68, X84_69, X84_70, X84_71, X84_72, X84_73, X84_74, X84_77, X84_78, X84_81, X84_82, X84_83, X84_84, X84_85, X84_88, X84_89, X84_92, X84_93, X84_94, X84_95, X84_98, X84_99, X84_102, X84_103, X84_106, X84_107, X84_108, X84_109, X84_112, X84_113, X84_116, X84_117, X84_120, X84_121, Nat.zero_le, and_true, true_and, x_nb0, x_nb1, x_nbp, x_isL_int, x_isL_ref, x_isL_junk, x_isR_ref, x_cat_nil, x_cat_int, x_cat_ref, x_cat_long, Option.toList_some, Option.toList_none, List.cons_append, List.nil_append, Nat.reduceAdd, Nat.reduceLeDiff, Nat.reduceLT, t_tag_si, t_tag_sr, t_tag_sI, x_r_si, x_i_sr, t_r_sI, x_ia_si, x_ia_sI, x_ia_sr, x_ra_si, x_ra_sI, x_ra_sr]
  · show X_R L xs d 84 0 [.int (nI 42), .int a, .int b] [] w Q = Q (some (.int (a * b))) w
    simp only [X84_0, X84_1_42, X84_1_43, X84_1_45, X84_1_60, X84_1_61, X84_1_266, X84_1_265, X84_60, X84_61, X84_62, X84_63, X84_64, X84_65, X84_66, X84_67, X84_68, X84_69, X84_70, X84_71, X84_72, X84_73, X84_74, X84_77, X84_78, X84_81, X84_82, X84_83, X84_84, X84_85, X84_88, X84_89, X84_92, X84_93, X84_94, X84_95, X84_98, X84_99, X84_102, X84_103, X84_106, X84_107, X84_108, X84_109, X84_112, X84_113, X84_116, X84_117, X84_120, X84_121, Nat.zero_le, and_true, true_and, x_nb0, x_nb1, x_nbp, x_isL_int, x_isL_ref, x_isL_junk, x_isR_ref, x_cat_nil, x_cat_int, x_cat_ref, x_cat_long, Option.toList_some, Option.toList_none, List.cons_append, List.nil_append, Nat.reduceAdd, Nat.reduceLeDiff, Nat.reduceLT, t_tag_si, t_tag_sr, t_tag_sI, x_r_si, x_i_sr, t_r_sI, x_ia_si, x_ia_sI, x_ia_sr, x_ra_si, x_ra_sI, x_ra_sr]
theorem S165 {c : Nat} {a b : Int32} (h : isop c) : X_R L xs d 165 0 [.int (nI c), .int a, .int b] [] w Q = Q (some (.int (opI c a b))) w := by
  rcases h with rfl | rfl | rfl | rfl | rfl | rfl | rfl
  · show _ = Q (some (.int (if a = nI 0 then (if b = nI 0 then nI 0 else nI 1) else nI 1))) w
    by_cases ha : a = nI 0 <;> by_cases hb : b = nI 0 <;> simp only [X165_0, X165_1_11, X165_1_12, X165_1_13, X165_1_14, X165_1_15, X165_1_16, X165_1_17, X165_1_d, X165_44, X165_45, X165_48, X165_49, X165_52, X165_53, X165_56, X165_57, X165_58, X165_59, X165_62, X165_63, X165_66, X165_67, X165_70, X165_71, X165_72, X165_73, X165_74, X165_77, X165_78, X165_81, X165_82, X165_83, X165_84, X165_85, X165_88, X165_89, X165_92, X165_93, X165_94, X165_95, X165_96, X165_97, X165_98, X165_99, X165_100, X165_101, X165_102, X165_103, X165_104, X165_105, Nat.zero_le, and_true, true_and, x_nb0, x_nb1, x_nbp, x_isL_int, x_isL_ref, x_isL_junk, x_isR_ref, x_cat_nil, x_cat_int, x_cat_ref, x_cat_long, Option.toList_some, Option.toList_none, List.cons_append, List.nil_append, Nat.reduceAdd, Nat.reduceLeDiff, Nat.reduceLT, t_tag_si, t_tag_sr, t_tag_sI, x_r_si, x_i_sr, t_r_sI, x_ia_si, x_ia_sI, x_ia_sr, x_ra_si, x_ra_sI, x_ra_sr, ha, hb, if_true, if_false, n10]
  · show _ = Q (some (.int (if a = nI 0 then nI 0 else if b = nI 0 then nI 0 else nI 1))) w
    by_cases ha : a = nI 0 <;> by_cases hb : b = nI 0 <;> simp only [X165_0, X165_1_11, X165_1_12, X165_1_13, X165_1_14, X165_1_15, X165_1_16, X165_1_17, X165_1_d, X165_44, X165_45, X165_48, X165_49, X165_52, X165_53, X165_56, X165_57, X165_58, X165_59, X165_62, X165_63, X165_66, X165_67, X165_70, X165_71, X165_72, X165_73, X165_74, X165_77, X165_78, X165_81, X165_82, X165_83, X165_84, X165_85, X165_88, X165_89, X165_92, X165_93, X165_94, X165_95, X165_96, X165_97, X165_98, X165_99, X165_100, X165_101, X165_102, X165_103, X165_104, X165_105, Nat.zero_le, and_true, true_and, x_nb0, x_nb1, x_nbp, x_isL_int, x_isL_ref, x_isL_junk, x_isR_ref, x_cat_nil, x_cat_int, x_cat_ref, x_cat_long, Option.toList_some, Option.toList_none, List.cons_append, List.nil_append, Nat.reduceAdd, Nat.reduceLeDiff, Nat.reduceLT, t_tag_si, t_tag_sr, t_tag_sI, x_r_si, x_i_sr, t_r_sI, x_ia_si, x_ia_sI, x_ia_sr, x_ra_si, x_ra_sI, x_ra_sr, ha, hb, if_true, if_false, n10]
  · show _ = Q (some (.int (if b ≤ a then nI 0 else nI 1))) w
    by_cases ha : b ≤ a <;> simp only [X165_0, X165_1_11, X165_1_12, X165_1_13, X165_1_14, X165_1_15, X165_1_16, X165_1_17, X165_1_d, X165_44, X165_45, X165_48, X165_49, X165_52, X165_53, X165_56, X165_57, X165_58, X165_59, X165_62, X165_63, X165_66, X165_67, X165_70, X165_71, X165_72, X165_73, X165_74, X165_77, X165_78, X165_81, X165_82, X165_83, X165_84, X165_85, X165_88, X165_89, X165_92, X165_93, X165_94, X165_95, X165_96, X165_97, X165_98, X165_99, X165_100, X165_101, X165_102, X165_103, X165_104, X165_105, Nat.zero_le, and_true, true_and, x_nb0, x_nb1, x_nbp, x_isL_int, x_isL_ref, x_isL_junk, x_isR_ref, x_cat_nil, x_cat_int, x_cat_ref, x_cat_long, Option.toList_some, Option.toList_none, List.cons_append, List.nil_append, Nat.reduceAdd, Nat.reduceLeDiff, Nat.reduceLT, t_tag_si, t_tag_sr, t_tag_sI, x_r_si, x_i_sr, t_r_sI, x_ia_si, x_ia_sI, x_ia_sr, x_ra_si, x_ra_sI, x_ra_sr, ha, if_true, if_false]
  · show _ = Q (some (.int (if a = b then nI 1 else nI 0))) w
    by_cases ha : a = b <;> simp only [X165_0, X165_1_11, X165_1_12, X165_1_13, X165_1_14, X165_1_15, X165_1_16, X165_1_17, X165_1_d, X165_44, X165_45, X165_48, X165_49, X165_52, X165_53, X165_56, X165_57, X165_58, X165_59, X165_62, X165_63, X165_66, X165_67, X165_70, X165_71, X165_72, X165_73, X165_74, X165_77, X165_78, X165_81, X165_82, X165_83, X165_84, X165_85, X165_88, X165_89, X165_92, X165_93, X165_94, X165_95, X165_96, X165_97, X165_98, X165_99, X165_100, X165_101, X165_102, X165_103, X165_104, X165_105, Nat.zero_le, and_true, true_and, x_nb0, x_nb1, x_nbp, x_isL_int, x_isL_ref, x_isL_junk, x_isR_ref, x_cat_nil, x_cat_int, x_cat_ref, x_cat_long, Option.toList_some, Option.toList_none, List.cons_append, List.nil_append, Nat.reduceAdd, Nat.reduceLeDiff, Nat.reduceLT, t_tag_si, t_tag_sr, t_tag_sI, x_r_si, x_i_sr, t_r_sI, x_ia_si, x_ia_sI, x_ia_sr, x_ra_si, x_ra_sI, x_ra_sr, ha, if_true, if_false]
  · show _ = Q (some (.int (a + b))) w
    simp only [X165_0, X165_1_11, X165_1_12, X165_1_13, X165_1_14, X165_1_15, X165_1_16, X165_1_17, X165_1_d, X165_44, X165_45, X165_48, X165_49, X165_52, X165_53, X165_56, X165_57, X165_58, X165_59, X165_62, X165_63, X165_66, X165_67, X165_70, X165_71, X165_72, X165_73, X165_74, X165_77, X165_78, X165_81, X165_82, X165_83, X165_84, X165_85, X165_88, X165_89, X165_92, X165_93, X165_94, X165_95, X165_96, X165_97, X165_98, X165_99, X165_100, X165_101, X165_102, X165_103, X165_104, X165_105, Nat.zero_le, and_true, true_and, x_nb0, x_nb1, x_nbp, x_isL_int, x_isL_ref, x_isL_junk, x_isR_ref, x_cat_nil, x_cat_int, x_cat_ref, x_cat_long, Option.toList_some, Option.toList_none, List.cons_append, List.nil_append, Nat.reduceAdd, Nat.reduceLeDiff, Nat.reduceLT, t_tag_si, t_tag_sr, t_tag_sI, x_r_si, x_i_sr, t_r_sI, x_ia_si, x_ia_sI, x_ia_sr, x_ra_si, x_ra_sI, x_ra_sr]
  · show _ = Q (some (.int (a - b))) w
    simp only [X165_0, X165_1_11, X165_1_12, X165_1_13, X165_1_14, X165_1_15, X165_1_16, X165_1_17, X165_1_d, X165_44, X165_45, X165_48, X165_49, X165_52, X165_53, X165_56, X165_57, X165_58, X165_59, X165_62, X165_63, X165_66, X165_67, X165_70, X165_71, X165_72, X165_73, X165_74, X165_77, X165_78, X165_81, X165_82, X165_83, X165_84, X165_85, X165_88, X165_89, X165_92, X165_93, X165_94, X165_95, X165_96, X165_97, X165_98, X165_99, X165_100, X165_101, X165_102, X165_103, X165_104, X165_105, Nat.zero_le, and_true, true_and, x_nb0, x_nb1, x_nbp, x_isL_int, x_isL_ref, x_isL_junk, x_isR_ref, x_cat_nil, x_cat_int, x_cat_ref, x_cat_long, Option.toList_some, Option.toList_none, List.cons_append, List.nil_append, Nat.reduceAdd, Nat.reduceLeDiff, Nat.reduceLT, t_tag_si, t_tag_sr, t_tag_sI, x_r_si, x_i_sr, t_r_sI, x_ia_si, x_ia_sI, x_ia_sr, x_ra_si, x_ra_sI, x_ra_sr]
  · show _ = Q (some (.int (a * b))) w
    have h18 : (nI 18).toInt < 11 ∨ 17 < (nI 18).toInt := by decide
    simp only [X165_0, X165_1_11, X165_1_12, X165_1_13, X165_1_14, X165_1_15, X165_1_16, X165_1_17, X165_1_d, X165_44, X165_45, X165_48, X165_49, X165_52, X165_53, X165_56, X165_57, X165_58, X165_59, X165_62, X165_63, X165_66, X165_67, X165_70, X165_71, X165_72, X165_73, X165_74, X165_77, X165_78, X165_81, X165_82, X165_83, X165_84, X165_85, X165_88, X165_89, X165_92, X165_93, X165_94, X165_95, X165_96, X165_97, X165_98, X165_99, X165_100, X165_101, X165_102, X165_103, X165_104, X165_105, Nat.zero_le, and_true, true_and, x_nb0, x_nb1, x_nbp, x_isL_int, x_isL_ref, x_isL_junk, x_isR_ref, x_cat_nil, x_cat_int, x_cat_ref, x_cat_long, Option.toList_some, Option.toList_none, List.cons_append, List.nil_append, Nat.reduceAdd, Nat.reduceLeDiff, Nat.reduceLT, t_tag_si, t_tag_sr, t_tag_sI, x_r_si, x_i_sr, t_r_sI, x_ia_si, x_ia_sI, x_ia_sr, x_ra_si, x_ra_sI, x_ra_sr, h18]
theorem S82 {c : Nat} (h : isop c ∨ c = 13 ∨ c = 19) : X_R L xs d 82 0 [.int (nI (sgN c))] [] w Q = Q (some (.int (bI (c = 13 ∨ c = 19)))) w := by
  have hb0 : nI (sgN c) = nI 267 ↔ c = 13 := by
    rcases h with (rfl | rfl | rfl | rfl | rfl | rfl | rfl) | rfl | rfl <;> decide
  have hb1 : nI (sgN c) = nI 303 ↔ c = 19 := by
    rcases h with (rfl | rfl | rfl | rfl | rfl | rfl | rfl) | rfl | rfl <;> decide
  by_cases h1 : c = 13
  · have e : bI (c = 13 ∨ c = 19) = nI 1 := bI_t (Or.inl h1)
    rw [e]
    simp only [X82_0, X82_1, X82_4, X82_7, X82_8, X82_11, X82_14, X82_15, X82_18, X82_19, Nat.zero_le, and_true, true_and, x_nb0, x_nb1, x_nbp, x_isL_int, x_isL_ref, x_isL_junk, x_isR_ref, x_cat_nil, x_cat_int, x_cat_ref, x_cat_long, Option.toList_some, Option.toList_none, List.cons_append, List.nil_append, Nat.reduceAdd, Nat.reduceLeDiff, Nat.reduceLT, t_tag_si, t_tag_sr, t_tag_sI, x_r_si, x_i_sr, t_r_sI, x_ia_si, x_ia_sI, x_ia_sr, x_ra_si, x_ra_sI, x_ra_sr]
    rw [if_pos (hb0.mpr h1)]
  · by_cases h2 : c = 19
    · have e : bI (c = 13 ∨ c = 19) = nI 1 := bI_t (Or.inr h2)
      rw [e]
      simp only [X82_0, X82_1, X82_4, X82_7, X82_8, X82_11, X82_14, X82_15, X82_18, X82_19, Nat.zero_le, and_true, true_and, x_nb0, x_nb1, x_nbp, x_isL_int, x_isL_ref, x_isL_junk, x_isR_ref, x_cat_nil, x_cat_int, x_cat_ref, x_cat_long, Option.toList_some, Option.toList_none, List.cons_append, List.nil_append, Nat.reduceAdd, Nat.reduceLeDiff, Nat.reduceLT, t_tag_si, t_tag_sr, t_tag_sI, x_r_si, x_i_sr, t_r_sI, x_ia_si, x_ia_sI, x_ia_sr, x_ra_si, x_ra_sI, x_ra_sr]
      rw [if_neg (fun q => h1 (hb0.mp q)), if_pos (hb1.mpr h2)]
    · have e : bI (c = 13 ∨ c = 19) = nI 0 := bI_f (fun q => q.elim h1 h2)
      rw [e]
      simp only [X82_0, X82_1, X82_4, X82_7, X82_8, X82_11, X82_14, X82_15, X82_18, X82_19, Nat.zero_le, and_true, true_and, x_nb0, x_nb1, x_nbp, x_isL_int, x_isL_ref, x_isL_junk, x_isR_ref, x_cat_nil, x_cat_int, x_cat_ref, x_cat_long, Option.toList_some, Option.toList_none, List.cons_append, List.nil_append, Nat.reduceAdd, Nat.reduceLeDiff, Nat.reduceLT, t_tag_si, t_tag_sr, t_tag_sI, x_r_si, x_i_sr, t_r_sI, x_ia_si, x_ia_sI, x_ia_sr, x_ra_si, x_ra_sI, x_ra_sr]
      rw [if_neg (fun q => h1 (hb0.mp q)), if_neg (fun q => h2 (hb1.mp q))]
theorem S83n {a : Int32} : X_R L xs d 83 0 [.int (nI 267), .int a] [] w Q = Q (some (.int (ngI a))) w := by
  have e : ¬ nI 267 = nI 303 := by decide
  unfold ngI
  by_cases ha : a = nI 0 <;> simp only [X83_0, X83_1, X83_4, X83_7, X83_8, X83_9, X83_10, X83_11, X83_14, X83_15, X83_18, X83_19, Nat.zero_le, and_true, true_and, x_nb0, x_nb1, x_nbp, x_isL_int, x_isL_ref, x_isL_junk, x_isR_ref, x_cat_nil, x_cat_int, x_cat_ref, x_cat_long, Option.toList_some, Option.toList_none, List.cons_append, List.nil_append, Nat.reduceAdd, Nat.reduceLeDiff, Nat.reduceLT, t_tag_si, t_tag_sr, t_tag_sI, x_r_si, x_i_sr, t_r_sI, x_ia_si, x_ia_sI, x_ia_sr, x_ra_si, x_ra_sI, x_ra_sr, e, ha, if_true, if_false]
theorem S83m {a : Int32} : X_R L xs d 83 0 [.int (nI 303), .int a] [] w Q = Q (some (.int (-a))) w := by
  simp only [X83_0, X83_1, X83_4, X83_7, X83_8, X83_9, X83_10, X83_11, X83_14, X83_15, X83_18, X83_19, Nat.zero_le, and_true, true_and, x_nb0, x_nb1, x_nbp, x_isL_int, x_isL_ref, x_isL_junk, x_isR_ref, x_cat_nil, x_cat_int, x_cat_ref, x_cat_long, Option.toList_some, Option.toList_none, List.cons_append, List.nil_append, Nat.reduceAdd, Nat.reduceLeDiff, Nat.reduceLT, t_tag_si, t_tag_sr, t_tag_sI, x_r_si, x_i_sr, t_r_sI, x_ia_si, x_ia_sI, x_ia_sr, x_ra_si, x_ra_sI, x_ra_sr, if_true]
end S54
/-- t < 10000: a number; 10000 + k: a name; 20000 + c: a sign by the reference's number -/
def okT (t : Nat) : Prop := t < 10000 ∨ (10000 ≤ t ∧ t < 10006) ∨ (20000 ≤ t ∧ (isop (t - 20000) ∨ t = 20013 ∨ t = 20019))
def sxT (t : Nat) : Int32 := if t < 10000 then nI t else if t < 20000 then (-1) - nI (t - 10000) else (-6) - nI (sgN (t - 20000))
def smT (t : Nat) : Int32 := if t < 10000 then nI (100000 + t) else if t < 20000 then nI (t - 10000) else nI (t - 20000)
def top1 (t h : Nat) : Nat := if t < 20000 then h + 1 else if t = 20013 ∨ t = 20019 then h else h - 1
def stk1 (nm : Nat → Int32) (t h : Nat) (f : Nat → Int32) : Nat → Int32 :=
  if t < 10000 then upd f h (nI t) else if t < 20000 then upd f h (nm (t - 10000)) else if t = 20013 then upd f (h - 1) (ngI (f (h - 1))) else if t = 20019 then upd f (h - 1) (-(f (h - 1))) else upd f (h - 2) (opI (t - 20000) (f (h - 2)) (f (h - 1)))
def topN (st : Nat → Nat) : Nat → Nat
  | 0 => 0
  | m + 1 => top1 (st m) (topN st m)
def stkN (nm : Nat → Int32) (st : Nat → Nat) (f : Nat → Int32) : Nat → Nat → Int32
  | 0 => f
  | m + 1 => stk1 nm (st m) (topN st m) (stkN nm st f m)
def wfT (t h : Nat) : Prop := okT t ∧ (20000 ≤ t → 1 ≤ h ∧ (t ≠ 20013 → t ≠ 20019 → 2 ≤ h))
theorem topN_le (st : Nat → Nat) (m : Nat) : topN st m ≤ m := by
  induction m with
  | zero => exact Nat.le_refl _
  | succ m ih =>
    unfold topN top1
    split
    · omega
    · split <;> omega
/-- what lies above the top is of no matter -/
theorem stk1_cg {nm : Nat → Int32} {t h : Nat} {f g : Nat → Int32} (hw : wfT t h) (he : ∀ k, k < h → f k = g k) : ∀ k, k < top1 t h → stk1 nm t h f k = stk1 nm t h g k := by
  intro k hk
  unfold stk1
  unfold top1 at hk
  by_cases h1 : t < 10000
  · rw [if_pos (by omega)] at hk
    rw [if_pos h1, if_pos h1]
    unfold upd
    by_cases hkh : k = h
    · rw [if_pos hkh, if_pos hkh]
    · rw [if_neg hkh, if_neg hkh]; exact he k (by omega)
  · rw [if_neg h1, if_neg h1]
    by_cases h2 : t < 20000
    · rw [if_pos h2] at hk
      rw [if_pos h2, if_pos h2]
      unfold upd
      by_cases hkh : k = h
      · rw [if_pos hkh, if_pos hkh]
      · rw [if_neg hkh, if_neg hkh]; exact he k (by omega)
    · rw [if_neg h2] at hk
      rw [if_neg h2, if_neg h2]
      have hw2 := hw.2 (by omega)
      by_cases h3 : t = 20013
      · rw [if_pos (Or.inl h3)] at hk
        rw [if_pos h3, if_pos h3, he (h - 1) (by omega)]
        unfold upd
        by_cases hkh : k = h - 1
        · rw [if_pos hkh, if_pos hkh]
        · rw [if_neg hkh, if_neg hkh]; exact he k (by omega)
      · rw [if_neg h3, if_neg h3]
        by_cases h4 : t = 20019
        · rw [if_pos (Or.inr h4)] at hk
          rw [if_pos h4, if_pos h4, he (h - 1) (by omega)]
          unfold upd
          by_cases hkh : k = h - 1
          · rw [if_pos hkh, if_pos hkh]
          · rw [if_neg hkh, if_neg hkh]; exact he k (by omega)
        · rw [if_neg (fun q => q.elim h3 h4)] at hk
          have hw3 := hw2.2 h3 h4
          rw [if_neg h4, if_neg h4, he (h - 1) (by omega), he (h - 2) (by omega)]
          unfold upd
          by_cases hkh : k = h - 2
          · rw [if_pos hkh, if_pos hkh]
          · rw [if_neg hkh, if_neg hkh]; exact he k (by omega)
theorem stkN_cg {nm : Nat → Int32} {st : Nat → Nat} {f g : Nat → Int32} (n : Nat) (hw : ∀ m, m < n → wfT (st m) (topN st m)) : ∀ k, k < topN st n → stkN nm st f n k = stkN nm st g n k := by
  induction n with
  | zero => intro k hk; exact absurd hk (Nat.not_lt_zero _)
  | succ n ih => exact stk1_cg (hw n (Nat.lt_succ_self _)) (ih (fun m hm => hw m (by omega)))
