-- ===== PART A: goes FIRST, ahead of the names: the tables' words, and 'selects' of the private methods out of them =====
/-- a private method of a class that the tables say can be made, by its rows of tables_1 -/
def lw_okq (q : MethodName × Nat) : Prop := (q.1.cls ≠ "java/lang/invoke/MethodHandle" ∧ q.1.cls ≠ "java/lang/invoke/VarHandle") ∧ Cond.instantiable q.1.cls q.2 ∈ tables_1 ∧ Cond.privateMethod q.1 ∈ tables_1 ∧ Cond.instanceMethod q.1 ∈ tables_1
theorem lw_p0 : lw_okq (⟨"OneNet$Tape", "advance", "()V"⟩, 11) := ⟨⟨by decide +kernel, by decide +kernel⟩, List.mem_of_getElem? (i := 28) (by decide +kernel), List.mem_of_getElem? (i := 158) (by decide +kernel), List.mem_of_getElem? (i := 159) (by decide +kernel)⟩
theorem lw_p1 : lw_okq (⟨"OneNet$Tape", "wordToken", "()I"⟩, 11) := ⟨⟨by decide +kernel, by decide +kernel⟩, List.mem_of_getElem? (i := 28) (by decide +kernel), List.mem_of_getElem? (i := 165) (by decide +kernel), List.mem_of_getElem? (i := 166) (by decide +kernel)⟩
theorem lw_p2 : lw_okq (⟨"OneNet$Tape", "tokenIs", "(Ljava/lang/String;)Z"⟩, 11) := ⟨⟨by decide +kernel, by decide +kernel⟩, List.mem_of_getElem? (i := 28) (by decide +kernel), List.mem_of_getElem? (i := 184) (by decide +kernel), List.mem_of_getElem? (i := 185) (by decide +kernel)⟩
theorem lw_p3 : lw_okq (⟨"OneNet$Tape", "numberToken", "()I"⟩, 11) := ⟨⟨by decide +kernel, by decide +kernel⟩, List.mem_of_getElem? (i := 28) (by decide +kernel), List.mem_of_getElem? (i := 193) (by decide +kernel), List.mem_of_getElem? (i := 194) (by decide +kernel)⟩
theorem lw_p4 : lw_okq (⟨"OneNet$Tape", "expect", "(I)V"⟩, 11) := ⟨⟨by decide +kernel, by decide +kernel⟩, List.mem_of_getElem? (i := 28) (by decide +kernel), List.mem_of_getElem? (i := 260) (by decide +kernel), List.mem_of_getElem? (i := 261) (by decide +kernel)⟩
theorem lw_p5 : lw_okq (⟨"OneNet$Tape", "refuse", "()V"⟩, 11) := ⟨⟨by decide +kernel, by decide +kernel⟩, List.mem_of_getElem? (i := 28) (by decide +kernel), List.mem_of_getElem? (i := 264) (by decide +kernel), List.mem_of_getElem? (i := 265) (by decide +kernel)⟩
theorem lw_p6 : lw_okq (⟨"OneNet$Tape", "readOr", "()V"⟩, 11) := ⟨⟨by decide +kernel, by decide +kernel⟩, List.mem_of_getElem? (i := 28) (by decide +kernel), List.mem_of_getElem? (i := 268) (by decide +kernel), List.mem_of_getElem? (i := 269) (by decide +kernel)⟩
theorem lw_p7 : lw_okq (⟨"OneNet$Tape", "readAnd", "()V"⟩, 11) := ⟨⟨by decide +kernel, by decide +kernel⟩, List.mem_of_getElem? (i := 28) (by decide +kernel), List.mem_of_getElem? (i := 272) (by decide +kernel), List.mem_of_getElem? (i := 273) (by decide +kernel)⟩
theorem lw_p8 : lw_okq (⟨"OneNet$Tape", "readNot", "()V"⟩, 11) := ⟨⟨by decide +kernel, by decide +kernel⟩, List.mem_of_getElem? (i := 28) (by decide +kernel), List.mem_of_getElem? (i := 276) (by decide +kernel), List.mem_of_getElem? (i := 277) (by decide +kernel)⟩
theorem lw_p9 : lw_okq (⟨"OneNet$Tape", "enter", "()V"⟩, 11) := ⟨⟨by decide +kernel, by decide +kernel⟩, List.mem_of_getElem? (i := 28) (by decide +kernel), List.mem_of_getElem? (i := 280) (by decide +kernel), List.mem_of_getElem? (i := 281) (by decide +kernel)⟩
theorem lw_p10 : lw_okq (⟨"OneNet$Tape", "emit", "(I)V"⟩, 11) := ⟨⟨by decide +kernel, by decide +kernel⟩, List.mem_of_getElem? (i := 28) (by decide +kernel), List.mem_of_getElem? (i := 287) (by decide +kernel), List.mem_of_getElem? (i := 288) (by decide +kernel)⟩
theorem lw_p11 : lw_okq (⟨"OneNet$Tape", "readSum", "()V"⟩, 11) := ⟨⟨by decide +kernel, by decide +kernel⟩, List.mem_of_getElem? (i := 28) (by decide +kernel), List.mem_of_getElem? (i := 291) (by decide +kernel), List.mem_of_getElem? (i := 292) (by decide +kernel)⟩
theorem lw_p12 : lw_okq (⟨"OneNet$Tape", "readTerm", "()V"⟩, 11) := ⟨⟨by decide +kernel, by decide +kernel⟩, List.mem_of_getElem? (i := 28) (by decide +kernel), List.mem_of_getElem? (i := 295) (by decide +kernel), List.mem_of_getElem? (i := 296) (by decide +kernel)⟩
theorem lw_p13 : lw_okq (⟨"OneNet$Tape", "readOne", "()V"⟩, 11) := ⟨⟨by decide +kernel, by decide +kernel⟩, List.mem_of_getElem? (i := 28) (by decide +kernel), List.mem_of_getElem? (i := 299) (by decide +kernel), List.mem_of_getElem? (i := 300) (by decide +kernel)⟩
theorem lw_p14 : lw_okq (⟨"OneNet", "obey", "(I)V"⟩, 8) := ⟨⟨by decide +kernel, by decide +kernel⟩, List.mem_of_getElem? (i := 20) (by decide +kernel), List.mem_of_getElem? (i := 573) (by decide +kernel), List.mem_of_getElem? (i := 574) (by decide +kernel)⟩
theorem lw_p15 : lw_okq (⟨"OneNet$Sleeper", "weighs", "()I"⟩, 5) := ⟨⟨by decide +kernel, by decide +kernel⟩, List.mem_of_getElem? (i := 419) (by decide +kernel), List.mem_of_getElem? (i := 616) (by decide +kernel), List.mem_of_getElem? (i := 617) (by decide +kernel)⟩
def lw_privs_1 : List (MethodName × Nat) := [(⟨"OneNet$Tape", "advance", "()V"⟩, 11), (⟨"OneNet$Tape", "wordToken", "()I"⟩, 11), (⟨"OneNet$Tape", "tokenIs", "(Ljava/lang/String;)Z"⟩, 11), (⟨"OneNet$Tape", "numberToken", "()I"⟩, 11), (⟨"OneNet$Tape", "expect", "(I)V"⟩, 11), (⟨"OneNet$Tape", "refuse", "()V"⟩, 11), (⟨"OneNet$Tape", "readOr", "()V"⟩, 11), (⟨"OneNet$Tape", "readAnd", "()V"⟩, 11), (⟨"OneNet$Tape", "readNot", "()V"⟩, 11), (⟨"OneNet$Tape", "enter", "()V"⟩, 11), (⟨"OneNet$Tape", "emit", "(I)V"⟩, 11), (⟨"OneNet$Tape", "readSum", "()V"⟩, 11), (⟨"OneNet$Tape", "readTerm", "()V"⟩, 11), (⟨"OneNet$Tape", "readOne", "()V"⟩, 11), (⟨"OneNet", "obey", "(I)V"⟩, 8), (⟨"OneNet$Sleeper", "weighs", "()I"⟩, 5)]
theorem lw_r1 : ∀ q ∈ lw_privs_1, lw_okq q := List.forall_mem_cons.mpr ⟨lw_p0, List.forall_mem_cons.mpr ⟨lw_p1, List.forall_mem_cons.mpr ⟨lw_p2, List.forall_mem_cons.mpr ⟨lw_p3, List.forall_mem_cons.mpr ⟨lw_p4, List.forall_mem_cons.mpr ⟨lw_p5, List.forall_mem_cons.mpr ⟨lw_p6, List.forall_mem_cons.mpr ⟨lw_p7, List.forall_mem_cons.mpr ⟨lw_p8, List.forall_mem_cons.mpr ⟨lw_p9, List.forall_mem_cons.mpr ⟨lw_p10, List.forall_mem_cons.mpr ⟨lw_p11, List.forall_mem_cons.mpr ⟨lw_p12, List.forall_mem_cons.mpr ⟨lw_p13, List.forall_mem_cons.mpr ⟨lw_p14, List.forall_mem_cons.mpr ⟨lw_p15, fun _ h => absurd h List.not_mem_nil⟩⟩⟩⟩⟩⟩⟩⟩⟩⟩⟩⟩⟩⟩⟩⟩
theorem lw_p16 : lw_okq (⟨"OneNet$Sleeper", "leastFelt", "()I"⟩, 5) := ⟨⟨by decide +kernel, by decide +kernel⟩, List.mem_of_getElem? (i := 419) (by decide +kernel), List.mem_of_getElem? (i := 627) (by decide +kernel), List.mem_of_getElem? (i := 628) (by decide +kernel)⟩
theorem lw_p17 : lw_okq (⟨"OneNet$Net", "deepNext", "(I)I"⟩, 7) := ⟨⟨by decide +kernel, by decide +kernel⟩, List.mem_of_getElem? (i := 369) (by decide +kernel), List.mem_of_getElem? (i := 660) (by decide +kernel), List.mem_of_getElem? (i := 661) (by decide +kernel)⟩
theorem lw_p18 : lw_okq (⟨"OneNet$Crowd", "bears", "(II)I"⟩, 9) := ⟨⟨by decide +kernel, by decide +kernel⟩, List.mem_of_getElem? (i := 363) (by decide +kernel), List.mem_of_getElem? (i := 690) (by decide +kernel), List.mem_of_getElem? (i := 691) (by decide +kernel)⟩
theorem lw_p19 : lw_okq (⟨"OneNet$Crowd", "rollOnce", "()Z"⟩, 9) := ⟨⟨by decide +kernel, by decide +kernel⟩, List.mem_of_getElem? (i := 363) (by decide +kernel), List.mem_of_getElem? (i := 709) (by decide +kernel), List.mem_of_getElem? (i := 710) (by decide +kernel)⟩
theorem lw_p20 : lw_okq (⟨"OneNet$Crowd", "rollsTo", "(I)I"⟩, 9) := ⟨⟨by decide +kernel, by decide +kernel⟩, List.mem_of_getElem? (i := 363) (by decide +kernel), List.mem_of_getElem? (i := 714) (by decide +kernel), List.mem_of_getElem? (i := 715) (by decide +kernel)⟩
theorem lw_p21 : lw_okq (⟨"OneNet$Net", "measureFrom", "(I)V"⟩, 7) := ⟨⟨by decide +kernel, by decide +kernel⟩, List.mem_of_getElem? (i := 369) (by decide +kernel), List.mem_of_getElem? (i := 747) (by decide +kernel), List.mem_of_getElem? (i := 748) (by decide +kernel)⟩
theorem lw_p22 : lw_okq (⟨"OneNet$Crowd", "wakesBy", "(II)Z"⟩, 9) := ⟨⟨by decide +kernel, by decide +kernel⟩, List.mem_of_getElem? (i := 363) (by decide +kernel), List.mem_of_getElem? (i := 764) (by decide +kernel), List.mem_of_getElem? (i := 765) (by decide +kernel)⟩
theorem lw_p23 : lw_okq (⟨"OneNet", "refusalOfDepths", "(I)I"⟩, 8) := ⟨⟨by decide +kernel, by decide +kernel⟩, List.mem_of_getElem? (i := 20) (by decide +kernel), List.mem_of_getElem? (i := 849) (by decide +kernel), List.mem_of_getElem? (i := 850) (by decide +kernel)⟩
theorem lw_p24 : lw_okq (⟨"OneNet", "firstOtherwise", "(LOneNet$Sheet;)I"⟩, 8) := ⟨⟨by decide +kernel, by decide +kernel⟩, List.mem_of_getElem? (i := 20) (by decide +kernel), List.mem_of_getElem? (i := 856) (by decide +kernel), List.mem_of_getElem? (i := 857) (by decide +kernel)⟩
theorem lw_p25 : lw_okq (⟨"OneNet", "turningBy", "(I)I"⟩, 8) := ⟨⟨by decide +kernel, by decide +kernel⟩, List.mem_of_getElem? (i := 20) (by decide +kernel), List.mem_of_getElem? (i := 882) (by decide +kernel), List.mem_of_getElem? (i := 883) (by decide +kernel)⟩
theorem lw_p26 : lw_okq (⟨"OneNetModel", "next", "()V"⟩, 42) := ⟨⟨by decide +kernel, by decide +kernel⟩, List.mem_of_getElem? (i := 947) (by decide +kernel), List.mem_of_getElem? (i := 970) (by decide +kernel), List.mem_of_getElem? (i := 971) (by decide +kernel)⟩
theorem lw_p27 : lw_okq (⟨"OneNetModel", "wordFrom", "(II)I"⟩, 42) := ⟨⟨by decide +kernel, by decide +kernel⟩, List.mem_of_getElem? (i := 947) (by decide +kernel), List.mem_of_getElem? (i := 974) (by decide +kernel), List.mem_of_getElem? (i := 975) (by decide +kernel)⟩
theorem lw_p28 : lw_okq (⟨"OneNetModel", "eRead", "()Z"⟩, 42) := ⟨⟨by decide +kernel, by decide +kernel⟩, List.mem_of_getElem? (i := 947) (by decide +kernel), List.mem_of_getElem? (i := 978) (by decide +kernel), List.mem_of_getElem? (i := 979) (by decide +kernel)⟩
theorem lw_p29 : lw_okq (⟨"OneNetModel", "puts", "(I)V"⟩, 42) := ⟨⟨by decide +kernel, by decide +kernel⟩, List.mem_of_getElem? (i := 947) (by decide +kernel), List.mem_of_getElem? (i := 983) (by decide +kernel), List.mem_of_getElem? (i := 984) (by decide +kernel)⟩
theorem lw_p30 : lw_okq (⟨"OneNetModel", "unwinds", "(I)V"⟩, 42) := ⟨⟨by decide +kernel, by decide +kernel⟩, List.mem_of_getElem? (i := 947) (by decide +kernel), List.mem_of_getElem? (i := 987) (by decide +kernel), List.mem_of_getElem? (i := 988) (by decide +kernel)⟩
theorem lw_p31 : lw_okq (⟨"OneNetModel", "opensOne", "(I)Z"⟩, 42) := ⟨⟨by decide +kernel, by decide +kernel⟩, List.mem_of_getElem? (i := 947) (by decide +kernel), List.mem_of_getElem? (i := 994) (by decide +kernel), List.mem_of_getElem? (i := 995) (by decide +kernel)⟩
def lw_privs_2 : List (MethodName × Nat) := [(⟨"OneNet$Sleeper", "leastFelt", "()I"⟩, 5), (⟨"OneNet$Net", "deepNext", "(I)I"⟩, 7), (⟨"OneNet$Crowd", "bears", "(II)I"⟩, 9), (⟨"OneNet$Crowd", "rollOnce", "()Z"⟩, 9), (⟨"OneNet$Crowd", "rollsTo", "(I)I"⟩, 9), (⟨"OneNet$Net", "measureFrom", "(I)V"⟩, 7), (⟨"OneNet$Crowd", "wakesBy", "(II)Z"⟩, 9), (⟨"OneNet", "refusalOfDepths", "(I)I"⟩, 8), (⟨"OneNet", "firstOtherwise", "(LOneNet$Sheet;)I"⟩, 8), (⟨"OneNet", "turningBy", "(I)I"⟩, 8), (⟨"OneNetModel", "next", "()V"⟩, 42), (⟨"OneNetModel", "wordFrom", "(II)I"⟩, 42), (⟨"OneNetModel", "eRead", "()Z"⟩, 42), (⟨"OneNetModel", "puts", "(I)V"⟩, 42), (⟨"OneNetModel", "unwinds", "(I)V"⟩, 42), (⟨"OneNetModel", "opensOne", "(I)Z"⟩, 42)]
theorem lw_r2 : ∀ q ∈ lw_privs_2, lw_okq q := List.forall_mem_cons.mpr ⟨lw_p16, List.forall_mem_cons.mpr ⟨lw_p17, List.forall_mem_cons.mpr ⟨lw_p18, List.forall_mem_cons.mpr ⟨lw_p19, List.forall_mem_cons.mpr ⟨lw_p20, List.forall_mem_cons.mpr ⟨lw_p21, List.forall_mem_cons.mpr ⟨lw_p22, List.forall_mem_cons.mpr ⟨lw_p23, List.forall_mem_cons.mpr ⟨lw_p24, List.forall_mem_cons.mpr ⟨lw_p25, List.forall_mem_cons.mpr ⟨lw_p26, List.forall_mem_cons.mpr ⟨lw_p27, List.forall_mem_cons.mpr ⟨lw_p28, List.forall_mem_cons.mpr ⟨lw_p29, List.forall_mem_cons.mpr ⟨lw_p30, List.forall_mem_cons.mpr ⟨lw_p31, fun _ h => absurd h List.not_mem_nil⟩⟩⟩⟩⟩⟩⟩⟩⟩⟩⟩⟩⟩⟩⟩⟩
theorem lw_p32 : lw_okq (⟨"OneNetModel", "holds", "(I)V"⟩, 42) := ⟨⟨by decide +kernel, by decide +kernel⟩, List.mem_of_getElem? (i := 947) (by decide +kernel), List.mem_of_getElem? (i := 998) (by decide +kernel), List.mem_of_getElem? (i := 999) (by decide +kernel)⟩
theorem lw_p33 : lw_okq (⟨"OneNetModel", "signOf", "()I"⟩, 42) := ⟨⟨by decide +kernel, by decide +kernel⟩, List.mem_of_getElem? (i := 947) (by decide +kernel), List.mem_of_getElem? (i := 1002) (by decide +kernel), List.mem_of_getElem? (i := 1003) (by decide +kernel)⟩
theorem lw_p34 : lw_okq (⟨"OneNetModel", "between", "(I)Z"⟩, 42) := ⟨⟨by decide +kernel, by decide +kernel⟩, List.mem_of_getElem? (i := 947) (by decide +kernel), List.mem_of_getElem? (i := 1006) (by decide +kernel), List.mem_of_getElem? (i := 1007) (by decide +kernel)⟩
theorem lw_p35 : lw_okq (⟨"OneNetModel", "hasCord", "(II)Z"⟩, 42) := ⟨⟨by decide +kernel, by decide +kernel⟩, List.mem_of_getElem? (i := 947) (by decide +kernel), List.mem_of_getElem? (i := 1141) (by decide +kernel), List.mem_of_getElem? (i := 1142) (by decide +kernel)⟩
theorem lw_p36 : lw_okq (⟨"OneNetModel", "cords", "(IIZ)V"⟩, 42) := ⟨⟨by decide +kernel, by decide +kernel⟩, List.mem_of_getElem? (i := 947) (by decide +kernel), List.mem_of_getElem? (i := 1145) (by decide +kernel), List.mem_of_getElem? (i := 1146) (by decide +kernel)⟩
theorem lw_p37 : lw_okq (⟨"OneNetModel", "cordMany", "()I"⟩, 42) := ⟨⟨by decide +kernel, by decide +kernel⟩, List.mem_of_getElem? (i := 947) (by decide +kernel), List.mem_of_getElem? (i := 1161) (by decide +kernel), List.mem_of_getElem? (i := 1162) (by decide +kernel)⟩
theorem lw_p38 : lw_okq (⟨"OneNetModel", "asksOf", "(IIIIIII)I"⟩, 42) := ⟨⟨by decide +kernel, by decide +kernel⟩, List.mem_of_getElem? (i := 947) (by decide +kernel), List.mem_of_getElem? (i := 1184) (by decide +kernel), List.mem_of_getElem? (i := 1185) (by decide +kernel)⟩
theorem lw_p39 : lw_okq (⟨"OneNetModel", "says", "(I)I"⟩, 42) := ⟨⟨by decide +kernel, by decide +kernel⟩, List.mem_of_getElem? (i := 947) (by decide +kernel), List.mem_of_getElem? (i := 1188) (by decide +kernel), List.mem_of_getElem? (i := 1189) (by decide +kernel)⟩
theorem lw_p40 : lw_okq (⟨"OneNetModel", "isSleeper", "(I)Z"⟩, 42) := ⟨⟨by decide +kernel, by decide +kernel⟩, List.mem_of_getElem? (i := 947) (by decide +kernel), List.mem_of_getElem? (i := 1206) (by decide +kernel), List.mem_of_getElem? (i := 1207) (by decide +kernel)⟩
theorem lw_p41 : lw_okq (⟨"OneNetModel", "weighs", "(I)I"⟩, 42) := ⟨⟨by decide +kernel, by decide +kernel⟩, List.mem_of_getElem? (i := 947) (by decide +kernel), List.mem_of_getElem? (i := 1214) (by decide +kernel), List.mem_of_getElem? (i := 1215) (by decide +kernel)⟩
theorem lw_p42 : lw_okq (⟨"OneNetModel", "wakesAt", "(I)I"⟩, 42) := ⟨⟨by decide +kernel, by decide +kernel⟩, List.mem_of_getElem? (i := 947) (by decide +kernel), List.mem_of_getElem? (i := 1218) (by decide +kernel), List.mem_of_getElem? (i := 1219) (by decide +kernel)⟩
theorem lw_p43 : lw_okq (⟨"OneNetModel", "all", "()I"⟩, 42) := ⟨⟨by decide +kernel, by decide +kernel⟩, List.mem_of_getElem? (i := 947) (by decide +kernel), List.mem_of_getElem? (i := 1226) (by decide +kernel), List.mem_of_getElem? (i := 1227) (by decide +kernel)⟩
theorem lw_p44 : lw_okq (⟨"OneNetModel", "hangs", "(I)V"⟩, 42) := ⟨⟨by decide +kernel, by decide +kernel⟩, List.mem_of_getElem? (i := 947) (by decide +kernel), List.mem_of_getElem? (i := 1230) (by decide +kernel), List.mem_of_getElem? (i := 1231) (by decide +kernel)⟩
theorem lw_p45 : lw_okq (⟨"OneNetModel", "sinks", "(I)I"⟩, 42) := ⟨⟨by decide +kernel, by decide +kernel⟩, List.mem_of_getElem? (i := 947) (by decide +kernel), List.mem_of_getElem? (i := 1234) (by decide +kernel), List.mem_of_getElem? (i := 1235) (by decide +kernel)⟩
theorem lw_p46 : lw_okq (⟨"OneNetModel", "isTied", "(I)Z"⟩, 42) := ⟨⟨by decide +kernel, by decide +kernel⟩, List.mem_of_getElem? (i := 947) (by decide +kernel), List.mem_of_getElem? (i := 1238) (by decide +kernel), List.mem_of_getElem? (i := 1239) (by decide +kernel)⟩
theorem lw_p47 : lw_okq (⟨"OneNetModel", "deepest", "()I"⟩, 42) := ⟨⟨by decide +kernel, by decide +kernel⟩, List.mem_of_getElem? (i := 947) (by decide +kernel), List.mem_of_getElem? (i := 1250) (by decide +kernel), List.mem_of_getElem? (i := 1251) (by decide +kernel)⟩
def lw_privs_3 : List (MethodName × Nat) := [(⟨"OneNetModel", "holds", "(I)V"⟩, 42), (⟨"OneNetModel", "signOf", "()I"⟩, 42), (⟨"OneNetModel", "between", "(I)Z"⟩, 42), (⟨"OneNetModel", "hasCord", "(II)Z"⟩, 42), (⟨"OneNetModel", "cords", "(IIZ)V"⟩, 42), (⟨"OneNetModel", "cordMany", "()I"⟩, 42), (⟨"OneNetModel", "asksOf", "(IIIIIII)I"⟩, 42), (⟨"OneNetModel", "says", "(I)I"⟩, 42), (⟨"OneNetModel", "isSleeper", "(I)Z"⟩, 42), (⟨"OneNetModel", "weighs", "(I)I"⟩, 42), (⟨"OneNetModel", "wakesAt", "(I)I"⟩, 42), (⟨"OneNetModel", "all", "()I"⟩, 42), (⟨"OneNetModel", "hangs", "(I)V"⟩, 42), (⟨"OneNetModel", "sinks", "(I)I"⟩, 42), (⟨"OneNetModel", "isTied", "(I)Z"⟩, 42), (⟨"OneNetModel", "deepest", "()I"⟩, 42)]
theorem lw_r3 : ∀ q ∈ lw_privs_3, lw_okq q := List.forall_mem_cons.mpr ⟨lw_p32, List.forall_mem_cons.mpr ⟨lw_p33, List.forall_mem_cons.mpr ⟨lw_p34, List.forall_mem_cons.mpr ⟨lw_p35, List.forall_mem_cons.mpr ⟨lw_p36, List.forall_mem_cons.mpr ⟨lw_p37, List.forall_mem_cons.mpr ⟨lw_p38, List.forall_mem_cons.mpr ⟨lw_p39, List.forall_mem_cons.mpr ⟨lw_p40, List.forall_mem_cons.mpr ⟨lw_p41, List.forall_mem_cons.mpr ⟨lw_p42, List.forall_mem_cons.mpr ⟨lw_p43, List.forall_mem_cons.mpr ⟨lw_p44, List.forall_mem_cons.mpr ⟨lw_p45, List.forall_mem_cons.mpr ⟨lw_p46, List.forall_mem_cons.mpr ⟨lw_p47, fun _ h => absurd h List.not_mem_nil⟩⟩⟩⟩⟩⟩⟩⟩⟩⟩⟩⟩⟩⟩⟩⟩
theorem lw_p48 : lw_okq (⟨"OneNetModel", "tears", "()I"⟩, 42) := ⟨⟨by decide +kernel, by decide +kernel⟩, List.mem_of_getElem? (i := 947) (by decide +kernel), List.mem_of_getElem? (i := 1254) (by decide +kernel), List.mem_of_getElem? (i := 1255) (by decide +kernel)⟩
theorem lw_p49 : lw_okq (⟨"OneNetModel", "depths", "()I"⟩, 42) := ⟨⟨by decide +kernel, by decide +kernel⟩, List.mem_of_getElem? (i := 947) (by decide +kernel), List.mem_of_getElem? (i := 1258) (by decide +kernel), List.mem_of_getElem? (i := 1259) (by decide +kernel)⟩
theorem lw_p50 : lw_okq (⟨"OneNetModel", "rolls", "(I)I"⟩, 42) := ⟨⟨by decide +kernel, by decide +kernel⟩, List.mem_of_getElem? (i := 947) (by decide +kernel), List.mem_of_getElem? (i := 1266) (by decide +kernel), List.mem_of_getElem? (i := 1267) (by decide +kernel)⟩
theorem lw_p51 : lw_okq (⟨"OneNetModel", "rollsOnce", "()I"⟩, 42) := ⟨⟨by decide +kernel, by decide +kernel⟩, List.mem_of_getElem? (i := 947) (by decide +kernel), List.mem_of_getElem? (i := 1270) (by decide +kernel), List.mem_of_getElem? (i := 1271) (by decide +kernel)⟩
theorem lw_p52 : lw_okq (⟨"OneNetModel", "rollsTo", "(I)I"⟩, 42) := ⟨⟨by decide +kernel, by decide +kernel⟩, List.mem_of_getElem? (i := 947) (by decide +kernel), List.mem_of_getElem? (i := 1274) (by decide +kernel), List.mem_of_getElem? (i := 1275) (by decide +kernel)⟩
theorem lw_p53 : lw_okq (⟨"OneNetModel", "keeps", "()V"⟩, 42) := ⟨⟨by decide +kernel, by decide +kernel⟩, List.mem_of_getElem? (i := 947) (by decide +kernel), List.mem_of_getElem? (i := 1282) (by decide +kernel), List.mem_of_getElem? (i := 1283) (by decide +kernel)⟩
theorem lw_p54 : lw_okq (⟨"OneNetModel", "laysBack", "()V"⟩, 42) := ⟨⟨by decide +kernel, by decide +kernel⟩, List.mem_of_getElem? (i := 947) (by decide +kernel), List.mem_of_getElem? (i := 1286) (by decide +kernel), List.mem_of_getElem? (i := 1287) (by decide +kernel)⟩
theorem lw_p55 : lw_okq (⟨"OneNetModel", "feels", "(II)I"⟩, 42) := ⟨⟨by decide +kernel, by decide +kernel⟩, List.mem_of_getElem? (i := 947) (by decide +kernel), List.mem_of_getElem? (i := 1294) (by decide +kernel), List.mem_of_getElem? (i := 1295) (by decide +kernel)⟩
theorem lw_p56 : lw_okq (⟨"OneNetModel", "farTo", "(II)I"⟩, 42) := ⟨⟨by decide +kernel, by decide +kernel⟩, List.mem_of_getElem? (i := 947) (by decide +kernel), List.mem_of_getElem? (i := 1298) (by decide +kernel), List.mem_of_getElem? (i := 1299) (by decide +kernel)⟩
theorem lw_p57 : lw_okq (⟨"OneNetModel", "turnsBy", "(II)I"⟩, 42) := ⟨⟨by decide +kernel, by decide +kernel⟩, List.mem_of_getElem? (i := 947) (by decide +kernel), List.mem_of_getElem? (i := 1302) (by decide +kernel), List.mem_of_getElem? (i := 1303) (by decide +kernel)⟩
theorem lw_p58 : lw_okq (⟨"OneNetModel", "findsWakes", "()V"⟩, 42) := ⟨⟨by decide +kernel, by decide +kernel⟩, List.mem_of_getElem? (i := 947) (by decide +kernel), List.mem_of_getElem? (i := 1310) (by decide +kernel), List.mem_of_getElem? (i := 1311) (by decide +kernel)⟩
theorem lw_p59 : lw_okq (⟨"OneNetModel", "wokenBy", "(I)I"⟩, 42) := ⟨⟨by decide +kernel, by decide +kernel⟩, List.mem_of_getElem? (i := 947) (by decide +kernel), List.mem_of_getElem? (i := 1314) (by decide +kernel), List.mem_of_getElem? (i := 1315) (by decide +kernel)⟩
theorem lw_p60 : lw_okq (⟨"OneNetModel", "isWoken", "(II)Z"⟩, 42) := ⟨⟨by decide +kernel, by decide +kernel⟩, List.mem_of_getElem? (i := 947) (by decide +kernel), List.mem_of_getElem? (i := 1318) (by decide +kernel), List.mem_of_getElem? (i := 1319) (by decide +kernel)⟩
theorem lw_p61 : lw_okq (⟨"OneNetModel", "wokenByAny", "(I)I"⟩, 42) := ⟨⟨by decide +kernel, by decide +kernel⟩, List.mem_of_getElem? (i := 947) (by decide +kernel), List.mem_of_getElem? (i := 1322) (by decide +kernel), List.mem_of_getElem? (i := 1323) (by decide +kernel)⟩
theorem lw_p62 : lw_okq (⟨"OneNetModel", "wokenTimes", "(I)I"⟩, 42) := ⟨⟨by decide +kernel, by decide +kernel⟩, List.mem_of_getElem? (i := 947) (by decide +kernel), List.mem_of_getElem? (i := 1334) (by decide +kernel), List.mem_of_getElem? (i := 1335) (by decide +kernel)⟩
theorem lw_p63 : lw_okq (⟨"OneNetModel", "changes", "(II)V"⟩, 42) := ⟨⟨by decide +kernel, by decide +kernel⟩, List.mem_of_getElem? (i := 947) (by decide +kernel), List.mem_of_getElem? (i := 1347) (by decide +kernel), List.mem_of_getElem? (i := 1348) (by decide +kernel)⟩
def lw_privs_4 : List (MethodName × Nat) := [(⟨"OneNetModel", "tears", "()I"⟩, 42), (⟨"OneNetModel", "depths", "()I"⟩, 42), (⟨"OneNetModel", "rolls", "(I)I"⟩, 42), (⟨"OneNetModel", "rollsOnce", "()I"⟩, 42), (⟨"OneNetModel", "rollsTo", "(I)I"⟩, 42), (⟨"OneNetModel", "keeps", "()V"⟩, 42), (⟨"OneNetModel", "laysBack", "()V"⟩, 42), (⟨"OneNetModel", "feels", "(II)I"⟩, 42), (⟨"OneNetModel", "farTo", "(II)I"⟩, 42), (⟨"OneNetModel", "turnsBy", "(II)I"⟩, 42), (⟨"OneNetModel", "findsWakes", "()V"⟩, 42), (⟨"OneNetModel", "wokenBy", "(I)I"⟩, 42), (⟨"OneNetModel", "isWoken", "(II)Z"⟩, 42), (⟨"OneNetModel", "wokenByAny", "(I)I"⟩, 42), (⟨"OneNetModel", "wokenTimes", "(I)I"⟩, 42), (⟨"OneNetModel", "changes", "(II)V"⟩, 42)]
theorem lw_r4 : ∀ q ∈ lw_privs_4, lw_okq q := List.forall_mem_cons.mpr ⟨lw_p48, List.forall_mem_cons.mpr ⟨lw_p49, List.forall_mem_cons.mpr ⟨lw_p50, List.forall_mem_cons.mpr ⟨lw_p51, List.forall_mem_cons.mpr ⟨lw_p52, List.forall_mem_cons.mpr ⟨lw_p53, List.forall_mem_cons.mpr ⟨lw_p54, List.forall_mem_cons.mpr ⟨lw_p55, List.forall_mem_cons.mpr ⟨lw_p56, List.forall_mem_cons.mpr ⟨lw_p57, List.forall_mem_cons.mpr ⟨lw_p58, List.forall_mem_cons.mpr ⟨lw_p59, List.forall_mem_cons.mpr ⟨lw_p60, List.forall_mem_cons.mpr ⟨lw_p61, List.forall_mem_cons.mpr ⟨lw_p62, List.forall_mem_cons.mpr ⟨lw_p63, fun _ h => absurd h List.not_mem_nil⟩⟩⟩⟩⟩⟩⟩⟩⟩⟩⟩⟩⟩⟩⟩⟩
theorem lw_p64 : lw_okq (⟨"OneNetModel", "wouldRest", "(I)Z"⟩, 42) := ⟨⟨by decide +kernel, by decide +kernel⟩, List.mem_of_getElem? (i := 947) (by decide +kernel), List.mem_of_getElem? (i := 1355) (by decide +kernel), List.mem_of_getElem? (i := 1356) (by decide +kernel)⟩
theorem lw_p65 : lw_okq (⟨"OneNetModel", "isEmpty", "(I)Z"⟩, 42) := ⟨⟨by decide +kernel, by decide +kernel⟩, List.mem_of_getElem? (i := 947) (by decide +kernel), List.mem_of_getElem? (i := 1359) (by decide +kernel), List.mem_of_getElem? (i := 1360) (by decide +kernel)⟩
theorem lw_p66 : lw_okq (⟨"OneNetModel", "getsIn", "(III)V"⟩, 42) := ⟨⟨by decide +kernel, by decide +kernel⟩, List.mem_of_getElem? (i := 947) (by decide +kernel), List.mem_of_getElem? (i := 1367) (by decide +kernel), List.mem_of_getElem? (i := 1368) (by decide +kernel)⟩
theorem lw_p67 : lw_okq (⟨"OneNetModel", "deepestNow", "()I"⟩, 42) := ⟨⟨by decide +kernel, by decide +kernel⟩, List.mem_of_getElem? (i := 947) (by decide +kernel), List.mem_of_getElem? (i := 1375) (by decide +kernel), List.mem_of_getElem? (i := 1376) (by decide +kernel)⟩
theorem lw_p68 : lw_okq (⟨"OneNetModel", "sheetWrong", "(I)I"⟩, 42) := ⟨⟨by decide +kernel, by decide +kernel⟩, List.mem_of_getElem? (i := 947) (by decide +kernel), List.mem_of_getElem? (i := 1395) (by decide +kernel), List.mem_of_getElem? (i := 1396) (by decide +kernel)⟩
theorem lw_p69 : lw_okq (⟨"OneNetModel", "unlike", "(I)I"⟩, 42) := ⟨⟨by decide +kernel, by decide +kernel⟩, List.mem_of_getElem? (i := 947) (by decide +kernel), List.mem_of_getElem? (i := 1399) (by decide +kernel), List.mem_of_getElem? (i := 1400) (by decide +kernel)⟩
theorem lw_p70 : lw_okq (⟨"OneNetModel", "turnBy", "(I)I"⟩, 42) := ⟨⟨by decide +kernel, by decide +kernel⟩, List.mem_of_getElem? (i := 947) (by decide +kernel), List.mem_of_getElem? (i := 1416) (by decide +kernel), List.mem_of_getElem? (i := 1417) (by decide +kernel)⟩
def lw_privs_5 : List (MethodName × Nat) := [(⟨"OneNetModel", "wouldRest", "(I)Z"⟩, 42), (⟨"OneNetModel", "isEmpty", "(I)Z"⟩, 42), (⟨"OneNetModel", "getsIn", "(III)V"⟩, 42), (⟨"OneNetModel", "deepestNow", "()I"⟩, 42), (⟨"OneNetModel", "sheetWrong", "(I)I"⟩, 42), (⟨"OneNetModel", "unlike", "(I)I"⟩, 42), (⟨"OneNetModel", "turnBy", "(I)I"⟩, 42)]
theorem lw_r5 : ∀ q ∈ lw_privs_5, lw_okq q := List.forall_mem_cons.mpr ⟨lw_p64, List.forall_mem_cons.mpr ⟨lw_p65, List.forall_mem_cons.mpr ⟨lw_p66, List.forall_mem_cons.mpr ⟨lw_p67, List.forall_mem_cons.mpr ⟨lw_p68, List.forall_mem_cons.mpr ⟨lw_p69, List.forall_mem_cons.mpr ⟨lw_p70, fun _ h => absurd h List.not_mem_nil⟩⟩⟩⟩⟩⟩⟩
def lw_privs : List (MethodName × Nat) := lw_privs_1 ++ (lw_privs_2 ++ (lw_privs_3 ++ (lw_privs_4 ++ (lw_privs_5))))
def lw_tbl : List Cond := k2_sels lw_privs ++ tables_1
theorem lw_privs_ok : ∀ q ∈ lw_privs, lw_okq q := by
  show ∀ q ∈ lw_privs_1 ++ (lw_privs_2 ++ (lw_privs_3 ++ (lw_privs_4 ++ (lw_privs_5)))), lw_okq q
  exact List.forall_mem_append.mpr ⟨lw_r1, List.forall_mem_append.mpr ⟨lw_r2, List.forall_mem_append.mpr ⟨lw_r3, List.forall_mem_append.mpr ⟨lw_r4, lw_r5⟩⟩⟩⟩
-- ===== end of PART A =====
def RX0 : String := "OneNet$Crowd"
def TX0 : u_T := fun k => match k with
  | 0 => ("OneNet$Crowd", "net", "LOneNet$Net;", true)
  | 1 => ("OneNet$Crowd", "law", "LOneNet$Law;", false)
  | 2 => ("OneNet$Crowd", "all", "[LOneNet$Sleeper;", true)
  | 3 => ("OneNet$Crowd", "lies", "[I", true)
  | 4 => ("OneNet$Crowd", "size", "I", false)
  | 5 => ("OneNet$Crowd", "marked", "[I", true)
  | 6 => ("OneNet$Crowd", "goes", "[I", true)
  | 7 => ("OneNet$Crowd", "wakersBy", "[I", true)
  | _ => ("OneNet$Crowd", "names", "[I", true)
def tyX0 : Nat → FieldType := fun k => match k with
  | 0 => .object "OneNet$Net"
  | 1 => .object "OneNet$Law"
  | 2 => .array (.object "OneNet$Sleeper")
  | 3 => .array .int
  | 4 => .int
  | 5 => .array .int
  | 6 => .array .int
  | 7 => .array .int
  | _ => .array .int
theorem nmX0 : ∀ a, a < 9 → ∀ b, b < 9 → a ≠ b → (TX0 a).2.1 ≠ (TX0 b).2.1 := by decide +kernel
theorem tyX0_ok : ∀ k, k < 9 → parseFieldDescriptor (TX0 k).2.2.1 = some (tyX0 k) := by decide +kernel
def RX1 : String := "OneNet$Image"
def TX1 : u_T := fun k => match k with
  | 0 => ("OneNet$Image", "taken", "Z", false)
  | 1 => ("OneNet$Image", "lawNumber", "I", false)
  | 2 => ("OneNet$Image", "cords", "[I", true)
  | 3 => ("OneNet$Image", "tied", "I", false)
  | 4 => ("OneNet$Image", "lies", "[I", true)
  | _ => ("OneNet$Image", "size", "I", false)
def tyX1 : Nat → FieldType := fun k => match k with
  | 0 => .boolean
  | 1 => .int
  | 2 => .array .int
  | 3 => .int
  | 4 => .array .int
  | _ => .int
theorem nmX1 : ∀ a, a < 6 → ∀ b, b < 6 → a ≠ b → (TX1 a).2.1 ≠ (TX1 b).2.1 := by decide +kernel
theorem tyX1_ok : ∀ k, k < 6 → parseFieldDescriptor (TX1 k).2.2.1 = some (tyX1 k) := by decide +kernel
def RX2 : String := "OneNet$Law"
def TX2 : u_T := fun k => match k with
  | 0 => ("OneNet$Law", "steps", "[I", true)
  | 1 => ("OneNet$Law", "ends", "[I", true)
  | _ => ("OneNet$Law", "stack", "[I", true)
def tyX2 : Nat → FieldType := fun k => match k with
  | 0 => .array .int
  | 1 => .array .int
  | _ => .array .int
theorem nmX2 : ∀ a, a < 3 → ∀ b, b < 3 → a ≠ b → (TX2 a).2.1 ≠ (TX2 b).2.1 := by decide +kernel
theorem tyX2_ok : ∀ k, k < 3 → parseFieldDescriptor (TX2 k).2.2.1 = some (tyX2 k) := by decide +kernel
def RX3 : String := "OneNet$Net"
def TX3 : u_T := fun k => match k with
  | 0 => ("OneNet$Net", "cords", "[I", true)
  | 1 => ("OneNet$Net", "tied", "I", false)
  | 2 => ("OneNet$Net", "loads", "[I", true)
  | 3 => ("OneNet$Net", "deep", "[I", false)
  | 4 => ("OneNet$Net", "ahead", "[I", false)
  | 5 => ("OneNet$Net", "far", "[I", true)
  | _ => ("OneNet$Net", "farIsKnown", "Z", false)
def tyX3 : Nat → FieldType := fun k => match k with
  | 0 => .array .int
  | 1 => .int
  | 2 => .array .int
  | 3 => .array .int
  | 4 => .array .int
  | 5 => .array .int
  | _ => .boolean
theorem nmX3 : ∀ a, a < 7 → ∀ b, b < 7 → a ≠ b → (TX3 a).2.1 ≠ (TX3 b).2.1 := by decide +kernel
theorem tyX3_ok : ∀ k, k < 7 → parseFieldDescriptor (TX3 k).2.2.1 = some (tyX3 k) := by decide +kernel
def RX4 : String := "OneNet$Sheet"
def TX4 : u_T := fun k => match k with
  | 0 => ("OneNet$Sheet", "sort", "I", false)
  | 1 => ("OneNet$Sheet", "size", "I", false)
  | _ => ("OneNet$Sheet", "cells", "[I", true)
def tyX4 : Nat → FieldType := fun k => match k with
  | 0 => .int
  | 1 => .int
  | _ => .array .int
theorem nmX4 : ∀ a, a < 3 → ∀ b, b < 3 → a ≠ b → (TX4 a).2.1 ≠ (TX4 b).2.1 := by decide +kernel
theorem tyX4_ok : ∀ k, k < 3 → parseFieldDescriptor (TX4 k).2.2.1 = some (tyX4 k) := by decide +kernel
def RX5 : String := "OneNet$Sleeper"
def TX5 : u_T := fun k => match k with
  | 0 => ("OneNet$Sleeper", "kind", "I", false)
  | 1 => ("OneNet$Sleeper", "told", "I", false)
  | 2 => ("OneNet$Sleeper", "more", "I", false)
  | 3 => ("OneNet$Sleeper", "weight", "I", false)
  | _ => ("OneNet$Sleeper", "wakesAt", "I", false)
def tyX5 : Nat → FieldType := fun k => match k with
  | 0 => .int
  | 1 => .int
  | 2 => .int
  | 3 => .int
  | _ => .int
theorem nmX5 : ∀ a, a < 5 → ∀ b, b < 5 → a ≠ b → (TX5 a).2.1 ≠ (TX5 b).2.1 := by decide +kernel
theorem tyX5_ok : ∀ k, k < 5 → parseFieldDescriptor (TX5 k).2.2.1 = some (tyX5 k) := by decide +kernel
def RX6 : String := "OneNet$Tape"
def TX6 : u_T := fun k => match k with
  | 0 => ("OneNet$Tape", "bytes", "[I", true)
  | 1 => ("OneNet$Tape", "size", "I", false)
  | 2 => ("OneNet$Tape", "steps", "[I", true)
  | 3 => ("OneNet$Tape", "stepCount", "I", false)
  | 4 => ("OneNet$Tape", "ends", "[I", true)
  | 5 => ("OneNet$Tape", "token", "I", false)
  | 6 => ("OneNet$Tape", "start", "I", false)
  | 7 => ("OneNet$Tape", "behind", "I", false)
  | 8 => ("OneNet$Tape", "number", "I", false)
  | 9 => ("OneNet$Tape", "open", "I", false)
  | _ => ("OneNet$Tape", "fault", "I", false)
def tyX6 : Nat → FieldType := fun k => match k with
  | 0 => .array .int
  | 1 => .int
  | 2 => .array .int
  | 3 => .int
  | 4 => .array .int
  | 5 => .int
  | 6 => .int
  | 7 => .int
  | 8 => .int
  | 9 => .int
  | _ => .int
theorem nmX6 : ∀ a, a < 11 → ∀ b, b < 11 → a ≠ b → (TX6 a).2.1 ≠ (TX6 b).2.1 := by decide +kernel
theorem tyX6_ok : ∀ k, k < 11 → parseFieldDescriptor (TX6 k).2.2.1 = some (tyX6 k) := by decide +kernel
def RX7 : String := "OneNet"
def TX7 : u_T := fun k => match k with
  | 0 => ("OneNet", "tape", "LOneNet$Tape;", true)
  | 1 => ("OneNet", "texts", "[LOneNet$Law;", true)
  | 2 => ("OneNet", "textCount", "I", false)
  | 3 => ("OneNet", "lawNumber", "I", false)
  | 4 => ("OneNet", "crowd", "LOneNet$Crowd;", true)
  | 5 => ("OneNet", "net", "LOneNet$Net;", true)
  | 6 => ("OneNet", "sheets", "[LOneNet$Sheet;", true)
  | _ => ("OneNet", "kept", "LOneNet$Image;", true)
def tyX7 : Nat → FieldType := fun k => match k with
  | 0 => .object "OneNet$Tape"
  | 1 => .array (.object "OneNet$Law")
  | 2 => .int
  | 3 => .int
  | 4 => .object "OneNet$Crowd"
  | 5 => .object "OneNet$Net"
  | 6 => .array (.object "OneNet$Sheet")
  | _ => .object "OneNet$Image"
theorem nmX7 : ∀ a, a < 8 → ∀ b, b < 8 → a ≠ b → (TX7 a).2.1 ≠ (TX7 b).2.1 := by decide +kernel
theorem tyX7_ok : ∀ k, k < 8 → parseFieldDescriptor (TX7 k).2.2.1 = some (tyX7 k) := by decide +kernel
def RX8 : String := "OneNetModel"
def TX8 : u_T := fun k => match k with
  | 0 => ("OneNetModel", "cordsOf", "[I", true)
  | 1 => ("OneNetModel", "tied", "I", false)
  | 2 => ("OneNetModel", "sleepers", "I", false)
  | 3 => ("OneNetModel", "kind", "[I", true)
  | 4 => ("OneNetModel", "toldOf", "[I", true)
  | 5 => ("OneNetModel", "moreOf", "[I", true)
  | 6 => ("OneNetModel", "knotOf", "[I", true)
  | 7 => ("OneNetModel", "tape", "[I", true)
  | 8 => ("OneNetModel", "taped", "I", false)
  | 9 => ("OneNetModel", "codes", "[I", true)
  | 10 => ("OneNetModel", "starts", "[I", true)
  | 11 => ("OneNetModel", "texts", "I", false)
  | 12 => ("OneNetModel", "rule", "I", false)
  | 13 => ("OneNetModel", "hasImage", "Z", false)
  | 14 => ("OneNetModel", "imageSleepers", "I", false)
  | 15 => ("OneNetModel", "imageTied", "I", false)
  | 16 => ("OneNetModel", "imageRule", "I", false)
  | 17 => ("OneNetModel", "imageCords", "[I", true)
  | 18 => ("OneNetModel", "imageKnots", "[I", true)
  | 19 => ("OneNetModel", "sheetSort", "[I", true)
  | 20 => ("OneNetModel", "sheetSize", "[I", true)
  | 21 => ("OneNetModel", "cells", "[I", true)
  | 22 => ("OneNetModel", "law", "[I", true)
  | 23 => ("OneNetModel", "at", "I", false)
  | 24 => ("OneNetModel", "begun", "I", false)
  | 25 => ("OneNetModel", "token", "I", false)
  | 26 => ("OneNetModel", "value", "I", false)
  | 27 => ("OneNetModel", "words", "[I", true)
  | 28 => ("OneNetModel", "held", "[I", true)
  | 29 => ("OneNetModel", "heldMany", "I", false)
  | 30 => ("OneNetModel", "opens", "I", false)
  | 31 => ("OneNetModel", "out", "I", false)
  | 32 => ("OneNetModel", "stack", "[I", true)
  | 33 => ("OneNetModel", "named", "[I", true)
  | 34 => ("OneNetModel", "load", "[I", true)
  | 35 => ("OneNetModel", "deep", "[I", true)
  | 36 => ("OneNetModel", "ahead", "[I", true)
  | 37 => ("OneNetModel", "toKnot", "[I", true)
  | 38 => ("OneNetModel", "keptKnot", "[I", true)
  | 39 => ("OneNetModel", "wake", "[I", true)
  | 40 => ("OneNetModel", "bestDigits", "I", false)
  | _ => ("OneNetModel", "bestDeep", "I", false)
def tyX8 : Nat → FieldType := fun k => match k with
  | 0 => .array .int
  | 1 => .int
  | 2 => .int
  | 3 => .array .int
  | 4 => .array .int
  | 5 => .array .int
  | 6 => .array .int
  | 7 => .array .int
  | 8 => .int
  | 9 => .array .int
  | 10 => .array .int
  | 11 => .int
  | 12 => .int
  | 13 => .boolean
  | 14 => .int
  | 15 => .int
  | 16 => .int
  | 17 => .array .int
  | 18 => .array .int
  | 19 => .array .int
  | 20 => .array .int
  | 21 => .array .int
  | 22 => .array .int
  | 23 => .int
  | 24 => .int
  | 25 => .int
  | 26 => .int
  | 27 => .array .int
  | 28 => .array .int
  | 29 => .int
  | 30 => .int
  | 31 => .int
  | 32 => .array .int
  | 33 => .array .int
  | 34 => .array .int
  | 35 => .array .int
  | 36 => .array .int
  | 37 => .array .int
  | 38 => .array .int
  | 39 => .array .int
  | 40 => .int
  | _ => .int
theorem nmX8 : ∀ a, a < 42 → ∀ b, b < 42 → a ≠ b → (TX8 a).2.1 ≠ (TX8 b).2.1 := by decide +kernel
theorem tyX8_ok : ∀ k, k < 42 → parseFieldDescriptor (TX8 k).2.2.1 = some (tyX8 k) := by decide +kernel
def x_nf (ci : Nat) : Nat := [9, 6, 3, 7, 3, 5, 11, 8, 42].getD ci 0
def x_T (ci : Nat) : u_T := match ci with
  | 0 => TX0
  | 1 => TX1
  | 2 => TX2
  | 3 => TX3
  | 4 => TX4
  | 5 => TX5
  | 6 => TX6
  | 7 => TX7
  | _ => TX8
def x_ty (ci : Nat) : Nat → FieldType := match ci with
  | 0 => tyX0
  | 1 => tyX1
  | 2 => tyX2
  | 3 => tyX3
  | 4 => tyX4
  | 5 => tyX5
  | 6 => tyX6
  | 7 => tyX7
  | _ => tyX8
def x_own (oc : Nat) : String := ["OneNet$Crowd", "OneNet$Image", "OneNet$Law", "OneNet$Net", "OneNet$Sheet", "OneNet$Sleeper", "OneNet$Tape", "OneNet", "OneNetModel", "OneNetLaw", "java/lang/String", "java/lang/StringLatin1", "java/lang/Math", "java/lang/Integer", "java/util/Arrays", "jdk/internal/util/Preconditions"].getD oc ""
def x_cl : List vw_C := [(RX0, TX0, 9), (RX1, TX1, 6), (RX2, TX2, 3), (RX3, TX3, 7), (RX4, TX4, 3), (RX5, TX5, 5), (RX6, TX6, 11), (RX7, TX7, 8), (RX8, TX8, 42)]
theorem x_cl_at : ∀ ci, ci < 9 → x_cl[ci]? = some (x_own ci, x_T ci, x_nf ci) := by
  intro ci h
  match ci, h with
  | 0, _ => rfl
  | 1, _ => rfl
  | 2, _ => rfl
  | 3, _ => rfl
  | 4, _ => rfl
  | 5, _ => rfl
  | 6, _ => rfl
  | 7, _ => rfl
  | 8, _ => rfl
def x_lp (ci : Nat) : List Nat := [[537, 539, 541, 543, 545, 547, 549, 551, 553], [158, 160, 162, 164, 166, 168], [403, 405, 407], [473, 475, 477, 479, 481, 483, 485], [426, 428, 430], [509, 511, 513, 515, 517], [116, 118, 120, 122, 124, 126, 128, 130, 132, 134, 136], [564, 566, 568, 570, 572, 574, 576, 578], [1122, 1124, 1126, 1128, 1130, 1132, 1134, 1136, 1138, 1140, 1142, 1144, 1146, 1148, 1150, 1152, 1154, 1156, 1158, 1160, 1162, 1164, 1166, 1168, 1170, 1172, 1174, 1176, 1178, 1180, 1182, 1184, 1186, 1188, 1190, 1192, 1194, 1196, 1198, 1200, 1202, 1204]].getD ci []
abbrev x_M : Type := Nat × MethodName × ByteArray × Nat × Option FieldType × Nat × Nat
def x_mt_0 : List x_M := [(9, ⟨"OneNetLaw", "law", "([I)Z"⟩, code, 4, ret, 1, 0), (7, ⟨"OneNet", "<init>", "()V"⟩, prog_1_method_1_code, 3, none, 1, 94), (7, ⟨"OneNet", "isKnot", "(I)Z"⟩, prog_1_method_45_code, 1, (some .boolean), 1, 451), (7, ⟨"OneNet", "cord", "(III)I"⟩, prog_1_method_2_code, 5, (some .int), 4, 584), (7, ⟨"OneNet", "isBit", "(I)Z"⟩, prog_1_method_43_code, 1, (some .boolean), 1, 588), (7, ⟨"OneNet", "corded", "(II)I"⟩, prog_1_method_3_code, 3, (some .int), 3, 597), (7, ⟨"OneNet", "tie", "(II)I"⟩, prog_1_method_4_code, 4, (some .int), 3, 601), (7, ⟨"OneNet", "count", "(I)I"⟩, prog_1_method_5_code, 2, (some .int), 2, 610), (7, ⟨"OneNet", "feed", "(IIIIII)I"⟩, prog_1_method_6_code, 8, (some .int), 7, 624), (7, ⟨"OneNet", "isByte", "(I)Z"⟩, prog_1_method_44_code, 1, (some .boolean), 1, 627), (7, ⟨"OneNet", "isIn", "(III)Z"⟩, prog_1_method_42_code, 3, (some .boolean), 3, 630), (7, ⟨"OneNet", "text", "()I"⟩, prog_1_method_7_code, 2, (some .int), 1, 638), (7, ⟨"OneNet", "force", "(I)I"⟩, prog_1_method_8_code, 3, (some .int), 2, 642), (7, ⟨"OneNet", "obey", "(I)V"⟩, prog_1_method_47_code, 2, none, 2, 646), (7, ⟨"OneNet", "asks", "(IIIII)I"⟩, prog_1_method_9_code, 6, (some .int), 6, 650), (7, ⟨"OneNet", "sleeper", "(III)I"⟩, prog_1_method_10_code, 4, (some .int), 4, 677), (7, ⟨"OneNet", "lie", "(II)I"⟩, prog_1_method_11_code, 4, (some .int), 3, 705), (7, ⟨"OneNet", "told", "(II)I"⟩, prog_1_method_12_code, 4, (some .int), 3, 713), (7, ⟨"OneNet", "depth", "(I)I"⟩, prog_1_method_13_code, 2, (some .int), 2, 717), (7, ⟨"OneNet", "pull", "(II)I"⟩, prog_1_method_14_code, 3, (some .int), 3, 741), (7, ⟨"OneNet", "hang", "(I)I"⟩, prog_1_method_15_code, 2, (some .int), 2, 749), (7, ⟨"OneNet", "roll", "(I)I"⟩, prog_1_method_16_code, 2, (some .int), 2, 774), (7, ⟨"OneNet", "rolled", "(II)I"⟩, prog_1_method_17_code, 4, (some .int), 3, 795), (7, ⟨"OneNet", "felt", "(II)I"⟩, prog_1_method_18_code, 3, (some .int), 3, 808), (7, ⟨"OneNet", "wakes", "(II)I"⟩, prog_1_method_19_code, 7, (some .int), 3, 829), (7, ⟨"OneNet", "night", "()I"⟩, prog_1_method_20_code, 1, (some .int), 1, 851), (7, ⟨"OneNet", "woken", "(I)I"⟩, prog_1_method_21_code, 2, (some .int), 2, 860), (7, ⟨"OneNet", "place", "(II)I"⟩, prog_1_method_22_code, 8, (some .int), 3, 868), (7, ⟨"OneNet", "swap", "(I)I"⟩, prog_1_method_23_code, 7, (some .int), 2, 872), (7, ⟨"OneNet", "rest", "()I"⟩, prog_1_method_24_code, 2, (some .int), 1, 880)]
def x_mt_1 : List x_M := [(7, ⟨"OneNet", "order", "(I)I"⟩, prog_1_method_25_code, 4, (some .int), 2, 889), (7, ⟨"OneNet", "mend", "(I)I"⟩, prog_1_method_26_code, 7, (some .int), 2, 898), (7, ⟨"OneNet", "rim", "(I)I"⟩, prog_1_method_27_code, 6, (some .int), 2, 902), (7, ⟨"OneNet", "turned", "(II)I"⟩, prog_1_method_28_code, 6, (some .int), 3, 906), (7, ⟨"OneNet", "laws", "(II)I"⟩, prog_1_method_29_code, 6, (some .int), 3, 914), (7, ⟨"OneNet", "judge", "(I)I"⟩, prog_1_method_30_code, 3, (some .int), 2, 918), (7, ⟨"OneNet", "refusalOfDepths", "(I)I"⟩, prog_1_method_48_code, 2, (some .int), 2, 922), (7, ⟨"OneNet", "isSheet", "(I)Z"⟩, prog_1_method_46_code, 1, (some .boolean), 1, 925), (7, ⟨"OneNet", "firstOtherwise", "(LOneNet$Sheet;)I"⟩, prog_1_method_49_code, 3, (some .int), 2, 929), (7, ⟨"OneNet", "where", "(II)I"⟩, prog_1_method_31_code, 7, (some .int), 3, 933), (7, ⟨"OneNet", "film", "(I)I"⟩, prog_1_method_32_code, 3, (some .int), 2, 937), (7, ⟨"OneNet", "drawn", "(II)I"⟩, prog_1_method_33_code, 4, (some .int), 3, 950), (7, ⟨"OneNet", "turningBy", "(I)I"⟩, prog_1_method_50_code, 6, (some .int), 2, 955), (7, ⟨"OneNet", "odds", "(III)J"⟩, prog_1_method_34_code, 7, (some .long), 4, 962), (7, ⟨"OneNet", "image", "()I"⟩, prog_1_method_35_code, 1, (some .int), 1, 967), (7, ⟨"OneNet", "back", "()I"⟩, prog_1_method_36_code, 1, (some .int), 1, 976), (7, ⟨"OneNet", "sheet", "(III)I"⟩, prog_1_method_37_code, 4, (some .int), 4, 989), (7, ⟨"OneNet", "cell", "(III)I"⟩, prog_1_method_38_code, 4, (some .int), 4, 993), (7, ⟨"OneNet", "copy", "(IIIII)I"⟩, prog_1_method_39_code, 8, (some .int), 6, 1001), (7, ⟨"OneNet", "sleepersBy", "(IIII)I"⟩, prog_1_method_40_code, 9, (some .int), 5, 1010), (7, ⟨"OneNet", "taken", "(II)I"⟩, prog_1_method_41_code, 4, (some .int), 3, 1015), (0, ⟨"OneNet$Crowd", "<init>", "(LOneNet$Law;)V"⟩, prog_2_method_1_code, 3, none, 2, 437), (0, ⟨"OneNet$Crowd", "nameTurner", "(III)V"⟩, prog_2_method_8_code, 4, none, 4, 654), (0, ⟨"OneNet$Crowd", "namePlace", "(III)V"⟩, prog_2_method_9_code, 4, none, 4, 658), (0, ⟨"OneNet$Crowd", "letIn", "(IIII)I"⟩, prog_2_method_4_code, 5, (some .int), 5, 681), (0, ⟨"OneNet$Crowd", "has", "(I)Z"⟩, prog_2_method_2_code, 2, (some .boolean), 2, 709), (0, ⟨"OneNet$Crowd", "settle", "()V"⟩, prog_2_method_10_code, 2, none, 1, 721), (0, ⟨"OneNet$Crowd", "tearing", "()I"⟩, prog_2_method_12_code, 4, (some .int), 1, 757), (0, ⟨"OneNet$Crowd", "bears", "(II)I"⟩, prog_2_method_13_code, 3, (some .int), 3, 763), (0, ⟨"OneNet$Crowd", "rollAll", "(I)I"⟩, prog_2_method_14_code, 4, (some .int), 2, 778)]
def x_mt_2 : List x_M := [(0, ⟨"OneNet$Crowd", "rollOnce", "()Z"⟩, prog_2_method_15_code, 3, (some .boolean), 1, 782), (0, ⟨"OneNet$Crowd", "rollsTo", "(I)I"⟩, prog_2_method_16_code, 4, (some .int), 2, 787), (0, ⟨"OneNet$Crowd", "mark", "()V"⟩, prog_2_method_5_code, 1, none, 1, 799), (0, ⟨"OneNet$Crowd", "goBack", "()V"⟩, prog_2_method_6_code, 1, none, 1, 804), (0, ⟨"OneNet$Crowd", "feels", "(II)I"⟩, prog_2_method_17_code, 4, (some .int), 3, 812), (0, ⟨"OneNet$Crowd", "wakers", "(I)I"⟩, prog_2_method_19_code, 4, (some .int), 2, 833), (0, ⟨"OneNet$Crowd", "wakesBy", "(II)Z"⟩, prog_2_method_18_code, 3, (some .boolean), 3, 837), (0, ⟨"OneNet$Crowd", "noteWakers", "()V"⟩, prog_2_method_22_code, 2, none, 1, 842), (0, ⟨"OneNet$Crowd", "wakersOfAny", "(I)I"⟩, prog_2_method_23_code, 4, (some .int), 2, 847), (0, ⟨"OneNet$Crowd", "unrest", "()I"⟩, prog_2_method_21_code, 3, (some .int), 1, 855), (0, ⟨"OneNet$Crowd", "wokenBy", "(I)I"⟩, prog_2_method_20_code, 4, (some .int), 2, 864), (0, ⟨"OneNet$Crowd", "changePlaces", "(II)V"⟩, prog_2_method_7_code, 4, none, 3, 876), (0, ⟨"OneNet$Crowd", "wouldSleepBetter", "(I)Z"⟩, prog_2_method_24_code, 7, (some .boolean), 2, 884), (0, ⟨"OneNet$Crowd", "deepestNow", "()I"⟩, prog_2_method_11_code, 1, (some .int), 1, 893), (0, ⟨"OneNet$Crowd", "hasAll", "(I)Z"⟩, prog_2_method_3_code, 2, (some .boolean), 2, 910), (1, ⟨"OneNet$Image", "<init>", "()V"⟩, prog_3_method_1_code, 1, none, 1, 148), (1, ⟨"OneNet$Image", "take", "(LOneNet$Net;LOneNet$Crowd;I)V"⟩, prog_3_method_2_code, 4, none, 4, 971), (1, ⟨"OneNet$Image", "giveBack", "(LOneNet$Net;LOneNet$Crowd;)V"⟩, prog_3_method_3_code, 3, none, 3, 980), (2, ⟨"OneNet$Law", "stepOfSign", "(I)I"⟩, prog_4_method_3_code, 1, (some .int), 1, 356), (2, ⟨"OneNet$Law", "stepOfName", "(I)I"⟩, prog_4_method_2_code, 1, (some .int), 1, 375), (2, ⟨"OneNet$Law", "<init>", "([I[I)V"⟩, prog_4_method_1_code, 3, none, 3, 398), (2, ⟨"OneNet$Law", "says", "(I[I)I"⟩, prog_4_method_4_code, 6, (some .int), 3, 662), (2, ⟨"OneNet$Law", "isAlone", "(I)Z"⟩, prog_4_method_5_code, 1, (some .boolean), 1, 665), (2, ⟨"OneNet$Law", "alone", "(II)I"⟩, prog_4_method_6_code, 2, (some .int), 2, 668), (2, ⟨"OneNet$Law", "joined", "(III)I"⟩, prog_4_method_7_code, 3, (some .int), 3, 671), (3, ⟨"OneNet$Net", "<init>", "()V"⟩, prog_5_method_1_code, 3, none, 1, 443), (3, ⟨"OneNet$Net", "areBeside", "(II)Z"⟩, prog_5_method_2_code, 3, (some .boolean), 2, 448), (3, ⟨"OneNet$Net", "putCord", "(IIZ)V"⟩, prog_5_method_4_code, 4, none, 4, 458), (3, ⟨"OneNet$Net", "hasCord", "(II)Z"⟩, prog_5_method_3_code, 3, (some .boolean), 3, 592), (3, ⟨"OneNet$Net", "putTie", "(IZ)V"⟩, prog_5_method_5_code, 3, none, 3, 606)]
def x_mt_3 : List x_M := [(3, ⟨"OneNet$Net", "cordCount", "()I"⟩, prog_5_method_6_code, 3, (some .int), 1, 614), (3, ⟨"OneNet$Net", "settle", "()V"⟩, prog_5_method_8_code, 4, none, 1, 728), (3, ⟨"OneNet$Net", "deepNext", "(I)I"⟩, prog_5_method_9_code, 6, (some .int), 2, 733), (3, ⟨"OneNet$Net", "pullOf", "(II)I"⟩, prog_5_method_12_code, 3, (some .int), 3, 745), (3, ⟨"OneNet$Net", "deepest", "()I"⟩, prog_5_method_10_code, 3, (some .int), 1, 753), (3, ⟨"OneNet$Net", "deepTogether", "()I"⟩, prog_5_method_11_code, 3, (some .int), 1, 770), (3, ⟨"OneNet$Net", "deepestFrom", "(I)I"⟩, prog_5_method_13_code, 5, (some .int), 2, 791), (3, ⟨"OneNet$Net", "farBetween", "(II)I"⟩, prog_5_method_14_code, 4, (some .int), 3, 816), (3, ⟨"OneNet$Net", "measureFrom", "(I)V"⟩, prog_5_method_15_code, 7, none, 2, 820), (3, ⟨"OneNet$Net", "setCords", "([I)V"⟩, prog_5_method_7_code, 2, none, 2, 984), (4, ⟨"OneNet$Sheet", "<init>", "()V"⟩, prog_6_method_1_code, 1, none, 1, 418), (4, ⟨"OneNet$Sheet", "become", "(II)V"⟩, prog_6_method_2_code, 3, none, 3, 941), (4, ⟨"OneNet$Sheet", "put", "(II)V"⟩, prog_6_method_5_code, 3, none, 3, 946), (4, ⟨"OneNet$Sheet", "has", "(I)Z"⟩, prog_6_method_3_code, 2, (some .boolean), 2, 997), (4, ⟨"OneNet$Sheet", "hasRun", "(II)Z"⟩, prog_6_method_4_code, 3, (some .boolean), 3, 1005), (5, ⟨"OneNet$Sleeper", "<init>", "()V"⟩, prog_7_method_1_code, 1, none, 1, 493), (5, ⟨"OneNet$Sleeper", "become", "(III)V"⟩, prog_7_method_2_code, 4, none, 4, 685), (5, ⟨"OneNet$Sleeper", "weighs", "()I"⟩, prog_7_method_4_code, 2, (some .int), 1, 689), (5, ⟨"OneNet$Sleeper", "isA", "(I)Z"⟩, prog_7_method_3_code, 2, (some .boolean), 2, 693), (5, ⟨"OneNet$Sleeper", "leastFelt", "()I"⟩, prog_7_method_5_code, 2, (some .int), 1, 700), (5, ⟨"OneNet$Sleeper", "turns", "(I)I"⟩, prog_7_method_6_code, 2, (some .int), 2, 824), (6, ⟨"OneNet$Tape", "<init>", "()V"⟩, prog_8_method_1_code, 1, none, 1, 102), (6, ⟨"OneNet$Tape", "put", "(I)V"⟩, prog_8_method_3_code, 2, none, 2, 223), (6, ⟨"OneNet$Tape", "read", "()I"⟩, prog_8_method_6_code, 2, (some .int), 1, 227), (6, ⟨"OneNet$Tape", "advance", "()V"⟩, prog_8_method_17_code, 2, none, 1, 231), (6, ⟨"OneNet$Tape", "isLetter", "(I)Z"⟩, prog_8_method_22_code, 1, (some .boolean), 1, 234), (6, ⟨"OneNet$Tape", "wordToken", "()I"⟩, prog_8_method_18_code, 2, (some .int), 1, 238), (6, ⟨"OneNet$Tape", "word", "(I)Ljava/lang/String;"⟩, prog_8_method_21_code, 1, (some (.object "java/lang/String")), 1, 241), (6, ⟨"OneNet$Tape", "tokenIs", "(Ljava/lang/String;)Z"⟩, prog_8_method_20_code, 3, (some .boolean), 2, 257), (6, ⟨"OneNet$Tape", "isDigit", "(I)Z"⟩, prog_8_method_23_code, 1, (some .boolean), 1, 262)]
def x_mt_4 : List x_M := [(6, ⟨"OneNet$Tape", "numberToken", "()I"⟩, prog_8_method_19_code, 1, (some .int), 1, 266), (6, ⟨"OneNet$Tape", "isSign", "(I)Z"⟩, prog_8_method_24_code, 1, (some .boolean), 1, 269), (6, ⟨"OneNet$Tape", "expect", "(I)V"⟩, prog_8_method_8_code, 2, none, 2, 333), (6, ⟨"OneNet$Tape", "refuse", "()V"⟩, prog_8_method_7_code, 1, none, 1, 337), (6, ⟨"OneNet$Tape", "readOr", "()V"⟩, prog_8_method_11_code, 2, none, 1, 341), (6, ⟨"OneNet$Tape", "readAnd", "()V"⟩, prog_8_method_12_code, 2, none, 1, 345), (6, ⟨"OneNet$Tape", "readNot", "()V"⟩, prog_8_method_13_code, 2, none, 1, 349), (6, ⟨"OneNet$Tape", "enter", "()V"⟩, prog_8_method_9_code, 1, none, 1, 353), (6, ⟨"OneNet$Tape", "emit", "(I)V"⟩, prog_8_method_10_code, 2, none, 2, 360), (6, ⟨"OneNet$Tape", "readSum", "()V"⟩, prog_8_method_14_code, 3, none, 1, 364), (6, ⟨"OneNet$Tape", "readTerm", "()V"⟩, prog_8_method_15_code, 2, none, 1, 368), (6, ⟨"OneNet$Tape", "readOne", "()V"⟩, prog_8_method_16_code, 1, none, 1, 372), (6, ⟨"OneNet$Tape", "lawRead", "()LOneNet$Law;"⟩, prog_8_method_5_code, 1, (some (.object "OneNet$Law")), 1, 379), (6, ⟨"OneNet$Tape", "clear", "()V"⟩, prog_8_method_4_code, 1, none, 1, 414), (6, ⟨"OneNet$Tape", "room", "()I"⟩, prog_8_method_2_code, 1, (some .int), 1, 634), (8, ⟨"OneNetModel", "<init>", "()V"⟩, prog_10_method_1_code, 3, none, 1, 1021), (8, ⟨"OneNetModel", "areBeside", "(II)Z"⟩, prog_10_method_8_code, 2, (some .boolean), 2, 1025), (8, ⟨"OneNetModel", "isKnot", "(I)Z"⟩, prog_10_method_5_code, 1, (some .boolean), 1, 1028), (8, ⟨"OneNetModel", "in", "(III)Z"⟩, prog_10_method_3_code, 3, (some .boolean), 3, 1031), (8, ⟨"OneNetModel", "apart", "(II)I"⟩, prog_10_method_7_code, 2, (some .int), 2, 1034), (8, ⟨"OneNetModel", "text", "()I"⟩, prog_10_method_30_code, 3, (some .int), 1, 1039), (8, ⟨"OneNetModel", "next", "()V"⟩, prog_10_method_21_code, 3, none, 1, 1043), (8, ⟨"OneNetModel", "wordFrom", "(II)I"⟩, prog_10_method_20_code, 6, (some .int), 3, 1047), (8, ⟨"OneNetModel", "eRead", "()Z"⟩, prog_10_method_29_code, 4, (some .boolean), 1, 1051), (8, ⟨"OneNetModel", "puts", "(I)V"⟩, prog_10_method_23_code, 2, none, 2, 1056), (8, ⟨"OneNetModel", "unwinds", "(I)V"⟩, prog_10_method_24_code, 3, none, 2, 1060), (8, ⟨"OneNetModel", "rank", "(I)I"⟩, prog_10_method_22_code, 1, (some .int), 1, 1063), (8, ⟨"OneNetModel", "opensOne", "(I)Z"⟩, prog_10_method_26_code, 2, (some .boolean), 2, 1067), (8, ⟨"OneNetModel", "holds", "(I)V"⟩, prog_10_method_25_code, 2, none, 2, 1071), (8, ⟨"OneNetModel", "signOf", "()I"⟩, prog_10_method_28_code, 1, (some .int), 1, 1075)]
def x_mt_5 : List x_M := [(8, ⟨"OneNetModel", "between", "(I)Z"⟩, prog_10_method_27_code, 2, (some .boolean), 2, 1079), (8, ⟨"OneNetModel", "cord", "(III)I"⟩, prog_10_method_13_code, 5, (some .int), 4, 1210), (8, ⟨"OneNetModel", "hasCord", "(II)Z"⟩, prog_10_method_9_code, 3, (some .boolean), 3, 1214), (8, ⟨"OneNetModel", "cords", "(IIZ)V"⟩, prog_10_method_12_code, 4, none, 4, 1218), (8, ⟨"OneNetModel", "corded", "(II)I"⟩, prog_10_method_14_code, 3, (some .int), 3, 1222), (8, ⟨"OneNetModel", "tie", "(II)I"⟩, prog_10_method_15_code, 4, (some .int), 3, 1226), (8, ⟨"OneNetModel", "count", "(I)I"⟩, prog_10_method_17_code, 2, (some .int), 2, 1230), (8, ⟨"OneNetModel", "cordMany", "()I"⟩, prog_10_method_16_code, 3, (some .int), 1, 1234), (8, ⟨"OneNetModel", "bitsOf", "(I)I"⟩, prog_10_method_10_code, 3, (some .int), 1, 1237), (8, ⟨"OneNetModel", "feed", "(IIIIII)I"⟩, prog_10_method_19_code, 8, (some .int), 7, 1241), (8, ⟨"OneNetModel", "isByte", "(I)Z"⟩, prog_10_method_18_code, 1, (some .boolean), 1, 1244), (8, ⟨"OneNetModel", "force", "(I)I"⟩, prog_10_method_33_code, 3, (some .int), 2, 1249), (8, ⟨"OneNetModel", "asks", "(IIIII)I"⟩, prog_10_method_35_code, 7, (some .int), 6, 1253), (8, ⟨"OneNetModel", "asksOf", "(IIIIIII)I"⟩, prog_10_method_34_code, 8, (some .int), 8, 1257), (8, ⟨"OneNetModel", "says", "(I)I"⟩, prog_10_method_32_code, 5, (some .int), 2, 1261), (8, ⟨"OneNetModel", "two", "(III)I"⟩, prog_10_method_31_code, 3, (some .int), 3, 1264), (8, ⟨"OneNetModel", "within", "(III)I"⟩, prog_10_method_4_code, 3, (some .int), 3, 1267), (8, ⟨"OneNetModel", "sleeper", "(III)I"⟩, prog_10_method_36_code, 4, (some .int), 4, 1271), (8, ⟨"OneNetModel", "lie", "(II)I"⟩, prog_10_method_37_code, 4, (some .int), 3, 1275), (8, ⟨"OneNetModel", "isSleeper", "(I)Z"⟩, prog_10_method_6_code, 2, (some .boolean), 2, 1279), (8, ⟨"OneNetModel", "told", "(II)I"⟩, prog_10_method_41_code, 3, (some .int), 3, 1283), (8, ⟨"OneNetModel", "weighs", "(I)I"⟩, prog_10_method_38_code, 3, (some .int), 2, 1287), (8, ⟨"OneNetModel", "wakesAt", "(I)I"⟩, prog_10_method_39_code, 3, (some .int), 2, 1291), (8, ⟨"OneNetModel", "depth", "(I)I"⟩, prog_10_method_46_code, 2, (some .int), 2, 1295), (8, ⟨"OneNetModel", "all", "()I"⟩, prog_10_method_44_code, 1, (some .int), 1, 1299), (8, ⟨"OneNetModel", "hangs", "(I)V"⟩, prog_10_method_43_code, 4, none, 2, 1303), (8, ⟨"OneNetModel", "sinks", "(I)I"⟩, prog_10_method_42_code, 5, (some .int), 2, 1307), (8, ⟨"OneNetModel", "isTied", "(I)Z"⟩, prog_10_method_11_code, 2, (some .boolean), 2, 1311), (8, ⟨"OneNetModel", "pull", "(II)I"⟩, prog_10_method_47_code, 3, (some .int), 3, 1315), (8, ⟨"OneNetModel", "hang", "(I)I"⟩, prog_10_method_50_code, 2, (some .int), 2, 1319)]
def x_mt_6 : List x_M := [(8, ⟨"OneNetModel", "deepest", "()I"⟩, prog_10_method_45_code, 3, (some .int), 1, 1323), (8, ⟨"OneNetModel", "tears", "()I"⟩, prog_10_method_48_code, 6, (some .int), 1, 1327), (8, ⟨"OneNetModel", "depths", "()I"⟩, prog_10_method_49_code, 3, (some .int), 1, 1331), (8, ⟨"OneNetModel", "roll", "(I)I"⟩, prog_10_method_54_code, 2, (some .int), 2, 1335), (8, ⟨"OneNetModel", "rolls", "(I)I"⟩, prog_10_method_53_code, 4, (some .int), 2, 1339), (8, ⟨"OneNetModel", "rollsOnce", "()I"⟩, prog_10_method_52_code, 3, (some .int), 1, 1343), (8, ⟨"OneNetModel", "rollsTo", "(I)I"⟩, prog_10_method_51_code, 5, (some .int), 2, 1347), (8, ⟨"OneNetModel", "rolled", "(II)I"⟩, prog_10_method_57_code, 4, (some .int), 3, 1351), (8, ⟨"OneNetModel", "keeps", "()V"⟩, prog_10_method_55_code, 2, none, 1, 1355), (8, ⟨"OneNetModel", "laysBack", "()V"⟩, prog_10_method_56_code, 2, none, 1, 1359), (8, ⟨"OneNetModel", "felt", "(II)I"⟩, prog_10_method_61_code, 3, (some .int), 3, 1363), (8, ⟨"OneNetModel", "feels", "(II)I"⟩, prog_10_method_59_code, 4, (some .int), 3, 1367), (8, ⟨"OneNetModel", "farTo", "(II)I"⟩, prog_10_method_58_code, 7, (some .int), 3, 1371), (8, ⟨"OneNetModel", "turnsBy", "(II)I"⟩, prog_10_method_40_code, 4, (some .int), 3, 1375), (8, ⟨"OneNetModel", "wakes", "(II)I"⟩, prog_10_method_65_code, 7, (some .int), 3, 1379), (8, ⟨"OneNetModel", "findsWakes", "()V"⟩, prog_10_method_63_code, 2, none, 1, 1383), (8, ⟨"OneNetModel", "wokenBy", "(I)I"⟩, prog_10_method_62_code, 4, (some .int), 2, 1387), (8, ⟨"OneNetModel", "isWoken", "(II)Z"⟩, prog_10_method_60_code, 3, (some .boolean), 3, 1391), (8, ⟨"OneNetModel", "wokenByAny", "(I)I"⟩, prog_10_method_64_code, 4, (some .int), 2, 1395), (8, ⟨"OneNetModel", "night", "()I"⟩, prog_10_method_66_code, 3, (some .int), 1, 1399), (8, ⟨"OneNetModel", "woken", "(I)I"⟩, prog_10_method_68_code, 2, (some .int), 2, 1403), (8, ⟨"OneNetModel", "wokenTimes", "(I)I"⟩, prog_10_method_67_code, 4, (some .int), 2, 1407), (8, ⟨"OneNetModel", "place", "(II)I"⟩, prog_10_method_69_code, 9, (some .int), 3, 1411), (8, ⟨"OneNetModel", "swap", "(I)I"⟩, prog_10_method_71_code, 7, (some .int), 2, 1416), (8, ⟨"OneNetModel", "changes", "(II)V"⟩, prog_10_method_70_code, 4, none, 3, 1420), (8, ⟨"OneNetModel", "rest", "()I"⟩, prog_10_method_74_code, 2, (some .int), 1, 1424), (8, ⟨"OneNetModel", "wouldRest", "(I)Z"⟩, prog_10_method_73_code, 7, (some .boolean), 2, 1428), (8, ⟨"OneNetModel", "isEmpty", "(I)Z"⟩, prog_10_method_72_code, 3, (some .boolean), 2, 1432), (8, ⟨"OneNetModel", "order", "(I)I"⟩, prog_10_method_76_code, 2, (some .int), 2, 1436), (8, ⟨"OneNetModel", "getsIn", "(III)V"⟩, prog_10_method_75_code, 6, none, 4, 1440)]
def x_mt_7 : List x_M := [(8, ⟨"OneNetModel", "mend", "(I)I"⟩, prog_10_method_78_code, 8, (some .int), 2, 1444), (8, ⟨"OneNetModel", "deepestNow", "()I"⟩, prog_10_method_77_code, 1, (some .int), 1, 1448), (8, ⟨"OneNetModel", "rim", "(I)I"⟩, prog_10_method_79_code, 6, (some .int), 2, 1452), (8, ⟨"OneNetModel", "turned", "(II)I"⟩, prog_10_method_80_code, 6, (some .int), 3, 1456), (8, ⟨"OneNetModel", "laws", "(II)I"⟩, prog_10_method_81_code, 6, (some .int), 3, 1460), (8, ⟨"OneNetModel", "judge", "(I)I"⟩, prog_10_method_84_code, 3, (some .int), 2, 1464), (8, ⟨"OneNetModel", "sheetWrong", "(I)I"⟩, prog_10_method_82_code, 2, (some .int), 2, 1468), (8, ⟨"OneNetModel", "unlike", "(I)I"⟩, prog_10_method_83_code, 3, (some .int), 2, 1472), (8, ⟨"OneNetModel", "where", "(II)I"⟩, prog_10_method_85_code, 7, (some .int), 3, 1476), (8, ⟨"OneNetModel", "film", "(I)I"⟩, prog_10_method_86_code, 3, (some .int), 2, 1480), (8, ⟨"OneNetModel", "drawn", "(II)I"⟩, prog_10_method_88_code, 4, (some .int), 3, 1484), (8, ⟨"OneNetModel", "turnBy", "(I)I"⟩, prog_10_method_87_code, 6, (some .int), 2, 1489), (8, ⟨"OneNetModel", "odds", "(III)J"⟩, prog_10_method_90_code, 8, (some .long), 4, 1496), (8, ⟨"OneNetModel", "lowest", "(JJI)J"⟩, prog_10_method_89_code, 11, (some .long), 3, 1500), (8, ⟨"OneNetModel", "image", "()I"⟩, prog_10_method_91_code, 2, (some .int), 1, 1504), (8, ⟨"OneNetModel", "back", "()I"⟩, prog_10_method_92_code, 2, (some .int), 1, 1508), (8, ⟨"OneNetModel", "sheet", "(III)I"⟩, prog_10_method_93_code, 5, (some .int), 4, 1512), (8, ⟨"OneNetModel", "cell", "(III)I"⟩, prog_10_method_94_code, 4, (some .int), 4, 1516), (8, ⟨"OneNetModel", "copy", "(IIIII)I"⟩, prog_10_method_95_code, 10, (some .int), 6, 1520), (8, ⟨"OneNetModel", "sleepersBy", "(IIII)I"⟩, prog_10_method_96_code, 9, (some .int), 5, 1524), (8, ⟨"OneNetModel", "taken", "(II)I"⟩, prog_10_method_98_code, 3, (some .int), 3, 1529), (8, ⟨"OneNetModel", "isUnder", "(II)Z"⟩, prog_10_method_97_code, 2, (some .boolean), 2, 1532), (10, ⟨"java/lang/String", "length", "()I"⟩, prog_15_method_54_code, 1, (some .int), 1, 175), (10, ⟨"java/lang/String", "coder", "()B"⟩, prog_15_method_152_code, 1, (some .byte), 1, 179), (10, ⟨"java/lang/String", "charAt", "(I)C"⟩, prog_15_method_56_code, 2, (some .char), 2, 185), (10, ⟨"java/lang/String", "isLatin1", "()Z"⟩, prog_15_method_154_code, 1, (some .boolean), 1, 189), (10, ⟨"java/lang/String", "checkIndex", "(II)V"⟩, prog_15_method_155_code, 2, none, 2, 195), (10, ⟨"java/lang/String", "indexOf", "(I)I"⟩, prog_15_method_79_code, 2, (some .int), 2, 274), (10, ⟨"java/lang/String", "indexOf", "(II)I"⟩, prog_15_method_80_code, 3, (some .int), 3, 278), (11, ⟨"java/lang/StringLatin1", "charAt", "([BI)C"⟩, prog_16_method_2_code, 2, (some .char), 2, 192)]
def x_mt_8 : List x_M := [(11, ⟨"java/lang/StringLatin1", "indexOf", "([BIII)I"⟩, prog_16_method_22_code, 4, (some .int), 4, 282), (11, ⟨"java/lang/StringLatin1", "canEncode", "(I)Z"⟩, prog_16_method_4_code, 1, (some .boolean), 1, 285), (11, ⟨"java/lang/StringLatin1", "indexOfChar", "([BIII)I"⟩, prog_16_method_23_code, 6, (some .int), 4, 294), (14, ⟨"java/util/Arrays", "copyOf", "([II)[I"⟩, prog_19_method_123_code, 3, (some (.array .int)), 2, 384), (14, ⟨"java/util/Arrays", "fill", "([II)V"⟩, prog_19_method_103_code, 4, none, 2, 724), (13, ⟨"java/lang/Integer", "bitCount", "(I)I"⟩, prog_13_method_49_code, 1, (some .int), 1, 617), (15, ⟨"jdk/internal/util/Preconditions", "checkIndex", "(IILjava/util/function/BiFunction;)I"⟩, prog_20_method_11_code, 3, (some .int), 3, 200)]
def x_mt : List x_M := x_mt_0 ++ x_mt_1 ++ x_mt_2 ++ x_mt_3 ++ x_mt_4 ++ x_mt_5 ++ x_mt_6 ++ x_mt_7 ++ x_mt_8
def x_cs_0 : List ((Nat × Nat) × (Nat × Nat) × List Nat) := [((9, 9), (2, 1), [92, 93, 72]), ((7, 9), (3, 111), [100, 101, 73]), ((7, 37), (3, 75), [146, 147, 74]), ((7, 44), (1, 232), [172, 173, 75, 174]), ((10, 335), (1, 233), [176, 177, 75, 178]), ((7, 50), (1, 234), [182, 183, 75, 184]), ((10, 492), (1, 235), [186, 187, 75, 188]), ((10, 495), (0, 239), [190, 191, 76]), ((11, 9), (0, 236), [193, 194, 75]), ((10, 1059), (0, 246), [198, 199, 77]), ((7, 54), (1, 112), [220, 221, 73, 222]), ((7, 58), (1, 113), [224, 225, 73, 226]), ((6, 48), (1, 114), [228, 230, 73, 0]), ((6, 98), (0, 115), [232, 233, 73]), ((6, 102), (1, 116), [235, 237, 73, 1]), ((6, 115), (0, 117), [239, 240, 73]), ((6, 119), (1, 118), [254, 256, 73, 2]), ((6, 123), (1, 232), [258, 173, 75, 174]), ((6, 128), (1, 234), [259, 183, 75, 184]), ((6, 106), (0, 119), [260, 261, 73]), ((6, 109), (1, 120), [263, 265, 73, 3]), ((6, 112), (0, 121), [267, 268, 73]), ((6, 158), (1, 237), [271, 272, 75, 273]), ((10, 633), (1, 238), [275, 276, 75, 277]), ((10, 505), (1, 232), [279, 173, 75, 174]), ((10, 637), (0, 240), [280, 281, 76]), ((11, 88), (0, 241), [283, 284, 76]), ((11, 95), (0, 242), [292, 293, 76]), ((6, 51), (1, 122), [330, 332, 73, 4]), ((6, 61), (1, 123), [334, 336, 73, 5]), ((6, 55), (1, 124), [338, 340, 73, 6]), ((6, 67), (1, 125), [342, 344, 73, 7]), ((6, 77), (1, 126), [346, 348, 73, 8]), ((6, 80), (1, 127), [350, 352, 73, 9]), ((6, 70), (0, 78), [354, 355, 81]), ((6, 74), (1, 128), [357, 359, 73, 10]), ((6, 83), (1, 129), [361, 363, 73, 11]), ((6, 86), (1, 130), [365, 367, 73, 12]), ((6, 89), (1, 131), [369, 371, 73, 13]), ((6, 95), (0, 79), [373, 374, 81])]
def x_cs_1 : List ((Nat × Nat) × (Nat × Nat) × List Nat) := [((7, 61), (1, 132), [376, 377, 73, 378]), ((6, 30), (0, 243), [382, 383, 82]), ((6, 36), (2, 80), [396, 397, 81]), ((7, 65), (1, 133), [411, 412, 73, 413]), ((7, 68), (3, 100), [416, 417, 84]), ((7, 71), (2, 51), [435, 436, 85]), ((0, 11), (2, 85), [441, 442, 86]), ((3, 36), (0, 86), [446, 447, 86]), ((3, 44), (4, 2), [449, 450, 72]), ((3, 40), (1, 87), [455, 456, 86, 457]), ((0, 50), (3, 105), [491, 492, 87]), ((9, 13), (1, 3), [581, 582, 72, 583]), ((7, 83), (0, 86), [585, 447, 86]), ((7, 89), (0, 4), [586, 587, 72]), ((7, 93), (1, 88), [589, 590, 86, 591]), ((7, 96), (1, 87), [593, 456, 86, 457]), ((9, 18), (1, 5), [594, 595, 72, 596]), ((9, 23), (1, 6), [598, 599, 72, 600]), ((7, 100), (0, 2), [602, 450, 72]), ((7, 106), (1, 89), [603, 604, 86, 605]), ((9, 27), (1, 7), [607, 608, 72, 609]), ((7, 113), (1, 90), [611, 612, 86, 613]), ((3, 54), (0, 245), [615, 616, 89]), ((9, 32), (1, 8), [621, 622, 72, 623]), ((7, 117), (0, 9), [625, 626, 72]), ((7, 126), (0, 10), [628, 629, 72]), ((7, 120), (1, 134), [631, 632, 73, 633]), ((9, 37), (1, 11), [635, 636, 72, 637]), ((9, 42), (1, 12), [639, 640, 72, 641]), ((7, 123), (1, 13), [643, 645, 72, 14]), ((9, 46), (1, 14), [647, 648, 72, 649]), ((7, 130), (1, 52), [651, 652, 85, 653]), ((7, 134), (1, 53), [655, 656, 85, 657]), ((7, 145), (1, 81), [659, 660, 81, 661]), ((2, 21), (0, 82), [663, 664, 81]), ((2, 25), (0, 83), [666, 667, 81]), ((2, 29), (0, 84), [669, 670, 81]), ((9, 51), (1, 15), [674, 675, 72, 676]), ((7, 149), (1, 54), [678, 679, 85, 680]), ((0, 51), (1, 106), [682, 683, 87, 684])]
def x_cs_2 : List ((Nat × Nat) × (Nat × Nat) × List Nat) := [((5, 27), (1, 107), [686, 688, 87, 15]), ((5, 42), (1, 108), [690, 691, 87, 692]), ((5, 34), (4, 10), [694, 629, 72]), ((5, 31), (1, 109), [697, 699, 87, 16]), ((9, 55), (1, 16), [702, 703, 72, 704]), ((7, 153), (1, 55), [706, 707, 85, 708]), ((9, 59), (1, 17), [710, 711, 72, 712]), ((9, 63), (1, 18), [714, 715, 72, 716]), ((7, 180), (1, 56), [718, 719, 85, 720]), ((0, 64), (0, 244), [722, 723, 82]), ((0, 73), (1, 91), [725, 726, 86, 727]), ((3, 65), (0, 244), [729, 723, 82]), ((3, 71), (1, 92), [730, 732, 86, 17]), ((3, 77), (1, 88), [736, 590, 86, 591]), ((9, 67), (1, 19), [738, 739, 72, 740]), ((7, 186), (1, 93), [742, 743, 86, 744]), ((9, 71), (1, 20), [746, 747, 72, 748]), ((7, 190), (1, 94), [750, 751, 86, 752]), ((7, 193), (1, 57), [754, 755, 85, 756]), ((0, 84), (1, 88), [758, 590, 86, 591]), ((0, 88), (1, 93), [759, 743, 86, 744]), ((0, 92), (1, 58), [760, 762, 85, 18]), ((0, 95), (1, 52), [764, 652, 85, 653]), ((0, 98), (1, 53), [765, 656, 85, 657]), ((0, 101), (1, 81), [766, 660, 81, 661]), ((7, 196), (1, 95), [767, 768, 86, 769]), ((9, 75), (1, 21), [771, 772, 72, 773]), ((7, 199), (1, 59), [775, 776, 85, 777]), ((0, 105), (1, 60), [779, 781, 85, 19]), ((0, 76), (1, 56), [783, 719, 85, 720]), ((0, 109), (1, 61), [784, 786, 85, 20]), ((0, 113), (1, 96), [788, 789, 86, 790]), ((9, 79), (1, 22), [792, 793, 72, 794]), ((7, 203), (1, 62), [796, 797, 85, 798]), ((7, 206), (1, 63), [801, 802, 85, 803]), ((9, 83), (1, 23), [805, 806, 72, 807]), ((7, 209), (1, 64), [809, 810, 85, 811]), ((0, 122), (1, 97), [813, 814, 86, 815]), ((3, 84), (1, 98), [817, 819, 86, 21]), ((0, 125), (1, 110), [821, 822, 87, 823])]
def x_cs_3 : List ((Nat × Nat) × (Nat × Nat) × List Nat) := [((9, 87), (1, 24), [826, 827, 72, 828]), ((7, 212), (1, 65), [830, 831, 85, 832]), ((0, 139), (1, 66), [834, 836, 85, 22]), ((0, 133), (1, 64), [838, 810, 85, 811]), ((7, 215), (1, 67), [839, 840, 85, 841]), ((0, 142), (1, 65), [843, 831, 85, 832]), ((7, 218), (1, 68), [844, 845, 85, 846]), ((9, 91), (1, 25), [848, 849, 72, 850]), ((7, 221), (1, 69), [852, 853, 85, 854]), ((0, 145), (0, 245), [856, 616, 89]), ((9, 95), (1, 26), [857, 858, 72, 859]), ((7, 224), (1, 70), [861, 862, 85, 863]), ((9, 99), (1, 27), [865, 866, 72, 867]), ((9, 103), (1, 28), [869, 870, 72, 871]), ((7, 227), (1, 71), [873, 874, 85, 875]), ((9, 107), (1, 29), [877, 878, 72, 879]), ((7, 231), (1, 72), [881, 882, 85, 883]), ((0, 150), (1, 70), [885, 862, 85, 863]), ((9, 111), (1, 30), [886, 887, 72, 888]), ((7, 234), (1, 73), [890, 891, 85, 892]), ((0, 80), (1, 94), [894, 751, 86, 752]), ((9, 115), (1, 31), [895, 896, 72, 897]), ((9, 119), (1, 32), [899, 900, 72, 901]), ((9, 123), (1, 33), [903, 904, 72, 905]), ((7, 237), (1, 74), [907, 908, 85, 909]), ((9, 127), (1, 34), [911, 912, 72, 913]), ((9, 131), (1, 35), [915, 916, 72, 917]), ((7, 240), (1, 36), [919, 921, 72, 23]), ((7, 247), (0, 37), [923, 924, 72]), ((7, 243), (1, 38), [926, 928, 72, 24]), ((9, 135), (1, 39), [930, 931, 72, 932]), ((9, 139), (1, 40), [934, 935, 72, 936]), ((7, 250), (1, 101), [938, 939, 84, 940]), ((4, 22), (0, 244), [942, 723, 82]), ((7, 253), (1, 102), [943, 944, 84, 945]), ((9, 143), (1, 41), [947, 948, 72, 949]), ((7, 256), (1, 42), [952, 954, 72, 25]), ((9, 147), (1, 43), [959, 960, 72, 961]), ((9, 152), (1, 44), [964, 965, 72, 966]), ((7, 261), (1, 76), [968, 969, 74, 970])]
def x_cs_4 : List ((Nat × Nat) × (Nat × Nat) × List Nat) := [((9, 156), (1, 45), [973, 974, 72, 975]), ((7, 269), (1, 77), [977, 978, 74, 979]), ((1, 46), (1, 99), [981, 982, 86, 983]), ((9, 160), (1, 46), [986, 987, 72, 988]), ((9, 164), (1, 47), [990, 991, 72, 992]), ((7, 277), (1, 103), [994, 995, 84, 996]), ((9, 168), (1, 48), [998, 999, 72, 1000]), ((7, 278), (1, 104), [1002, 1003, 84, 1004]), ((9, 172), (1, 49), [1007, 1008, 72, 1009]), ((7, 290), (1, 15), [1011, 675, 72, 676]), ((9, 177), (1, 50), [1012, 1013, 72, 1014]), ((7, 297), (1, 108), [1016, 691, 87, 692]), ((9, 12), (2, 135), [1019, 1020, 88]), ((8, 82), (0, 136), [1023, 1024, 88]), ((8, 105), (0, 137), [1026, 1027, 88]), ((8, 98), (0, 138), [1029, 1030, 88]), ((8, 109), (0, 139), [1032, 1033, 88]), ((8, 94), (1, 140), [1036, 1037, 88, 1038]), ((8, 173), (1, 141), [1040, 1042, 88, 26]), ((8, 148), (1, 142), [1044, 1046, 88, 27]), ((8, 186), (1, 143), [1048, 1050, 88, 28]), ((8, 163), (1, 144), [1053, 1055, 88, 29]), ((8, 170), (1, 145), [1057, 1059, 88, 30]), ((8, 157), (0, 146), [1061, 1062, 88]), ((8, 177), (1, 147), [1064, 1066, 88, 31]), ((8, 167), (1, 148), [1068, 1070, 88, 32]), ((8, 180), (1, 149), [1072, 1074, 88, 33]), ((8, 183), (1, 150), [1076, 1078, 88, 34]), ((9, 17), (1, 151), [1207, 1208, 88, 1209]), ((8, 113), (1, 152), [1211, 1213, 88, 35]), ((8, 116), (1, 153), [1215, 1217, 88, 36]), ((9, 22), (1, 154), [1219, 1220, 88, 1221]), ((9, 26), (1, 155), [1223, 1224, 88, 1225]), ((9, 31), (1, 156), [1227, 1228, 88, 1229]), ((8, 124), (1, 157), [1231, 1233, 88, 37]), ((8, 120), (0, 158), [1235, 1236, 88]), ((9, 36), (1, 159), [1238, 1239, 88, 1240]), ((8, 133), (0, 160), [1242, 1243, 88]), ((9, 41), (1, 140), [1245, 1037, 88, 1038]), ((9, 45), (1, 161), [1246, 1247, 88, 1248])]
def x_cs_5 : List ((Nat × Nat) × (Nat × Nat) × List Nat) := [((9, 50), (1, 162), [1250, 1251, 88, 1252]), ((8, 200), (1, 163), [1254, 1256, 88, 38]), ((8, 194), (1, 164), [1258, 1260, 88, 39]), ((8, 190), (0, 165), [1262, 1263, 88]), ((8, 197), (0, 166), [1265, 1266, 88]), ((9, 54), (1, 167), [1268, 1269, 88, 1270]), ((9, 58), (1, 168), [1272, 1273, 88, 1274]), ((8, 204), (1, 169), [1276, 1278, 88, 40]), ((9, 62), (1, 170), [1280, 1281, 88, 1282]), ((8, 207), (1, 171), [1284, 1286, 88, 41]), ((8, 210), (1, 172), [1288, 1290, 88, 42]), ((9, 66), (1, 173), [1292, 1293, 88, 1294]), ((8, 219), (1, 174), [1296, 1298, 88, 43]), ((8, 222), (1, 175), [1300, 1302, 88, 44]), ((8, 216), (1, 176), [1304, 1306, 88, 45]), ((8, 213), (1, 177), [1308, 1310, 88, 46]), ((9, 70), (1, 178), [1312, 1313, 88, 1314]), ((9, 74), (1, 179), [1316, 1317, 88, 1318]), ((8, 225), (1, 180), [1320, 1322, 88, 47]), ((8, 228), (1, 181), [1324, 1326, 88, 48]), ((8, 231), (1, 182), [1328, 1330, 88, 49]), ((9, 78), (1, 183), [1332, 1333, 88, 1334]), ((8, 240), (1, 184), [1336, 1338, 88, 50]), ((8, 237), (1, 185), [1340, 1342, 88, 51]), ((8, 234), (1, 186), [1344, 1346, 88, 52]), ((9, 82), (1, 187), [1348, 1349, 88, 1350]), ((8, 243), (1, 188), [1352, 1354, 88, 53]), ((8, 246), (1, 189), [1356, 1358, 88, 54]), ((9, 86), (1, 190), [1360, 1361, 88, 1362]), ((8, 255), (1, 191), [1364, 1366, 88, 55]), ((8, 249), (1, 192), [1368, 1370, 88, 56]), ((8, 252), (1, 193), [1372, 1374, 88, 57]), ((9, 90), (1, 194), [1376, 1377, 88, 1378]), ((8, 264), (1, 195), [1380, 1382, 88, 58]), ((8, 261), (1, 196), [1384, 1386, 88, 59]), ((8, 258), (1, 197), [1388, 1390, 88, 60]), ((8, 267), (1, 198), [1392, 1394, 88, 61]), ((9, 94), (1, 199), [1396, 1397, 88, 1398]), ((9, 98), (1, 200), [1400, 1401, 88, 1402]), ((8, 270), (1, 201), [1404, 1406, 88, 62])]
def x_cs_6 : List ((Nat × Nat) × (Nat × Nat) × List Nat) := [((9, 102), (1, 202), [1408, 1409, 88, 1410]), ((8, 273), (1, 199), [1412, 1397, 88, 1398]), ((9, 106), (1, 203), [1413, 1414, 88, 1415]), ((8, 276), (1, 204), [1417, 1419, 88, 63]), ((9, 110), (1, 205), [1421, 1422, 88, 1423]), ((8, 283), (1, 206), [1425, 1427, 88, 64]), ((8, 280), (1, 207), [1429, 1431, 88, 65]), ((9, 114), (1, 208), [1433, 1434, 88, 1435]), ((8, 292), (1, 209), [1437, 1439, 88, 66]), ((9, 118), (1, 210), [1441, 1442, 88, 1443]), ((8, 296), (1, 211), [1445, 1447, 88, 67]), ((9, 122), (1, 212), [1449, 1450, 88, 1451]), ((9, 126), (1, 213), [1453, 1454, 88, 1455]), ((9, 130), (1, 214), [1457, 1458, 88, 1459]), ((9, 134), (1, 215), [1461, 1462, 88, 1463]), ((8, 299), (1, 216), [1465, 1467, 88, 68]), ((8, 302), (1, 217), [1469, 1471, 88, 69]), ((9, 138), (1, 218), [1473, 1474, 88, 1475]), ((9, 142), (1, 219), [1477, 1478, 88, 1479]), ((9, 146), (1, 220), [1481, 1482, 88, 1483]), ((8, 312), (1, 221), [1486, 1488, 88, 70]), ((9, 151), (1, 222), [1493, 1494, 88, 1495]), ((8, 317), (0, 223), [1498, 1499, 88]), ((9, 155), (1, 224), [1501, 1502, 88, 1503]), ((9, 159), (1, 225), [1505, 1506, 88, 1507]), ((9, 163), (1, 226), [1509, 1510, 88, 1511]), ((9, 167), (1, 227), [1513, 1514, 88, 1515]), ((9, 171), (1, 228), [1517, 1518, 88, 1519]), ((9, 176), (1, 229), [1521, 1522, 88, 1523]), ((8, 334), (1, 167), [1525, 1269, 88, 1270]), ((9, 180), (1, 230), [1526, 1527, 88, 1528]), ((8, 337), (0, 231), [1530, 1531, 88])]
def x_cs : List ((Nat × Nat) × (Nat × Nat) × List Nat) := x_cs_0 ++ x_cs_1 ++ x_cs_2 ++ x_cs_3 ++ x_cs_4 ++ x_cs_5 ++ x_cs_6
def x_fs_0 : List ((Nat × Nat) × (Nat × Nat) × List Nat) := [((6, 11), (6, 0), [104]), ((6, 15), (6, 1), [105]), ((7, 116), (6, 1), [106]), ((6, 19), (6, 2), [107]), ((6, 22), (6, 3), [108]), ((6, 25), (6, 4), [109]), ((6, 58), (6, 5), [110]), ((6, 64), (6, 6), [111]), ((6, 39), (6, 7), [112]), ((6, 92), (6, 8), [113]), ((6, 42), (6, 9), [114]), ((6, 45), (6, 10), [115]), ((1, 9), (1, 0), [150]), ((7, 265), (1, 0), [151]), ((1, 15), (1, 1), [152]), ((7, 273), (1, 1), [153]), ((1, 19), (1, 2), [154]), ((1, 23), (1, 3), [155]), ((1, 26), (1, 4), [156]), ((1, 29), (1, 5), [157]), ((2, 9), (2, 0), [400]), ((2, 15), (2, 1), [401]), ((2, 18), (2, 2), [402]), ((4, 9), (4, 0), [420]), ((7, 274), (4, 0), [421]), ((4, 15), (4, 1), [422]), ((7, 300), (4, 1), [423]), ((4, 18), (4, 2), [424]), ((7, 281), (4, 2), [425]), ((3, 9), (3, 0), [459]), ((1, 32), (3, 0), [460]), ((7, 294), (3, 0), [461]), ((3, 16), (3, 1), [462]), ((1, 41), (3, 1), [463]), ((7, 103), (3, 1), [464]), ((3, 20), (3, 2), [465]), ((0, 61), (3, 2), [466]), ((3, 23), (3, 3), [467]), ((0, 77), (3, 3), [468]), ((7, 183), (3, 3), [469])]
def x_fs_1 : List ((Nat × Nat) × (Nat × Nat) × List Nat) := [((3, 26), (3, 4), [470]), ((3, 29), (3, 5), [471]), ((3, 32), (3, 6), [472]), ((5, 9), (5, 0), [495]), ((7, 163), (5, 0), [496]), ((5, 15), (5, 1), [497]), ((7, 168), (5, 1), [498]), ((0, 116), (5, 1), [499]), ((5, 18), (5, 2), [500]), ((7, 171), (5, 2), [501]), ((0, 119), (5, 2), [502]), ((5, 21), (5, 3), [503]), ((0, 70), (5, 3), [504]), ((7, 174), (5, 3), [505]), ((5, 24), (5, 4), [506]), ((7, 177), (5, 4), [507]), ((0, 136), (5, 4), [508]), ((0, 12), (0, 0), [520]), ((7, 78), (0, 0), [521]), ((0, 46), (0, 1), [522]), ((7, 137), (0, 1), [523]), ((0, 20), (0, 2), [524]), ((7, 159), (0, 2), [525]), ((0, 24), (0, 3), [526]), ((1, 42), (0, 3), [527]), ((7, 156), (0, 3), [528]), ((0, 28), (0, 4), [529]), ((1, 45), (0, 4), [530]), ((7, 110), (0, 4), [531]), ((0, 32), (0, 5), [532]), ((0, 35), (0, 6), [533]), ((0, 38), (0, 7), [534]), ((0, 43), (0, 8), [535]), ((7, 141), (0, 8), [536]), ((7, 10), (7, 0), [556]), ((7, 18), (7, 1), [557]), ((7, 22), (7, 2), [558]), ((7, 26), (7, 3), [559]), ((7, 74), (7, 4), [560]), ((7, 82), (7, 5), [561])]
def x_fs_2 : List ((Nat × Nat) × (Nat × Nat) × List Nat) := [((7, 31), (7, 6), [562]), ((7, 38), (7, 7), [563]), ((8, 7), (8, 0), [1080]), ((8, 87), (8, 1), [1081]), ((8, 102), (8, 2), [1082]), ((8, 13), (8, 3), [1083]), ((8, 16), (8, 4), [1084]), ((8, 19), (8, 5), [1085]), ((8, 22), (8, 6), [1086]), ((8, 25), (8, 7), [1087]), ((8, 91), (8, 8), [1088]), ((8, 28), (8, 9), [1089]), ((8, 31), (8, 10), [1090]), ((8, 127), (8, 11), [1091]), ((8, 130), (8, 12), [1092]), ((8, 321), (8, 13), [1093]), ((8, 325), (8, 14), [1094]), ((8, 328), (8, 15), [1095]), ((8, 331), (8, 16), [1096]), ((8, 34), (8, 17), [1097]), ((8, 37), (8, 18), [1098]), ((8, 40), (8, 19), [1099]), ((8, 43), (8, 20), [1100]), ((8, 46), (8, 21), [1101]), ((8, 49), (8, 22), [1102]), ((8, 136), (8, 23), [1103]), ((8, 139), (8, 24), [1104]), ((8, 142), (8, 25), [1105]), ((8, 145), (8, 26), [1106]), ((8, 52), (8, 27), [1107]), ((8, 55), (8, 28), [1108]), ((8, 154), (8, 29), [1109]), ((8, 160), (8, 30), [1110]), ((8, 151), (8, 31), [1111]), ((8, 58), (8, 32), [1112]), ((8, 61), (8, 33), [1113]), ((8, 64), (8, 34), [1114]), ((8, 67), (8, 35), [1115]), ((8, 70), (8, 36), [1116]), ((8, 73), (8, 37), [1117])]
def x_fs_3 : List ((Nat × Nat) × (Nat × Nat) × List Nat) := [((8, 76), (8, 38), [1118]), ((8, 79), (8, 39), [1119]), ((8, 289), (8, 40), [1120]), ((8, 286), (8, 41), [1121])]
def x_fs : List ((Nat × Nat) × (Nat × Nat) × List Nat) := x_fs_0 ++ x_fs_1 ++ x_fs_2 ++ x_fs_3
def x_ns_0 : List ((Nat × Nat) × Nat × List Nat) := [((9, 7), 7, [90, 91, 72]), ((7, 7), 6, [98, 99, 73]), ((7, 16), 2, [140, 381, 81]), ((7, 29), 4, [142, 415, 84]), ((7, 35), 1, [144, 145, 74]), ((6, 28), 2, [380, 381, 81]), ((7, 69), 0, [433, 434, 85]), ((0, 9), 3, [439, 440, 86]), ((0, 18), 5, [488, 490, 87]), ((9, 10), 8, [1017, 1018, 88])]
def x_ns : List ((Nat × Nat) × Nat × List Nat) := x_ns_0
def x_as_0 : List ((Nat × Nat) × Nat × List Nat) := [((7, 16), 1, [140, 141]), ((7, 29), 2, [142, 143]), ((6, 28), 1, [380, 141]), ((0, 18), 3, [488, 489])]
def x_as : List ((Nat × Nat) × Nat × List Nat) := x_as_0
def x_ki_0 : List ((Nat × Nat) × Int32 × List Nat) := [((3, 15), 557073, [445]), ((13, 265), 1431655765, [618]), ((13, 266), 858993459, [619]), ((13, 267), 252645135, [620]), ((7, 255), 99999, [951]), ((8, 86), 557073, [1035]), ((8, 176), 100000, [1052]), ((8, 311), 99999, [1485])]
def x_ki : List ((Nat × Nat) × Int32 × List Nat) := x_ki_0
def x_kl_0 : List ((Nat × Nat) × Int64 × List Nat) := [((7, 301), 48271, [956]), ((7, 303), 2147483647, [957]), ((7, 305), 3, [958]), ((7, 259), -4611686018427387904, [963]), ((8, 305), 48271, [1490]), ((8, 307), 2147483647, [1491]), ((8, 309), 3, [1492]), ((8, 315), -4611686018427387904, [1497])]
def x_kl : List ((Nat × Nat) × Int64 × List Nat) := x_kl_0
def x_ks_0 : List ((Nat × Nat) × Nat × List Nat) := [((7, 42), 0, [171]), ((6, 132), 1, [242]), ((6, 134), 2, [243]), ((6, 136), 3, [244]), ((6, 138), 4, [245]), ((6, 140), 5, [246]), ((6, 142), 6, [247]), ((6, 144), 7, [248]), ((6, 146), 8, [249]), ((6, 148), 9, [250]), ((6, 150), 10, [251]), ((6, 152), 11, [252]), ((6, 154), 12, [253]), ((6, 156), 13, [270])]
def x_ks : List ((Nat × Nat) × Nat × List Nat) := x_ks_0
def x_mm_0 : List ((Nat × Nat) × Nat × List Nat) := [((11, 92), 0, [286, 287, 79, 288]), ((11, 38), 1, [289, 290, 79, 291]), ((14, 304), 1, [392, 290, 79, 291]), ((3, 48), 2, [452, 453, 79, 454]), ((2, 33), 1, [672, 290, 79, 291]), ((2, 38), 0, [673, 287, 79, 288]), ((5, 46), 0, [701, 287, 79, 288]), ((3, 80), 1, [737, 290, 79, 291]), ((0, 128), 0, [825, 287, 79, 288])]
def x_mm : List ((Nat × Nat) × Nat × List Nat) := x_mm_0
def x_oi_0 : List ((Nat × Nat) × Nat × List Nat) := [((7, 1), 0, [95]), ((6, 5), 0, [103]), ((1, 3), 0, [149]), ((2, 3), 0, [399]), ((4, 3), 0, [419]), ((0, 3), 0, [438]), ((3, 3), 0, [444]), ((5, 3), 0, [494]), ((8, 1), 0, [1022])]
def x_oi : List ((Nat × Nat) × Nat × List Nat) := x_oi_0
def x_stx (i : Nat) : String := ["felt more * 4 + 8 - far * 3 ; slope 2 ; bears 60 ;", "told", "more", "far", "weight", "knot", "who", "felt", "slope", "bears", "or", "and", "not", "();+-*<="].getD i ""
