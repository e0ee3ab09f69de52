section
-- ===== PART A: goes FIRST, ahead of the names: the tables' words, and 'selects' of the private methods out of them =====
/-- a private method of a class that the tables say can be made, by its rows of tables_1 -/
def lw_okq (q : MethodName × Nat) : Prop := (q.1.cls ≠ "java/lang/invoke/MethodHandle" ∧ q.1.cls ≠ "java/lang/invoke/VarHandle") ∧ Cond.instantiable q.1.cls q.2 ∈ tables_1 ∧ Cond.privateMethod q.1 ∈ tables_1 ∧ Cond.instanceMethod q.1 ∈ tables_1
theorem lw_p0 : lw_okq (⟨"OrderedDisc", "refuse", "(I)I"⟩, 10) := ⟨⟨by decide +kernel, by decide +kernel⟩, List.mem_of_getElem? (i := 23) (by decide +kernel), List.mem_of_getElem? (i := 354) (by decide +kernel), List.mem_of_getElem? (i := 355) (by decide +kernel)⟩
theorem lw_p1 : lw_okq (⟨"OrderedDisc$States", "gather", "(LOrderedDisc$Disc;I)V"⟩, 14) := ⟨⟨by decide +kernel, by decide +kernel⟩, List.mem_of_getElem? (i := 98) (by decide +kernel), List.mem_of_getElem? (i := 405) (by decide +kernel), List.mem_of_getElem? (i := 406) (by decide +kernel)⟩
theorem lw_p2 : lw_okq (⟨"OrderedDisc$States", "allow", "(II)V"⟩, 14) := ⟨⟨by decide +kernel, by decide +kernel⟩, List.mem_of_getElem? (i := 98) (by decide +kernel), List.mem_of_getElem? (i := 412) (by decide +kernel), List.mem_of_getElem? (i := 413) (by decide +kernel)⟩
theorem lw_p3 : lw_okq (⟨"OrderedDisc$States", "countAlone", "()V"⟩, 14) := ⟨⟨by decide +kernel, by decide +kernel⟩, List.mem_of_getElem? (i := 98) (by decide +kernel), List.mem_of_getElem? (i := 416) (by decide +kernel), List.mem_of_getElem? (i := 417) (by decide +kernel)⟩
theorem lw_p4 : lw_okq (⟨"OrderedDisc$States", "choicesOf", "(II)I"⟩, 14) := ⟨⟨by decide +kernel, by decide +kernel⟩, List.mem_of_getElem? (i := 98) (by decide +kernel), List.mem_of_getElem? (i := 420) (by decide +kernel), List.mem_of_getElem? (i := 421) (by decide +kernel)⟩
theorem lw_p5 : lw_okq (⟨"OrderedDisc$States", "countFrom", "(II)I"⟩, 14) := ⟨⟨by decide +kernel, by decide +kernel⟩, List.mem_of_getElem? (i := 98) (by decide +kernel), List.mem_of_getElem? (i := 424) (by decide +kernel), List.mem_of_getElem? (i := 425) (by decide +kernel)⟩
theorem lw_p6 : lw_okq (⟨"OrderedDisc$States", "advance", "()V"⟩, 14) := ⟨⟨by decide +kernel, by decide +kernel⟩, List.mem_of_getElem? (i := 98) (by decide +kernel), List.mem_of_getElem? (i := 442) (by decide +kernel), List.mem_of_getElem? (i := 443) (by decide +kernel)⟩
theorem lw_p7 : lw_okq (⟨"OrderedDisc$States", "step", "(I)Z"⟩, 14) := ⟨⟨by decide +kernel, by decide +kernel⟩, List.mem_of_getElem? (i := 98) (by decide +kernel), List.mem_of_getElem? (i := 446) (by decide +kernel), List.mem_of_getElem? (i := 447) (by decide +kernel)⟩
theorem lw_p8 : lw_okq (⟨"OrderedDisc$States", "pick", "(II)V"⟩, 14) := ⟨⟨by decide +kernel, by decide +kernel⟩, List.mem_of_getElem? (i := 98) (by decide +kernel), List.mem_of_getElem? (i := 450) (by decide +kernel), List.mem_of_getElem? (i := 451) (by decide +kernel)⟩
theorem lw_p9 : lw_okq (⟨"OrderedDisc$States", "descend", "(I)V"⟩, 14) := ⟨⟨by decide +kernel, by decide +kernel⟩, List.mem_of_getElem? (i := 98) (by decide +kernel), List.mem_of_getElem? (i := 454) (by decide +kernel), List.mem_of_getElem? (i := 455) (by decide +kernel)⟩
theorem lw_p10 : lw_okq (⟨"OrderedDisc", "isKind", "(I)Z"⟩, 10) := ⟨⟨by decide +kernel, by decide +kernel⟩, List.mem_of_getElem? (i := 23) (by decide +kernel), List.mem_of_getElem? (i := 463) (by decide +kernel), List.mem_of_getElem? (i := 464) (by decide +kernel)⟩
theorem lw_p11 : lw_okq (⟨"OrderedDisc", "hasStore", "()Z"⟩, 10) := ⟨⟨by decide +kernel, by decide +kernel⟩, List.mem_of_getElem? (i := 23) (by decide +kernel), List.mem_of_getElem? (i := 502) (by decide +kernel), List.mem_of_getElem? (i := 503) (by decide +kernel)⟩
theorem lw_p12 : lw_okq (⟨"OrderedDisc", "carryOut", "()I"⟩, 10) := ⟨⟨by decide +kernel, by decide +kernel⟩, List.mem_of_getElem? (i := 23) (by decide +kernel), List.mem_of_getElem? (i := 579) (by decide +kernel), List.mem_of_getElem? (i := 580) (by decide +kernel)⟩
theorem lw_p13 : lw_okq (⟨"OrderedDisc", "addAct", "(IIIJ)I"⟩, 10) := ⟨⟨by decide +kernel, by decide +kernel⟩, List.mem_of_getElem? (i := 23) (by decide +kernel), List.mem_of_getElem? (i := 664) (by decide +kernel), List.mem_of_getElem? (i := 665) (by decide +kernel)⟩
theorem lw_p14 : lw_okq (⟨"OrderedDisc$Passage", "lookAround", "()Z"⟩, 14) := ⟨⟨by decide +kernel, by decide +kernel⟩, List.mem_of_getElem? (i := 207) (by decide +kernel), List.mem_of_getElem? (i := 708) (by decide +kernel), List.mem_of_getElem? (i := 709) (by decide +kernel)⟩
theorem lw_p15 : lw_okq (⟨"OrderedDisc$Passage", "riseFrom", "([I)V"⟩, 14) := ⟨⟨by decide +kernel, by decide +kernel⟩, List.mem_of_getElem? (i := 207) (by decide +kernel), List.mem_of_getElem? (i := 714) (by decide +kernel), List.mem_of_getElem? (i := 715) (by decide +kernel)⟩
def lw_privs_1 : List (MethodName × Nat) := [(⟨"OrderedDisc", "refuse", "(I)I"⟩, 10), (⟨"OrderedDisc$States", "gather", "(LOrderedDisc$Disc;I)V"⟩, 14), (⟨"OrderedDisc$States", "allow", "(II)V"⟩, 14), (⟨"OrderedDisc$States", "countAlone", "()V"⟩, 14), (⟨"OrderedDisc$States", "choicesOf", "(II)I"⟩, 14), (⟨"OrderedDisc$States", "countFrom", "(II)I"⟩, 14), (⟨"OrderedDisc$States", "advance", "()V"⟩, 14), (⟨"OrderedDisc$States", "step", "(I)Z"⟩, 14), (⟨"OrderedDisc$States", "pick", "(II)V"⟩, 14), (⟨"OrderedDisc$States", "descend", "(I)V"⟩, 14), (⟨"OrderedDisc", "isKind", "(I)Z"⟩, 10), (⟨"OrderedDisc", "hasStore", "()Z"⟩, 10), (⟨"OrderedDisc", "carryOut", "()I"⟩, 10), (⟨"OrderedDisc", "addAct", "(IIIJ)I"⟩, 10), (⟨"OrderedDisc$Passage", "lookAround", "()Z"⟩, 14), (⟨"OrderedDisc$Passage", "riseFrom", "([I)V"⟩, 14)]
theorem lw_r1 : ∀ q ∈ lw_privs_1, lw_okq q := List.forall_mem_cons.mpr ⟨lw_p0, List.forall_mem_cons.mpr ⟨lw_p1, List.forall_mem_cons.mpr ⟨lw_p2, List.forall_mem_cons.mpr ⟨lw_p3, List.forall_mem_cons.mpr ⟨lw_p4, List.forall_mem_cons.mpr ⟨lw_p5, List.forall_mem_cons.mpr ⟨lw_p6, List.forall_mem_cons.mpr ⟨lw_p7, List.forall_mem_cons.mpr ⟨lw_p8, List.forall_mem_cons.mpr ⟨lw_p9, List.forall_mem_cons.mpr ⟨lw_p10, List.forall_mem_cons.mpr ⟨lw_p11, List.forall_mem_cons.mpr ⟨lw_p12, List.forall_mem_cons.mpr ⟨lw_p13, List.forall_mem_cons.mpr ⟨lw_p14, List.forall_mem_cons.mpr ⟨lw_p15, fun _ h => absurd h List.not_mem_nil⟩⟩⟩⟩⟩⟩⟩⟩⟩⟩⟩⟩⟩⟩⟩⟩
theorem lw_p16 : lw_okq (⟨"OrderedDisc$Passage", "isRight", "()Z"⟩, 14) := ⟨⟨by decide +kernel, by decide +kernel⟩, List.mem_of_getElem? (i := 207) (by decide +kernel), List.mem_of_getElem? (i := 727) (by decide +kernel), List.mem_of_getElem? (i := 728) (by decide +kernel)⟩
theorem lw_p17 : lw_okq (⟨"OrderedDisc$Passage", "keepBad", "(I)V"⟩, 14) := ⟨⟨by decide +kernel, by decide +kernel⟩, List.mem_of_getElem? (i := 207) (by decide +kernel), List.mem_of_getElem? (i := 731) (by decide +kernel), List.mem_of_getElem? (i := 732) (by decide +kernel)⟩
theorem lw_p18 : lw_okq (⟨"OrderedDisc$Passage", "makeSure", "()Z"⟩, 14) := ⟨⟨by decide +kernel, by decide +kernel⟩, List.mem_of_getElem? (i := 207) (by decide +kernel), List.mem_of_getElem? (i := 736) (by decide +kernel), List.mem_of_getElem? (i := 737) (by decide +kernel)⟩
theorem lw_p19 : lw_okq (⟨"OrderedDisc$Passage", "change", "(LOrderedDisc$Script;I)Z"⟩, 14) := ⟨⟨by decide +kernel, by decide +kernel⟩, List.mem_of_getElem? (i := 207) (by decide +kernel), List.mem_of_getElem? (i := 741) (by decide +kernel), List.mem_of_getElem? (i := 742) (by decide +kernel)⟩
theorem lw_p20 : lw_okq (⟨"java/lang/Throwable", "fillInStackTrace", "(I)Ljava/lang/Throwable;"⟩, 6) := ⟨⟨by decide +kernel, by decide +kernel⟩, List.mem_of_getElem? (i := 833) (by decide +kernel), List.mem_of_getElem? (i := 831) (by decide +kernel), List.mem_of_getElem? (i := 832) (by decide +kernel)⟩
theorem lw_p21 : lw_okq (⟨"OrderedDiscModel", "refuse", "(I)I"⟩, 38) := ⟨⟨by decide +kernel, by decide +kernel⟩, List.mem_of_getElem? (i := 904) (by decide +kernel), List.mem_of_getElem? (i := 1038) (by decide +kernel), List.mem_of_getElem? (i := 1039) (by decide +kernel)⟩
theorem lw_p22 : lw_okq (⟨"OrderedDiscModel", "push", "(IIII)Z"⟩, 38) := ⟨⟨by decide +kernel, by decide +kernel⟩, List.mem_of_getElem? (i := 904) (by decide +kernel), List.mem_of_getElem? (i := 1042) (by decide +kernel), List.mem_of_getElem? (i := 1043) (by decide +kernel)⟩
theorem lw_p23 : lw_okq (⟨"OrderedDiscModel", "flushOf", "(I)I"⟩, 38) := ⟨⟨by decide +kernel, by decide +kernel⟩, List.mem_of_getElem? (i := 904) (by decide +kernel), List.mem_of_getElem? (i := 1054) (by decide +kernel), List.mem_of_getElem? (i := 1055) (by decide +kernel)⟩
theorem lw_p24 : lw_okq (⟨"OrderedDiscModel", "readOf", "(III)I"⟩, 38) := ⟨⟨by decide +kernel, by decide +kernel⟩, List.mem_of_getElem? (i := 904) (by decide +kernel), List.mem_of_getElem? (i := 1065) (by decide +kernel), List.mem_of_getElem? (i := 1066) (by decide +kernel)⟩
theorem lw_p25 : lw_okq (⟨"OrderedDiscModel", "writeEpoch", "(II)I"⟩, 38) := ⟨⟨by decide +kernel, by decide +kernel⟩, List.mem_of_getElem? (i := 904) (by decide +kernel), List.mem_of_getElem? (i := 1077) (by decide +kernel), List.mem_of_getElem? (i := 1078) (by decide +kernel)⟩
theorem lw_p26 : lw_okq (⟨"OrderedDiscModel", "findStates", "(I)Z"⟩, 38) := ⟨⟨by decide +kernel, by decide +kernel⟩, List.mem_of_getElem? (i := 904) (by decide +kernel), List.mem_of_getElem? (i := 1085) (by decide +kernel), List.mem_of_getElem? (i := 1086) (by decide +kernel)⟩
theorem lw_p27 : lw_okq (⟨"OrderedDiscModel", "epochOf", "(II)I"⟩, 38) := ⟨⟨by decide +kernel, by decide +kernel⟩, List.mem_of_getElem? (i := 904) (by decide +kernel), List.mem_of_getElem? (i := 1089) (by decide +kernel), List.mem_of_getElem? (i := 1090) (by decide +kernel)⟩
theorem lw_p28 : lw_okq (⟨"OrderedDiscModel", "onlyBase", "()V"⟩, 38) := ⟨⟨by decide +kernel, by decide +kernel⟩, List.mem_of_getElem? (i := 904) (by decide +kernel), List.mem_of_getElem? (i := 1093) (by decide +kernel), List.mem_of_getElem? (i := 1094) (by decide +kernel)⟩
theorem lw_p29 : lw_okq (⟨"OrderedDiscModel", "mayBe", "(II)V"⟩, 38) := ⟨⟨by decide +kernel, by decide +kernel⟩, List.mem_of_getElem? (i := 904) (by decide +kernel), List.mem_of_getElem? (i := 1097) (by decide +kernel), List.mem_of_getElem? (i := 1098) (by decide +kernel)⟩
theorem lw_p30 : lw_okq (⟨"OrderedDiscModel", "keepAll", "()Z"⟩, 38) := ⟨⟨by decide +kernel, by decide +kernel⟩, List.mem_of_getElem? (i := 904) (by decide +kernel), List.mem_of_getElem? (i := 1101) (by decide +kernel), List.mem_of_getElem? (i := 1102) (by decide +kernel)⟩
theorem lw_p31 : lw_okq (⟨"OrderedDiscModel", "keepState", "()Z"⟩, 38) := ⟨⟨by decide +kernel, by decide +kernel⟩, List.mem_of_getElem? (i := 904) (by decide +kernel), List.mem_of_getElem? (i := 1105) (by decide +kernel), List.mem_of_getElem? (i := 1106) (by decide +kernel)⟩
def lw_privs_2 : List (MethodName × Nat) := [(⟨"OrderedDisc$Passage", "isRight", "()Z"⟩, 14), (⟨"OrderedDisc$Passage", "keepBad", "(I)V"⟩, 14), (⟨"OrderedDisc$Passage", "makeSure", "()Z"⟩, 14), (⟨"OrderedDisc$Passage", "change", "(LOrderedDisc$Script;I)Z"⟩, 14), (⟨"java/lang/Throwable", "fillInStackTrace", "(I)Ljava/lang/Throwable;"⟩, 6), (⟨"OrderedDiscModel", "refuse", "(I)I"⟩, 38), (⟨"OrderedDiscModel", "push", "(IIII)Z"⟩, 38), (⟨"OrderedDiscModel", "flushOf", "(I)I"⟩, 38), (⟨"OrderedDiscModel", "readOf", "(III)I"⟩, 38), (⟨"OrderedDiscModel", "writeEpoch", "(II)I"⟩, 38), (⟨"OrderedDiscModel", "findStates", "(I)Z"⟩, 38), (⟨"OrderedDiscModel", "epochOf", "(II)I"⟩, 38), (⟨"OrderedDiscModel", "onlyBase", "()V"⟩, 38), (⟨"OrderedDiscModel", "mayBe", "(II)V"⟩, 38), (⟨"OrderedDiscModel", "keepAll", "()Z"⟩, 38), (⟨"OrderedDiscModel", "keepState", "()Z"⟩, 38)]
theorem lw_r2 : ∀ q ∈ lw_privs_2, lw_okq q := List.forall_mem_cons.mpr ⟨lw_p16, List.forall_mem_cons.mpr ⟨lw_p17, List.forall_mem_cons.mpr ⟨lw_p18, List.forall_mem_cons.mpr ⟨lw_p19, List.forall_mem_cons.mpr ⟨lw_p20, List.forall_mem_cons.mpr ⟨lw_p21, List.forall_mem_cons.mpr ⟨lw_p22, List.forall_mem_cons.mpr ⟨lw_p23, List.forall_mem_cons.mpr ⟨lw_p24, List.forall_mem_cons.mpr ⟨lw_p25, List.forall_mem_cons.mpr ⟨lw_p26, List.forall_mem_cons.mpr ⟨lw_p27, List.forall_mem_cons.mpr ⟨lw_p28, List.forall_mem_cons.mpr ⟨lw_p29, List.forall_mem_cons.mpr ⟨lw_p30, List.forall_mem_cons.mpr ⟨lw_p31, fun _ h => absurd h List.not_mem_nil⟩⟩⟩⟩⟩⟩⟩⟩⟩⟩⟩⟩⟩⟩⟩⟩
theorem lw_p32 : lw_okq (⟨"OrderedDiscModel", "compare", "(I)I"⟩, 38) := ⟨⟨by decide +kernel, by decide +kernel⟩, List.mem_of_getElem? (i := 904) (by decide +kernel), List.mem_of_getElem? (i := 1109) (by decide +kernel), List.mem_of_getElem? (i := 1110) (by decide +kernel)⟩
theorem lw_p33 : lw_okq (⟨"OrderedDiscModel", "format", "(II)V"⟩, 38) := ⟨⟨by decide +kernel, by decide +kernel⟩, List.mem_of_getElem? (i := 904) (by decide +kernel), List.mem_of_getElem? (i := 1125) (by decide +kernel), List.mem_of_getElem? (i := 1126) (by decide +kernel)⟩
theorem lw_p34 : lw_okq (⟨"OrderedDiscModel", "planChange", "(IIIJIJ)V"⟩, 38) := ⟨⟨by decide +kernel, by decide +kernel⟩, List.mem_of_getElem? (i := 904) (by decide +kernel), List.mem_of_getElem? (i := 1136) (by decide +kernel), List.mem_of_getElem? (i := 1137) (by decide +kernel)⟩
theorem lw_p35 : lw_okq (⟨"OrderedDiscModel", "plan", "(III)V"⟩, 38) := ⟨⟨by decide +kernel, by decide +kernel⟩, List.mem_of_getElem? (i := 904) (by decide +kernel), List.mem_of_getElem? (i := 1143) (by decide +kernel), List.mem_of_getElem? (i := 1144) (by decide +kernel)⟩
theorem lw_p36 : lw_okq (⟨"OrderedDiscModel", "planFence", "(II)V"⟩, 38) := ⟨⟨by decide +kernel, by decide +kernel⟩, List.mem_of_getElem? (i := 904) (by decide +kernel), List.mem_of_getElem? (i := 1147) (by decide +kernel), List.mem_of_getElem? (i := 1148) (by decide +kernel)⟩
theorem lw_p37 : lw_okq (⟨"OrderedDiscModel", "planEnd", "(I)V"⟩, 38) := ⟨⟨by decide +kernel, by decide +kernel⟩, List.mem_of_getElem? (i := 904) (by decide +kernel), List.mem_of_getElem? (i := 1154) (by decide +kernel), List.mem_of_getElem? (i := 1155) (by decide +kernel)⟩
theorem lw_p38 : lw_okq (⟨"OrderedDiscModel", "version", "(I)I"⟩, 38) := ⟨⟨by decide +kernel, by decide +kernel⟩, List.mem_of_getElem? (i := 904) (by decide +kernel), List.mem_of_getElem? (i := 1158) (by decide +kernel), List.mem_of_getElem? (i := 1159) (by decide +kernel)⟩
theorem lw_p39 : lw_okq (⟨"OrderedDiscModel", "root", "(II)I"⟩, 38) := ⟨⟨by decide +kernel, by decide +kernel⟩, List.mem_of_getElem? (i := 904) (by decide +kernel), List.mem_of_getElem? (i := 1162) (by decide +kernel), List.mem_of_getElem? (i := 1163) (by decide +kernel)⟩
theorem lw_p40 : lw_okq (⟨"OrderedDiscModel", "keyOf", "(III)J"⟩, 38) := ⟨⟨by decide +kernel, by decide +kernel⟩, List.mem_of_getElem? (i := 904) (by decide +kernel), List.mem_of_getElem? (i := 1166) (by decide +kernel), List.mem_of_getElem? (i := 1167) (by decide +kernel)⟩
theorem lw_p41 : lw_okq (⟨"OrderedDiscModel", "takePlan", "()I"⟩, 38) := ⟨⟨by decide +kernel, by decide +kernel⟩, List.mem_of_getElem? (i := 904) (by decide +kernel), List.mem_of_getElem? (i := 1177) (by decide +kernel), List.mem_of_getElem? (i := 1178) (by decide +kernel)⟩
theorem lw_p42 : lw_okq (⟨"OrderedDiscModel", "planRise", "(II)V"⟩, 38) := ⟨⟨by decide +kernel, by decide +kernel⟩, List.mem_of_getElem? (i := 904) (by decide +kernel), List.mem_of_getElem? (i := 1193) (by decide +kernel), List.mem_of_getElem? (i := 1194) (by decide +kernel)⟩
theorem lw_p43 : lw_okq (⟨"OrderedDiscModel", "add", "(IIIJ)I"⟩, 38) := ⟨⟨by decide +kernel, by decide +kernel⟩, List.mem_of_getElem? (i := 904) (by decide +kernel), List.mem_of_getElem? (i := 1205) (by decide +kernel), List.mem_of_getElem? (i := 1206) (by decide +kernel)⟩
theorem lw_p44 : lw_okq (⟨"OrderedDiscModel", "goThrough", "(I)Z"⟩, 38) := ⟨⟨by decide +kernel, by decide +kernel⟩, List.mem_of_getElem? (i := 904) (by decide +kernel), List.mem_of_getElem? (i := 1225) (by decide +kernel), List.mem_of_getElem? (i := 1226) (by decide +kernel)⟩
theorem lw_p45 : lw_okq (⟨"OrderedDiscModel", "findDue", "()V"⟩, 38) := ⟨⟨by decide +kernel, by decide +kernel⟩, List.mem_of_getElem? (i := 904) (by decide +kernel), List.mem_of_getElem? (i := 1229) (by decide +kernel), List.mem_of_getElem? (i := 1230) (by decide +kernel)⟩
theorem lw_p46 : lw_okq (⟨"OrderedDiscModel", "moment", "(I)Z"⟩, 38) := ⟨⟨by decide +kernel, by decide +kernel⟩, List.mem_of_getElem? (i := 904) (by decide +kernel), List.mem_of_getElem? (i := 1233) (by decide +kernel), List.mem_of_getElem? (i := 1234) (by decide +kernel)⟩
theorem lw_p47 : lw_okq (⟨"OrderedDiscModel", "isRight", "()Z"⟩, 38) := ⟨⟨by decide +kernel, by decide +kernel⟩, List.mem_of_getElem? (i := 904) (by decide +kernel), List.mem_of_getElem? (i := 1237) (by decide +kernel), List.mem_of_getElem? (i := 1238) (by decide +kernel)⟩
def lw_privs_3 : List (MethodName × Nat) := [(⟨"OrderedDiscModel", "compare", "(I)I"⟩, 38), (⟨"OrderedDiscModel", "format", "(II)V"⟩, 38), (⟨"OrderedDiscModel", "planChange", "(IIIJIJ)V"⟩, 38), (⟨"OrderedDiscModel", "plan", "(III)V"⟩, 38), (⟨"OrderedDiscModel", "planFence", "(II)V"⟩, 38), (⟨"OrderedDiscModel", "planEnd", "(I)V"⟩, 38), (⟨"OrderedDiscModel", "version", "(I)I"⟩, 38), (⟨"OrderedDiscModel", "root", "(II)I"⟩, 38), (⟨"OrderedDiscModel", "keyOf", "(III)J"⟩, 38), (⟨"OrderedDiscModel", "takePlan", "()I"⟩, 38), (⟨"OrderedDiscModel", "planRise", "(II)V"⟩, 38), (⟨"OrderedDiscModel", "add", "(IIIJ)I"⟩, 38), (⟨"OrderedDiscModel", "goThrough", "(I)Z"⟩, 38), (⟨"OrderedDiscModel", "findDue", "()V"⟩, 38), (⟨"OrderedDiscModel", "moment", "(I)Z"⟩, 38), (⟨"OrderedDiscModel", "isRight", "()Z"⟩, 38)]
theorem lw_r3 : ∀ q ∈ lw_privs_3, lw_okq q := List.forall_mem_cons.mpr ⟨lw_p32, List.forall_mem_cons.mpr ⟨lw_p33, List.forall_mem_cons.mpr ⟨lw_p34, List.forall_mem_cons.mpr ⟨lw_p35, List.forall_mem_cons.mpr ⟨lw_p36, List.forall_mem_cons.mpr ⟨lw_p37, List.forall_mem_cons.mpr ⟨lw_p38, List.forall_mem_cons.mpr ⟨lw_p39, List.forall_mem_cons.mpr ⟨lw_p40, List.forall_mem_cons.mpr ⟨lw_p41, List.forall_mem_cons.mpr ⟨lw_p42, List.forall_mem_cons.mpr ⟨lw_p43, List.forall_mem_cons.mpr ⟨lw_p44, List.forall_mem_cons.mpr ⟨lw_p45, List.forall_mem_cons.mpr ⟨lw_p46, List.forall_mem_cons.mpr ⟨lw_p47, fun _ h => absurd h List.not_mem_nil⟩⟩⟩⟩⟩⟩⟩⟩⟩⟩⟩⟩⟩⟩⟩⟩
theorem lw_p48 : lw_okq (⟨"OrderedDiscModel", "goThroughAct", "(II)Z"⟩, 38) := ⟨⟨by decide +kernel, by decide +kernel⟩, List.mem_of_getElem? (i := 904) (by decide +kernel), List.mem_of_getElem? (i := 1241) (by decide +kernel), List.mem_of_getElem? (i := 1242) (by decide +kernel)⟩
def lw_privs_4 : List (MethodName × Nat) := [(⟨"OrderedDiscModel", "goThroughAct", "(II)Z"⟩, 38)]
theorem lw_r4 : ∀ q ∈ lw_privs_4, lw_okq q := List.forall_mem_cons.mpr ⟨lw_p48, fun _ h => absurd h List.not_mem_nil⟩
def lw_privs : List (MethodName × Nat) := lw_privs_1 ++ (lw_privs_2 ++ (lw_privs_3 ++ (lw_privs_4)))
def lw_tbl : List Cond := k2_sels lw_privs ++ tables_1
theorem lw_privs_ok : ∀ q ∈ lw_privs, lw_okq q := by
  show ∀ q ∈ lw_privs_1 ++ (lw_privs_2 ++ (lw_privs_3 ++ (lw_privs_4))), lw_okq q
  exact List.forall_mem_append.mpr ⟨lw_r1, List.forall_mem_append.mpr ⟨lw_r2, List.forall_mem_append.mpr ⟨lw_r3, lw_r4⟩⟩⟩
def va_AOA (ty : FieldType) (U : State) : Prop := (Cond.arrayOver (.array ty)).before #[] U = true
theorem va_AOA.use {ty : FieldType} {A : Array Value} {U : State} (h : va_AOA ty U) : (Cond.arrayOver (.array ty)).before A U = true := h
/-! ===== BEGIN words of one list among another's, by their places ===== -/
theorem goodIn_r {big : List Cond} (ws : List Cond) (ps : List Nat) (hp : ws = ps.filterMap (fun i => big[i]?)) (h : ws.all goodWord = true) : GoodIn big ws := by
  intro w hw
  have h1 := List.all_eq_true.mp h w hw
  rw [hp] at hw
  obtain ⟨i, -, hi⟩ := List.mem_filterMap.mp hw
  have hm : w ∈ big := by first | exact List.mem_of_getElem? hi | exact List.getElem?_mem hi
  exact ⟨hm, good_of_word h1⟩
theorem goodIn_app {big a b : List Cond} (ha : GoodIn big a) (hb : GoodIn big b) : GoodIn big (a ++ b) := fun w h => (List.mem_append.mp h).elim (ha w) (hb w)
theorem goodIn_ca {big a b : List Cond} {c : Cond} (ha : GoodIn big (c :: a)) (hb : GoodIn big b) : GoodIn big (c :: (a ++ b)) := fun w h => (List.mem_cons.mp h).elim (fun e => ha w (List.mem_cons.mpr (Or.inl e))) (fun h => (List.mem_append.mp h).elim (fun h => ha w (List.mem_cons.mpr (Or.inr h))) (hb w))
theorem goodIn_sub {big ws : List Cond} (hm : ∀ w ∈ ws, w ∈ big) (h : ws.all goodWord = true) : GoodIn big ws := fun w hw => ⟨hm w hw, good_of_word (List.all_eq_true.mp h w hw)⟩
/-! ===== END ===== -/

/-! ===== BEGIN new T[n][m]: the outer array a place, the inner ones among the pooled ===== -/
/-- f, but v at every address of l -/
def vr_up {α : Type} (f : Nat → α) (l : List Nat) (v : α) : Nat → α := fun a => if a ∈ l then v else f a
theorem vr_up_in {α : Type} {f : Nat → α} {l : List Nat} {v : α} {a : Nat} (h : a ∈ l) : vr_up f l v a = v := if_pos h
theorem vr_up_ne {α : Type} {f : Nat → α} {l : List Nat} {v : α} {a : Nat} (h : a ∉ l) : vr_up f l v a = f a := if_neg h
theorem vr_rows {L l : List Nat} {f : Nat → va_E} {e : va_E} (h : ∀ a, a ∈ l → a ∉ L) : va_pl L f ++ l.map (fun a => (a, e)) = va_pl (L ++ l) (vr_up f l e) := by
  unfold va_pl
  rw [List.map_append]
  congr 1
  · apply List.map_congr_left
    intro a ha
    rw [vr_up_ne (fun q => h a q ha)]
  · apply List.map_congr_left
    intro a ha
    rw [vr_up_in ha]
theorem vr_lay {X rows : va_W} {x : Nat × va_E} {pl : va_W} {D : va_G} {cl : List vw_C} {H : Heap} (hP : va_P D cl (((X ++ pl) ++ [x]) ++ rows) H) : va_P D cl ((X ++ [x]) ++ (pl ++ rows)) H := by
  rw [List.append_assoc (X ++ pl)] at hP
  have h := va_P.swap hP
  rw [← List.append_assoc X] at h
  have h2 := va_P.swap h
  rw [List.append_assoc (X ++ [x])] at h2
  exact h2
theorem vr_layD {X rows : va_W} {x : Nat × va_E} {pl : va_W} {A : Nat → Prop} (hD : va_D A (((X ++ pl) ++ [x]) ++ rows)) : va_D A ((X ++ [x]) ++ (pl ++ rows)) := by
  rw [List.append_assoc (X ++ pl)] at hD
  have h := va_D.swap hD
  rw [← List.append_assoc X] at h
  have h2 := va_D.swap h
  rw [List.append_assoc (X ++ [x])] at h2
  exact h2
theorem vr_outer (c : ClassId) (N h0 : Nat) : ∀ i : Nat, Jvm.Free.Multi.outerC c N h0 i = arrV c N (fun j => va_rf (if j < i then some (h0 + 1 + j) else none))
  | 0 => by
    show ({ cls := c, slots := Array.replicate N .null, vm := .none } : Cell) = _
    rw [arrV_new]
    refine congrArg (arrV c N) (funext fun j => ?_)
    simp [va_rf]
  | i + 1 => by
    show (Jvm.Free.Multi.outerC c N h0 i).setSlot i (.ref (h0 + 1 + i)) = _
    rw [vr_outer c N h0 i, arrV_store]
    refine congrArg (arrV c N) (funext fun j => ?_)
    by_cases e : j = i
    · subst e
      simp [updV, va_rf]
    · by_cases h : j < i
      · simp [updV, e, h, Nat.lt_succ_of_lt h]
      · simp [updV, e, h, show ¬ j < i + 1 by omega]
section VGM
variable {p : Program} {l : Launch} {e : Env} {R : Room} {s : State} {m : MethodId} {args : Array Value} {below : List Frame} {meth : Method} {c : Code} {H : Heap} {locs : List Loc} {cells slots : Nat} {Q : State → Prop}
variable {cc : ByteArray} {pc : Nat} {ls : Array Slot} {rest : List Value} {D : va_G} {cl : List vw_C} {A : Nat → Prop} {a : Nat} {tys : List (ClassId × FieldType)} {ws : va_W} {H0 : Heap}
theorem va_mna {X : va_W} {L : List Nat} {f : Nat → va_E} {cc : ByteArray} (hexec : p.tables.exec = Jvm.exec) (hb : c.code = cc) {own : String} {index : Nat} {ty : FieldType} {cy : ClassId} (hown : s.vm.findClass own = some m.cls) (hclink : (Cond.classLink own index ("[" ++ (FieldType.array ty).toString)).before args s = true) (hover : va_AOA ty s) (harr : (Cond.arrayClass ty).before args s = true) (hcy : s.vm.findClass (FieldType.array ty).toString = some cy)
    (hK : va_K D cl tys s) (hP : va_P D cl (X ++ va_pl L f) H) (hD : va_D A (X ++ va_pl L f)) (hS : va_S A H0 H locs) (hA : ∀ q, H0.size ≤ q → A q) {n k : Int32} {N' K' : Nat} {z : vp_A} (hn : ¬ n < 0) (hk : ¬ k < 0) (hN : n.toNatClampNeg = N') (hM : k.toNatClampNeg = K')
    (hb1 : N' * 4 ≤ 536870912) (hb2 : K' * componentBytes ty ≤ 536870912) (hb3 : K' ≤ 536870912) (hdf : fits ty (defaultValue ty) = true) (hdd : (defaultValue ty).isDefault = true) (hcells : cells + (1 + N') ≤ R.cells) (hslots : slots + (N' + N' * K') ≤ R.slots) (hz : ∀ c : ClassId, Jvm.Free.Multi.innerC c K' (defaultValue ty) = vp_cell c z) (hdg : decode cc pc = .ok (.multianewarray index 2, 4))
    (kk : ∀ (q : Nat) (r : Nat → Nat) (cA : ClassId) (H1 : Heap), (∀ i j : Nat, i < N' → j < N' → r i = r j → i = j) → (∀ i : Nat, i < N' → r i ∉ L) → va_K D cl (tys ++ [(cA, .array ty)]) s →
      va_P D cl ((X ++ [(q, .inl (cA, N', .inr (.inr (.inr (.inr (fun i => if i < N' then some (r i) else none))))))]) ++ va_pl (L ++ (List.range N').map r) (vr_up f ((List.range N').map r) (.inl (cy, z)))) H1 → va_D A ((X ++ [(q, .inl (cA, N', .inr (.inr (.inr (.inr (fun i => if i < N' then some (r i) else none))))))]) ++ va_pl (L ++ (List.range N').map r) (vr_up f ((List.range N').map r) (.inl (cy, z)))) → va_S A H0 H1 locs →
      W p l e R s m args below meth c H1 locs (cells + 1 + N') (slots + N' + N' * K') Q (F0 m (pc + 4) ls (.ref q :: rest))) : W p l e R s m args below meth c H locs cells slots Q (F0 m pc ls (.int k :: .int n :: rest)) := by
  subst hN
  subst hM
  intro T hT Xs
  obtain ⟨vm₁, cA, comp, -, fA, fC, hO, -, X', step⟩ := Xs.multianewarray2F hexec hown hclink (va_AOA.use hover) harr (g := F0 m pc ls (.int k :: .int n :: rest)) rfl (by rw [hb]; exact hdg) rfl hn hk hb1 hb2 hb3 hdf hdd hcells hslots
  have ec : some cy = some comp := hcy.symm.trans fC
  cases ec
  generalize hF : Jvm.Free.Multi.fill (T.setVm vm₁) cA cy n.toNatClampNeg k.toNatClampNeg (defaultValue ty) n.toNatClampNeg = F at X' step
  have hTh : (T.setVm vm₁).heap = H := hT
  obtain ⟨f1, f2, -, -⟩ := Jvm.Free.Multi.fill_facts (T.setVm vm₁) cA cy n.toNatClampNeg k.toNatClampNeg (defaultValue ty) n.toNatClampNeg
  rw [hF, hTh] at f1 f2
  have hold : ∀ x : Nat, x < H.size → F.heap[x]? = H[x]? := fun x hx => by
    have := Jvm.Free.Multi.fill_old (T.setVm vm₁) cA cy n.toNatClampNeg k.toNatClampNeg (defaultValue ty) (a := x) (by rw [hTh]; exact hx) n.toNatClampNeg
    rw [hF, hTh] at this
    exact this
  have hrow : ∀ j : Nat, j < n.toNatClampNeg → F.heap[H.size + 1 + j]? = some (vp_cell cy z) := fun j hj => by
    have := Jvm.Free.Multi.fill_inner (T.setVm vm₁) cA cy n.toNatClampNeg k.toNatClampNeg (defaultValue ty) n.toNatClampNeg j hj
    rw [hF, hTh, hz] at this
    exact this
  have hout : Jvm.Free.Multi.outerC cA n.toNatClampNeg H.size n.toNatClampNeg = vp_cell cA (n.toNatClampNeg, .inr (.inr (.inr (.inr (fun i => if i < n.toNatClampNeg then some (H.size + 1 + i) else none))))) := by
    rw [vp_cell_q]
    exact vr_outer cA n.toNatClampNeg H.size n.toNatClampNeg
  rw [hout] at f2
  have hlt : ∀ a, a ∈ L → a < H.size := fun a ha => by
    obtain ⟨k9, hk9⟩ := va_pl_get (X := X) (f := f) ha
    exact (hP k9 _ hk9).lt
  have hnl : ∀ i : Nat, i < n.toNatClampNeg → H.size + 1 + i ∉ L := fun i _ h => by
    have := hlt _ h
    omega
  have hnm : ∀ a, a ∈ (List.range n.toNatClampNeg).map (fun i => H.size + 1 + i) → a ∉ L := fun a ha h => by
    obtain ⟨i, -, rfl⟩ := List.mem_map.mp ha
    have := hlt _ h
    omega
  have hP0 : va_P D cl (X ++ va_pl L f) F.heap := hP.kept (fun k9 x hx => hold x.1 ((hP k9 x hx).lt))
  have hP1 : va_P D cl ((X ++ va_pl L f) ++ [(H.size, .inl (cA, n.toNatClampNeg, .inr (.inr (.inr (.inr (fun i => if i < n.toNatClampNeg then some (H.size + 1 + i) else none))))))]) F.heap := hP0.app (fun k9 x hx => by
    have h0 : k9 < 1 := (List.getElem?_eq_some_iff.mp hx).1
    rw [show k9 = 0 by omega] at hx
    cases hx
    exact f2)
  have hP2 : va_P D cl (((X ++ va_pl L f) ++ [(H.size, .inl (cA, n.toNatClampNeg, .inr (.inr (.inr (.inr (fun i => if i < n.toNatClampNeg then some (H.size + 1 + i) else none))))))]) ++ ((List.range n.toNatClampNeg).map (fun i => H.size + 1 + i)).map (fun a => (a, .inl (cy, z)))) F.heap := hP1.app (fun k9 x hx => by
    obtain ⟨a, ha, rfl⟩ := List.mem_map.mp (List.mem_of_getElem? hx)
    obtain ⟨i, hi, rfl⟩ := List.mem_map.mp ha
    exact hrow i (List.mem_range.mp hi))
  have hD2 : va_D A (((X ++ va_pl L f) ++ [(H.size, .inl (cA, n.toNatClampNeg, .inr (.inr (.inr (.inr (fun i => if i < n.toNatClampNeg then some (H.size + 1 + i) else none))))))]) ++ ((List.range n.toNatClampNeg).map (fun i => H.size + 1 + i)).map (fun a => (a, .inl (cy, z)))) := by
    have hD1 := hD.push (e := .inl (cA, n.toNatClampNeg, .inr (.inr (.inr (.inr (fun i => if i < n.toNatClampNeg then some (H.size + 1 + i) else none)))))) hP rfl (hA _ hS.1)
    generalize hW1 : (X ++ va_pl L f) ++ [(H.size, .inl (cA, n.toNatClampNeg, .inr (.inr (.inr (.inr (fun i => if i < n.toNatClampNeg then some (H.size + 1 + i) else none))))))] = W1 at hD1 hP1 ⊢
    have hle : ∀ (k9 : Nat) (x : Nat × va_E), W1[k9]? = some x → x.1 ≤ H.size := fun k9 x hx => by
      rw [← hW1] at hx
      by_cases hl : k9 < (X ++ va_pl L f).length
      · rw [List.getElem?_append_left hl] at hx
        exact Nat.le_of_lt ((hP k9 x hx).lt)
      · rw [List.getElem?_append_right (by omega)] at hx
        have h0 : k9 - (X ++ va_pl L f).length < 1 := (List.getElem?_eq_some_iff.mp hx).1
        rw [show k9 - (X ++ va_pl L f).length = 0 by omega] at hx
        cases hx
        exact Nat.le_refl _
    have hr : ∀ (k9 : Nat) (x : Nat × va_E), (((List.range n.toNatClampNeg).map (fun i => H.size + 1 + i)).map (fun a => ((a, .inl (cy, z)) : Nat × va_E)))[k9]? = some x → x.1 = H.size + 1 + k9 := fun k9 x hx => by
      rw [List.getElem?_map, List.getElem?_map] at hx
      by_cases h9 : k9 < n.toNatClampNeg
      · rw [List.getElem?_range h9] at hx
        cases hx
        rfl
      · have hn0 : (List.range n.toNatClampNeg)[k9]? = none := List.getElem?_eq_none (by rw [List.length_range]; omega)
        rw [hn0] at hx
        cases hx
    refine ⟨fun i j x y hi hj hxy => ?_, fun k9 x hx => ?_⟩
    · by_cases h1 : i < W1.length <;> by_cases h2 : j < W1.length
      · rw [List.getElem?_append_left h1] at hi
        rw [List.getElem?_append_left h2] at hj
        exact hD1.1 i j x y hi hj hxy
      · rw [List.getElem?_append_left h1] at hi
        rw [List.getElem?_append_right (by omega)] at hj
        have := hle _ _ hi
        have := hr _ _ hj
        omega
      · rw [List.getElem?_append_right (by omega)] at hi
        rw [List.getElem?_append_left h2] at hj
        have := hle _ _ hj
        have := hr _ _ hi
        omega
      · rw [List.getElem?_append_right (by omega)] at hi hj
        have := hr _ _ hi
        have := hr _ _ hj
        omega
    · by_cases h1 : k9 < W1.length
      · rw [List.getElem?_append_left h1] at hx
        exact hD1.2 k9 x hx
      · rw [List.getElem?_append_right (by omega)] at hx
        have := hr _ _ hx
        exact hA _ (by have := hS.1; omega)
  have hAr : ArrOfT s cA (.array ty) := fun N9 z9 => by
    obtain ⟨-, k9, hk9, cm9, hkk9⟩ := (hO 0 0 0).1
    exact ⟨(fun q hq => by cases hq), k9, hk9, cm9, hkk9⟩
  have hK2 : va_K D cl (tys ++ [(cA, .array ty)]) s := ⟨hK.1, fun k9 x hx => by
    by_cases hl : k9 < tys.length
    · rw [List.getElem?_append_left hl] at hx
      exact hK.2 k9 x hx
    · rw [List.getElem?_append_right (by omega)] at hx
      have h0 : k9 - tys.length < 1 := (List.getElem?_eq_some_iff.mp hx).1
      rw [show k9 - tys.length = 0 by omega] at hx
      cases hx
      exact ⟨hAr, fA⟩⟩
  obtain ⟨t, a1, b1⟩ := kk H.size (fun i => H.size + 1 + i) cA F.heap (fun i j _ _ h => by have h9 : H.size + 1 + i = H.size + 1 + j := h; omega) hnl hK2 (by rw [← vr_rows hnm]; exact vr_lay hP2) (by rw [← vr_rows hnm]; exact vr_layD hD2) ⟨by rw [f1]; have := hS.1; omega, fun x h1 h2 => (hold x (Nat.lt_of_lt_of_le h1 hS.1)).trans (hS.2.1 x h1 h2), hS.2.2⟩ F rfl X'
  refine ⟨t, step t ?_, b1⟩
  have e : T.heap.size = H.size := by rw [hT]
  rw [e]
  exact a1
end VGM
/-! ===== END ===== -/
end
section
def RX0 : String := "OrderedDisc$Disc"
def TX0 : u_T := fun k => match k with
  | 0 => ("OrderedDisc$Disc", "plate", "[I", true)
  | 1 => ("OrderedDisc$Disc", "now", "[I", true)
  | 2 => ("OrderedDisc$Disc", "sectors", "[I", true)
  | 3 => ("OrderedDisc$Disc", "firsts", "[I", true)
  | 4 => ("OrderedDisc$Disc", "seconds", "[I", true)
  | 5 => ("OrderedDisc$Disc", "epochOf", "[I", true)
  | 6 => ("OrderedDisc$Disc", "entries", "I", false)
  | 7 => ("OrderedDisc$Disc", "writes", "I", false)
  | 8 => ("OrderedDisc$Disc", "epochs", "I", false)
  | 9 => ("OrderedDisc$Disc", "fenced", "Z", false)
  | 10 => ("OrderedDisc$Disc", "touched", "I", false)
  | 11 => ("OrderedDisc$Disc", "writesEver", "I", false)
  | _ => ("OrderedDisc$Disc", "edits", "I", false)
def tyX0 : Nat → FieldType := fun k => match k with
  | 0 => .array .int
  | 1 => .array .int
  | 2 => .array .int
  | 3 => .array .int
  | 4 => .array .int
  | 5 => .array .int
  | 6 => .int
  | 7 => .int
  | 8 => .int
  | 9 => .boolean
  | 10 => .int
  | 11 => .int
  | _ => .int
theorem nmX0 : ∀ a, a < 13 → ∀ b, b < 13 → a ≠ b → (TX0 a).2.1 ≠ (TX0 b).2.1 := by decide +kernel
theorem tyX0_ok : ∀ k, k < 13 → parseFieldDescriptor (TX0 k).2.2.1 = some (tyX0 k) := by decide +kernel
abbrev cX0_init : ByteArray := prog_2_method_1_code
def yX0_init : MethodName := ⟨RX0, "<init>", "()V"⟩
abbrev cX0_hasRoom : ByteArray := prog_2_method_2_code
def yX0_hasRoom : MethodName := ⟨RX0, "hasRoom", "(I)Z"⟩
abbrev cX0_enqueueWrite : ByteArray := prog_2_method_3_code
def yX0_enqueueWrite : MethodName := ⟨RX0, "enqueueWrite", "(III)V"⟩
abbrev cX0_enqueueFence : ByteArray := prog_2_method_4_code
def yX0_enqueueFence : MethodName := ⟨RX0, "enqueueFence", "()V"⟩
abbrev cX0_enqueuePlanned : ByteArray := prog_2_method_5_code
def yX0_enqueuePlanned : MethodName := ⟨RX0, "enqueuePlanned", "(LOrderedDisc$Plan;I)V"⟩
abbrev cX0_settle : ByteArray := prog_2_method_6_code
def yX0_settle : MethodName := ⟨RX0, "settle", "()V"⟩
abbrev cX0_format : ByteArray := prog_2_method_7_code
def yX0_format : MethodName := ⟨RX0, "format", "(LOrderedDisc$Kind;)V"⟩
abbrev cX0_comeUpWith : ByteArray := prog_2_method_8_code
def yX0_comeUpWith : MethodName := ⟨RX0, "comeUpWith", "([I)V"⟩
def RX1 : String := "OrderedDisc$Kind"
def TX1 : u_T := fun k => match k with
  | _ => ("", "", "", false)
def tyX1 : Nat → FieldType := fun k => match k with
  | _ => .int
theorem nmX1 : ∀ a, a < 0 → ∀ b, b < 0 → a ≠ b → (TX1 a).2.1 ≠ (TX1 b).2.1 := by decide +kernel
theorem tyX1_ok : ∀ k, k < 0 → parseFieldDescriptor (TX1 k).2.2.1 = some (tyX1 k) := by decide +kernel
abbrev cX1_init : ByteArray := prog_3_method_1_code
def yX1_init : MethodName := ⟨RX1, "<init>", "()V"⟩
abbrev cX1_planRising : ByteArray := prog_3_method_6_code
def yX1_planRising : MethodName := ⟨RX1, "planRising", "([ILOrderedDisc$Plan;)V"⟩
abbrev cX1_layOut : ByteArray := prog_3_method_7_code
def yX1_layOut : MethodName := ⟨RX1, "layOut", "([I)V"⟩
abbrev cX1_version : ByteArray := prog_3_method_8_code
def yX1_version : MethodName := ⟨RX1, "version", "([I)I"⟩
abbrev cX1_planPut : ByteArray := prog_3_method_9_code
def yX1_planPut : MethodName := ⟨RX1, "planPut", "([IIJLOrderedDisc$Plan;)V"⟩
abbrev cX1_planMove : ByteArray := prog_3_method_10_code
def yX1_planMove : MethodName := ⟨RX1, "planMove", "([IIILOrderedDisc$Plan;)V"⟩
abbrev cX1_valueOf : ByteArray := prog_3_method_11_code
def yX1_valueOf : MethodName := ⟨RX1, "valueOf", "([II)J"⟩
abbrev cX1_valueAt : ByteArray := prog_3_method_12_code
def yX1_valueAt : MethodName := ⟨RX1, "valueAt", "([III)J"⟩
def RX2 : String := "OrderedDisc$Logged"
def TX2 : u_T := fun k => match k with
  | _ => ("", "", "", false)
def tyX2 : Nat → FieldType := fun k => match k with
  | _ => .int
theorem nmX2 : ∀ a, a < 0 → ∀ b, b < 0 → a ≠ b → (TX2 a).2.1 ≠ (TX2 b).2.1 := by decide +kernel
theorem tyX2_ok : ∀ k, k < 0 → parseFieldDescriptor (TX2 k).2.2.1 = some (tyX2 k) := by decide +kernel
abbrev cX2_init : ByteArray := prog_4_method_1_code
def yX2_init : MethodName := ⟨RX2, "<init>", "()V"⟩
abbrev cX2_fences : ByteArray := prog_4_method_2_code
def yX2_fences : MethodName := ⟨RX2, "fences", "()I"⟩
abbrev cX2_homeOfKeys : ByteArray := prog_4_method_3_code
def yX2_homeOfKeys : MethodName := ⟨RX2, "homeOfKeys", "([I)I"⟩
abbrev cX2_allIsWell : ByteArray := prog_4_method_4_code
def yX2_allIsWell : MethodName := ⟨RX2, "allIsWell", "([I)Z"⟩
abbrev cX2_planChange : ByteArray := prog_4_method_5_code
def yX2_planChange : MethodName := ⟨RX2, "planChange", "([IIJIJLOrderedDisc$Plan;)V"⟩
abbrev cX2_planRising : ByteArray := prog_4_method_6_code
def yX2_planRising : MethodName := ⟨RX2, "planRising", "([ILOrderedDisc$Plan;)V"⟩
abbrev cX2_planUnmark : ByteArray := prog_4_method_7_code
def yX2_planUnmark : MethodName := ⟨RX2, "planUnmark", "(LOrderedDisc$Plan;)V"⟩
abbrev cX2_isLogWhole : ByteArray := prog_4_method_8_code
def yX2_isLogWhole : MethodName := ⟨RX2, "isLogWhole", "([I)Z"⟩
abbrev cX2_sum : ByteArray := prog_4_method_9_code
def yX2_sum : MethodName := ⟨RX2, "sum", "(IIIIIII)I"⟩
def RX3 : String := "OrderedDisc$Passage"
def TX3 : u_T := fun k => match k with
  | 0 => ("OrderedDisc$Passage", "disc", "LOrderedDisc$Disc;", true)
  | 1 => ("OrderedDisc$Passage", "states", "LOrderedDisc$States;", true)
  | 2 => ("OrderedDisc$Passage", "acting", "LOrderedDisc$Plan;", true)
  | 3 => ("OrderedDisc$Passage", "rising", "LOrderedDisc$Plan;", true)
  | 4 => ("OrderedDisc$Passage", "due", "[[I", true)
  | 5 => ("OrderedDisc$Passage", "risen", "[I", true)
  | 6 => ("OrderedDisc$Passage", "cameOut", "[I", true)
  | 7 => ("OrderedDisc$Passage", "kind", "LOrderedDisc$Kind;", false)
  | 8 => ("OrderedDisc$Passage", "kept", "LOrderedDisc$Report;", false)
  | 9 => ("OrderedDisc$Passage", "report", "LOrderedDisc$Report;", false)
  | 10 => ("OrderedDisc$Passage", "spared", "I", false)
  | 11 => ("OrderedDisc$Passage", "begun", "I", false)
  | 12 => ("OrderedDisc$Passage", "sure", "I", false)
  | _ => ("OrderedDisc$Passage", "noBad", "Z", false)
def tyX3 : Nat → FieldType := fun k => match k with
  | 0 => .object "OrderedDisc$Disc"
  | 1 => .object "OrderedDisc$States"
  | 2 => .object "OrderedDisc$Plan"
  | 3 => .object "OrderedDisc$Plan"
  | 4 => .array (.array .int)
  | 5 => .array .int
  | 6 => .array .int
  | 7 => .object "OrderedDisc$Kind"
  | 8 => .object "OrderedDisc$Report"
  | 9 => .object "OrderedDisc$Report"
  | 10 => .int
  | 11 => .int
  | 12 => .int
  | _ => .boolean
theorem nmX3 : ∀ a, a < 14 → ∀ b, b < 14 → a ≠ b → (TX3 a).2.1 ≠ (TX3 b).2.1 := by decide +kernel
theorem tyX3_ok : ∀ k, k < 14 → parseFieldDescriptor (TX3 k).2.2.1 = some (tyX3 k) := by decide +kernel
abbrev cX3_init : ByteArray := prog_5_method_1_code
def yX3_init : MethodName := ⟨RX3, "<init>", "()V"⟩
abbrev cX3_walk : ByteArray := prog_5_method_2_code
def yX3_walk : MethodName := ⟨RX3, "walk", "(LOrderedDisc$Kind;ILOrderedDisc$Script;Z)Z"⟩
abbrev cX3_keepReport : ByteArray := prog_5_method_3_code
def yX3_keepReport : MethodName := ⟨RX3, "keepReport", "()V"⟩
abbrev cX3_makeSure : ByteArray := prog_5_method_4_code
def yX3_makeSure : MethodName := ⟨RX3, "makeSure", "()Z"⟩
abbrev cX3_change : ByteArray := prog_5_method_5_code
def yX3_change : MethodName := ⟨RX3, "change", "(LOrderedDisc$Script;I)Z"⟩
abbrev cX3_lookAround : ByteArray := prog_5_method_6_code
def yX3_lookAround : MethodName := ⟨RX3, "lookAround", "()Z"⟩
abbrev cX3_riseFrom : ByteArray := prog_5_method_7_code
def yX3_riseFrom : MethodName := ⟨RX3, "riseFrom", "([I)V"⟩
abbrev cX3_isRight : ByteArray := prog_5_method_8_code
def yX3_isRight : MethodName := ⟨RX3, "isRight", "()Z"⟩
abbrev cX3_keepBad : ByteArray := prog_5_method_9_code
def yX3_keepBad : MethodName := ⟨RX3, "keepBad", "(I)V"⟩
def RX4 : String := "OrderedDisc$Plain"
def TX4 : u_T := fun k => match k with
  | _ => ("", "", "", false)
def tyX4 : Nat → FieldType := fun k => match k with
  | _ => .int
theorem nmX4 : ∀ a, a < 0 → ∀ b, b < 0 → a ≠ b → (TX4 a).2.1 ≠ (TX4 b).2.1 := by decide +kernel
theorem tyX4_ok : ∀ k, k < 0 → parseFieldDescriptor (TX4 k).2.2.1 = some (tyX4 k) := by decide +kernel
abbrev cX4_init : ByteArray := prog_6_method_1_code
def yX4_init : MethodName := ⟨RX4, "<init>", "()V"⟩
abbrev cX4_fences : ByteArray := prog_6_method_2_code
def yX4_fences : MethodName := ⟨RX4, "fences", "()I"⟩
abbrev cX4_homeOfKeys : ByteArray := prog_6_method_3_code
def yX4_homeOfKeys : MethodName := ⟨RX4, "homeOfKeys", "([I)I"⟩
abbrev cX4_allIsWell : ByteArray := prog_6_method_4_code
def yX4_allIsWell : MethodName := ⟨RX4, "allIsWell", "([I)Z"⟩
abbrev cX4_planChange : ByteArray := prog_6_method_5_code
def yX4_planChange : MethodName := ⟨RX4, "planChange", "([IIJIJLOrderedDisc$Plan;)V"⟩
def RX5 : String := "OrderedDisc$Plan"
def TX5 : u_T := fun k => match k with
  | 0 => ("OrderedDisc$Plan", "sectors", "[I", true)
  | 1 => ("OrderedDisc$Plan", "firsts", "[I", true)
  | 2 => ("OrderedDisc$Plan", "seconds", "[I", true)
  | 3 => ("OrderedDisc$Plan", "size", "I", false)
  | _ => ("OrderedDisc$Plan", "sparedFences", "I", false)
def tyX5 : Nat → FieldType := fun k => match k with
  | 0 => .array .int
  | 1 => .array .int
  | 2 => .array .int
  | 3 => .int
  | _ => .int
theorem nmX5 : ∀ a, a < 5 → ∀ b, b < 5 → a ≠ b → (TX5 a).2.1 ≠ (TX5 b).2.1 := by decide +kernel
theorem tyX5_ok : ∀ k, k < 5 → parseFieldDescriptor (TX5 k).2.2.1 = some (tyX5 k) := by decide +kernel
abbrev cX5_init : ByteArray := prog_7_method_1_code
def yX5_init : MethodName := ⟨RX5, "<init>", "()V"⟩
abbrev cX5_begin : ByteArray := prog_7_method_2_code
def yX5_begin : MethodName := ⟨RX5, "begin", "(I)V"⟩
abbrev cX5_planWrite : ByteArray := prog_7_method_3_code
def yX5_planWrite : MethodName := ⟨RX5, "planWrite", "(III)V"⟩
abbrev cX5_planFence : ByteArray := prog_7_method_4_code
def yX5_planFence : MethodName := ⟨RX5, "planFence", "(I)V"⟩
abbrev cX5_isFence : ByteArray := prog_7_method_5_code
def yX5_isFence : MethodName := ⟨RX5, "isFence", "(I)Z"⟩
abbrev cX5_writeInto : ByteArray := prog_7_method_6_code
def yX5_writeInto : MethodName := ⟨RX5, "writeInto", "([I)V"⟩
def RX6 : String := "OrderedDisc$Report"
def TX6 : u_T := fun k => match k with
  | 0 => ("OrderedDisc$Report", "tally", "[I", true)
  | 1 => ("OrderedDisc$Report", "bad", "[I", true)
  | _ => ("OrderedDisc$Report", "rows", "I", false)
def tyX6 : Nat → FieldType := fun k => match k with
  | 0 => .array .int
  | 1 => .array .int
  | _ => .int
theorem nmX6 : ∀ a, a < 3 → ∀ b, b < 3 → a ≠ b → (TX6 a).2.1 ≠ (TX6 b).2.1 := by decide +kernel
theorem tyX6_ok : ∀ k, k < 3 → parseFieldDescriptor (TX6 k).2.2.1 = some (tyX6 k) := by decide +kernel
abbrev cX6_init : ByteArray := prog_8_method_1_code
def yX6_init : MethodName := ⟨RX6, "<init>", "()V"⟩
abbrev cX6_begin : ByteArray := prog_8_method_2_code
def yX6_begin : MethodName := ⟨RX6, "begin", "()V"⟩
def RX7 : String := "OrderedDisc$Script"
def TX7 : u_T := fun k => match k with
  | 0 => ("OrderedDisc$Script", "what", "[I", true)
  | 1 => ("OrderedDisc$Script", "keys", "[I", true)
  | 2 => ("OrderedDisc$Script", "others", "[I", true)
  | 3 => ("OrderedDisc$Script", "values", "[J", true)
  | _ => ("OrderedDisc$Script", "acts", "I", false)
def tyX7 : Nat → FieldType := fun k => match k with
  | 0 => .array .int
  | 1 => .array .int
  | 2 => .array .int
  | 3 => .array .long
  | _ => .int
theorem nmX7 : ∀ a, a < 5 → ∀ b, b < 5 → a ≠ b → (TX7 a).2.1 ≠ (TX7 b).2.1 := by decide +kernel
theorem tyX7_ok : ∀ k, k < 5 → parseFieldDescriptor (TX7 k).2.2.1 = some (tyX7 k) := by decide +kernel
abbrev cX7_init : ByteArray := prog_9_method_1_code
def yX7_init : MethodName := ⟨RX7, "<init>", "()V"⟩
abbrev cX7_append : ByteArray := prog_9_method_2_code
def yX7_append : MethodName := ⟨RX7, "append", "(IIIJ)V"⟩
abbrev cX7_foresee : ByteArray := prog_9_method_3_code
def yX7_foresee : MethodName := ⟨RX7, "foresee", "([[I)V"⟩
def RX8 : String := "OrderedDisc$Shadow"
def TX8 : u_T := fun k => match k with
  | _ => ("", "", "", false)
def tyX8 : Nat → FieldType := fun k => match k with
  | _ => .int
theorem nmX8 : ∀ a, a < 0 → ∀ b, b < 0 → a ≠ b → (TX8 a).2.1 ≠ (TX8 b).2.1 := by decide +kernel
theorem tyX8_ok : ∀ k, k < 0 → parseFieldDescriptor (TX8 k).2.2.1 = some (tyX8 k) := by decide +kernel
abbrev cX8_init : ByteArray := prog_10_method_1_code
def yX8_init : MethodName := ⟨RX8, "<init>", "()V"⟩
abbrev cX8_fences : ByteArray := prog_10_method_2_code
def yX8_fences : MethodName := ⟨RX8, "fences", "()I"⟩
abbrev cX8_homeOfKeys : ByteArray := prog_10_method_3_code
def yX8_homeOfKeys : MethodName := ⟨RX8, "homeOfKeys", "([I)I"⟩
abbrev cX8_allIsWell : ByteArray := prog_10_method_4_code
def yX8_allIsWell : MethodName := ⟨RX8, "allIsWell", "([I)Z"⟩
abbrev cX8_planChange : ByteArray := prog_10_method_5_code
def yX8_planChange : MethodName := ⟨RX8, "planChange", "([IIJIJLOrderedDisc$Plan;)V"⟩
abbrev cX8_layOut : ByteArray := prog_10_method_6_code
def yX8_layOut : MethodName := ⟨RX8, "layOut", "([I)V"⟩
abbrev cX8_version : ByteArray := prog_10_method_7_code
def yX8_version : MethodName := ⟨RX8, "version", "([I)I"⟩
abbrev cX8_homeWith : ByteArray := prog_10_method_8_code
def yX8_homeWith : MethodName := ⟨RX8, "homeWith", "(I)I"⟩
abbrev cX8_isOdd : ByteArray := prog_10_method_9_code
def yX8_isOdd : MethodName := ⟨RX8, "isOdd", "(I)Z"⟩
abbrev cX8_seal : ByteArray := prog_10_method_10_code
def yX8_seal : MethodName := ⟨RX8, "seal", "(I)I"⟩
def RX9 : String := "OrderedDisc$States"
def TX9 : u_T := fun k => match k with
  | 0 => ("OrderedDisc$States", "content", "[I", true)
  | 1 => ("OrderedDisc$States", "open", "[I", true)
  | 2 => ("OrderedDisc$States", "start", "[I", true)
  | 3 => ("OrderedDisc$States", "ints", "[I", true)
  | 4 => ("OrderedDisc$States", "leavers", "[I", true)
  | 5 => ("OrderedDisc$States", "alone", "[I", true)
  | 6 => ("OrderedDisc$States", "picked", "[I", true)
  | 7 => ("OrderedDisc$States", "common", "[I", true)
  | 8 => ("OrderedDisc$States", "levels", "I", false)
  | 9 => ("OrderedDisc$States", "end", "I", false)
  | 10 => ("OrderedDisc$States", "epochs", "I", false)
  | 11 => ("OrderedDisc$States", "count", "I", false)
  | 12 => ("OrderedDisc$States", "place", "I", false)
  | _ => ("OrderedDisc$States", "seenEdits", "I", false)
def tyX9 : Nat → FieldType := fun k => match k with
  | 0 => .array .int
  | 1 => .array .int
  | 2 => .array .int
  | 3 => .array .int
  | 4 => .array .int
  | 5 => .array .int
  | 6 => .array .int
  | 7 => .array .int
  | 8 => .int
  | 9 => .int
  | 10 => .int
  | 11 => .int
  | 12 => .int
  | _ => .int
theorem nmX9 : ∀ a, a < 14 → ∀ b, b < 14 → a ≠ b → (TX9 a).2.1 ≠ (TX9 b).2.1 := by decide +kernel
theorem tyX9_ok : ∀ k, k < 14 → parseFieldDescriptor (TX9 k).2.2.1 = some (tyX9 k) := by decide +kernel
abbrev cX9_init : ByteArray := prog_11_method_1_code
def yX9_init : MethodName := ⟨RX9, "<init>", "()V"⟩
abbrev cX9_refresh : ByteArray := prog_11_method_2_code
def yX9_refresh : MethodName := ⟨RX9, "refresh", "(LOrderedDisc$Disc;)V"⟩
abbrev cX9_gather : ByteArray := prog_11_method_3_code
def yX9_gather : MethodName := ⟨RX9, "gather", "(LOrderedDisc$Disc;I)V"⟩
abbrev cX9_allow : ByteArray := prog_11_method_4_code
def yX9_allow : MethodName := ⟨RX9, "allow", "(II)V"⟩
abbrev cX9_span : ByteArray := prog_11_method_5_code
def yX9_span : MethodName := ⟨RX9, "span", "(II)I"⟩
abbrev cX9_countAlone : ByteArray := prog_11_method_6_code
def yX9_countAlone : MethodName := ⟨RX9, "countAlone", "()V"⟩
abbrev cX9_choicesOf : ByteArray := prog_11_method_7_code
def yX9_choicesOf : MethodName := ⟨RX9, "choicesOf", "(II)I"⟩
abbrev cX9_countFrom : ByteArray := prog_11_method_8_code
def yX9_countFrom : MethodName := ⟨RX9, "countFrom", "(II)I"⟩
abbrev cX9_seek : ByteArray := prog_11_method_9_code
def yX9_seek : MethodName := ⟨RX9, "seek", "(I)V"⟩
abbrev cX9_advance : ByteArray := prog_11_method_10_code
def yX9_advance : MethodName := ⟨RX9, "advance", "()V"⟩
abbrev cX9_step : ByteArray := prog_11_method_11_code
def yX9_step : MethodName := ⟨RX9, "step", "(I)Z"⟩
abbrev cX9_descend : ByteArray := prog_11_method_12_code
def yX9_descend : MethodName := ⟨RX9, "descend", "(I)V"⟩
abbrev cX9_pick : ByteArray := prog_11_method_13_code
def yX9_pick : MethodName := ⟨RX9, "pick", "(II)V"⟩
def RX10 : String := "OrderedDisc"
def TX10 : u_T := fun k => match k with
  | 0 => ("OrderedDisc", "disc", "LOrderedDisc$Disc;", true)
  | 1 => ("OrderedDisc", "fallen", "LOrderedDisc$States;", true)
  | 2 => ("OrderedDisc", "plan", "LOrderedDisc$Plan;", true)
  | 3 => ("OrderedDisc", "script", "LOrderedDisc$Script;", true)
  | 4 => ("OrderedDisc", "passage", "LOrderedDisc$Passage;", true)
  | 5 => ("OrderedDisc", "kinds", "[LOrderedDisc$Kind;", true)
  | 6 => ("OrderedDisc", "spared", "[I", true)
  | 7 => ("OrderedDisc", "refusals", "[I", true)
  | 8 => ("OrderedDisc", "storeKind", "I", false)
  | _ => ("OrderedDisc", "falls", "I", false)
def tyX10 : Nat → FieldType := fun k => match k with
  | 0 => .object "OrderedDisc$Disc"
  | 1 => .object "OrderedDisc$States"
  | 2 => .object "OrderedDisc$Plan"
  | 3 => .object "OrderedDisc$Script"
  | 4 => .object "OrderedDisc$Passage"
  | 5 => .array (.object "OrderedDisc$Kind")
  | 6 => .array .int
  | 7 => .array .int
  | 8 => .int
  | _ => .int
theorem nmX10 : ∀ a, a < 10 → ∀ b, b < 10 → a ≠ b → (TX10 a).2.1 ≠ (TX10 b).2.1 := by decide +kernel
theorem tyX10_ok : ∀ k, k < 10 → parseFieldDescriptor (TX10 k).2.2.1 = some (tyX10 k) := by decide +kernel
abbrev cX10_init : ByteArray := prog_1_method_1_code
def yX10_init : MethodName := ⟨RX10, "<init>", "()V"⟩
abbrev cX10_write : ByteArray := prog_1_method_2_code
def yX10_write : MethodName := ⟨RX10, "write", "(III)I"⟩
abbrev cX10_fence : ByteArray := prog_1_method_3_code
def yX10_fence : MethodName := ⟨RX10, "fence", "()I"⟩
abbrev cX10_flush : ByteArray := prog_1_method_4_code
def yX10_flush : MethodName := ⟨RX10, "flush", "()I"⟩
abbrev cX10_read : ByteArray := prog_1_method_5_code
def yX10_read : MethodName := ⟨RX10, "read", "(II)I"⟩
abbrev cX10_plate : ByteArray := prog_1_method_6_code
def yX10_plate : MethodName := ⟨RX10, "plate", "(II)I"⟩
abbrev cX10_entry : ByteArray := prog_1_method_7_code
def yX10_entry : MethodName := ⟨RX10, "entry", "(II)I"⟩
abbrev cX10_states : ByteArray := prog_1_method_8_code
def yX10_states : MethodName := ⟨RX10, "states", "()I"⟩
abbrev cX10_state : ByteArray := prog_1_method_9_code
def yX10_state : MethodName := ⟨RX10, "state", "(III)I"⟩
abbrev cX10_fall : ByteArray := prog_1_method_10_code
def yX10_fall : MethodName := ⟨RX10, "fall", "(I)I"⟩
abbrev cX10_store : ByteArray := prog_1_method_11_code
def yX10_store : MethodName := ⟨RX10, "store", "(I)I"⟩
abbrev cX10_put : ByteArray := prog_1_method_12_code
def yX10_put : MethodName := ⟨RX10, "put", "(IJ)I"⟩
abbrev cX10_move : ByteArray := prog_1_method_13_code
def yX10_move : MethodName := ⟨RX10, "move", "(II)I"⟩
abbrev cX10_get : ByteArray := prog_1_method_14_code
def yX10_get : MethodName := ⟨RX10, "get", "(I)J"⟩
abbrev cX10_rise : ByteArray := prog_1_method_15_code
def yX10_rise : MethodName := ⟨RX10, "rise", "()I"⟩
abbrev cX10_isSound : ByteArray := prog_1_method_16_code
def yX10_isSound : MethodName := ⟨RX10, "isSound", "()Z"⟩
abbrev cX10_addPut : ByteArray := prog_1_method_17_code
def yX10_addPut : MethodName := ⟨RX10, "addPut", "(IJ)I"⟩
abbrev cX10_addMove : ByteArray := prog_1_method_18_code
def yX10_addMove : MethodName := ⟨RX10, "addMove", "(II)I"⟩
abbrev cX10_addSure : ByteArray := prog_1_method_19_code
def yX10_addSure : MethodName := ⟨RX10, "addSure", "()I"⟩
abbrev cX10_clear : ByteArray := prog_1_method_20_code
def yX10_clear : MethodName := ⟨RX10, "clear", "()I"⟩
abbrev cX10_through : ByteArray := prog_1_method_21_code
def yX10_through : MethodName := ⟨RX10, "through", "(I)I"⟩
abbrev cX10_gone : ByteArray := prog_1_method_22_code
def yX10_gone : MethodName := ⟨RX10, "gone", "(I)I"⟩
abbrev cX10_bad : ByteArray := prog_1_method_23_code
def yX10_bad : MethodName := ⟨RX10, "bad", "(II)I"⟩
abbrev cX10_spare : ByteArray := prog_1_method_24_code
def yX10_spare : MethodName := ⟨RX10, "spare", "(IIZ)Z"⟩
abbrev cX10_least : ByteArray := prog_1_method_25_code
def yX10_least : MethodName := ⟨RX10, "least", "(I)I"⟩
abbrev cX10_digest : ByteArray := prog_1_method_26_code
def yX10_digest : MethodName := ⟨RX10, "digest", "(I)I"⟩
abbrev cX10_status : ByteArray := prog_1_method_27_code
def yX10_status : MethodName := ⟨RX10, "status", "(I)I"⟩
abbrev cX10_refuse : ByteArray := prog_1_method_28_code
def yX10_refuse : MethodName := ⟨RX10, "refuse", "(I)I"⟩
abbrev cX10_carryOut : ByteArray := prog_1_method_29_code
def yX10_carryOut : MethodName := ⟨RX10, "carryOut", "()I"⟩
abbrev cX10_addAct : ByteArray := prog_1_method_30_code
def yX10_addAct : MethodName := ⟨RX10, "addAct", "(IIIJ)I"⟩
abbrev cX10_hasStore : ByteArray := prog_1_method_31_code
def yX10_hasStore : MethodName := ⟨RX10, "hasStore", "()Z"⟩
abbrev cX10_isKind : ByteArray := prog_1_method_32_code
def yX10_isKind : MethodName := ⟨RX10, "isKind", "(I)Z"⟩
abbrev cX10_isSector : ByteArray := prog_1_method_33_code
def yX10_isSector : MethodName := ⟨RX10, "isSector", "(I)Z"⟩
abbrev cX10_isPart : ByteArray := prog_1_method_34_code
def yX10_isPart : MethodName := ⟨RX10, "isPart", "(II)Z"⟩
abbrev cX10_isKey : ByteArray := prog_1_method_35_code
def yX10_isKey : MethodName := ⟨RX10, "isKey", "(I)Z"⟩
abbrev cX10_areTwoKeys : ByteArray := prog_1_method_36_code
def yX10_areTwoKeys : MethodName := ⟨RX10, "areTwoKeys", "(II)Z"⟩
abbrev cX10_high : ByteArray := prog_1_method_37_code
def yX10_high : MethodName := ⟨RX10, "high", "(J)I"⟩
abbrev cX10_low : ByteArray := prog_1_method_38_code
def yX10_low : MethodName := ⟨RX10, "low", "(J)I"⟩
def RX11 : String := "OrderedDiscModel"
def TX11 : u_T := fun k => match k with
  | 0 => ("OrderedDiscModel", "thrown", "I", false)
  | 1 => ("OrderedDiscModel", "plate", "[I", true)
  | 2 => ("OrderedDiscModel", "sector", "[I", true)
  | 3 => ("OrderedDiscModel", "one", "[I", true)
  | 4 => ("OrderedDiscModel", "two", "[I", true)
  | 5 => ("OrderedDiscModel", "many", "[I", true)
  | 6 => ("OrderedDiscModel", "kind", "I", false)
  | 7 => ("OrderedDiscModel", "spared", "[Z", true)
  | 8 => ("OrderedDiscModel", "writes", "I", false)
  | 9 => ("OrderedDiscModel", "falls", "I", false)
  | 10 => ("OrderedDiscModel", "refused", "[I", true)
  | 11 => ("OrderedDiscModel", "stateMany", "I", false)
  | 12 => ("OrderedDiscModel", "states", "[I", true)
  | 13 => ("OrderedDiscModel", "ordered", "[I", true)
  | 14 => ("OrderedDiscModel", "base", "[I", true)
  | 15 => ("OrderedDiscModel", "choices", "[I", true)
  | 16 => ("OrderedDiscModel", "choiceMany", "[I", true)
  | 17 => ("OrderedDiscModel", "choiceNow", "[I", true)
  | 18 => ("OrderedDiscModel", "planSector", "[I", true)
  | 19 => ("OrderedDiscModel", "planOne", "[I", true)
  | 20 => ("OrderedDiscModel", "planTwo", "[I", true)
  | 21 => ("OrderedDiscModel", "planned", "I", false)
  | 22 => ("OrderedDiscModel", "acts", "I", false)
  | 23 => ("OrderedDiscModel", "act", "[I", true)
  | 24 => ("OrderedDiscModel", "actKey", "[I", true)
  | 25 => ("OrderedDiscModel", "actOther", "[I", true)
  | 26 => ("OrderedDiscModel", "actValue", "[J", true)
  | 27 => ("OrderedDiscModel", "due", "[J", true)
  | 28 => ("OrderedDiscModel", "going", "[I", true)
  | 29 => ("OrderedDiscModel", "gone", "[I", true)
  | 30 => ("OrderedDiscModel", "goingBad", "[I", true)
  | 31 => ("OrderedDiscModel", "goneBad", "[I", true)
  | 32 => ("OrderedDiscModel", "sure", "I", false)
  | 33 => ("OrderedDiscModel", "begun", "I", false)
  | 34 => ("OrderedDiscModel", "came", "[J", true)
  | 35 => ("OrderedDiscModel", "heldSector", "[I", true)
  | 36 => ("OrderedDiscModel", "heldOne", "[I", true)
  | _ => ("OrderedDiscModel", "heldTwo", "[I", true)
def tyX11 : Nat → FieldType := fun k => match k with
  | 0 => .int
  | 1 => .array .int
  | 2 => .array .int
  | 3 => .array .int
  | 4 => .array .int
  | 5 => .array .int
  | 6 => .int
  | 7 => .array .boolean
  | 8 => .int
  | 9 => .int
  | 10 => .array .int
  | 11 => .int
  | 12 => .array .int
  | 13 => .array .int
  | 14 => .array .int
  | 15 => .array .int
  | 16 => .array .int
  | 17 => .array .int
  | 18 => .array .int
  | 19 => .array .int
  | 20 => .array .int
  | 21 => .int
  | 22 => .int
  | 23 => .array .int
  | 24 => .array .int
  | 25 => .array .int
  | 26 => .array .long
  | 27 => .array .long
  | 28 => .array .int
  | 29 => .array .int
  | 30 => .array .int
  | 31 => .array .int
  | 32 => .int
  | 33 => .int
  | 34 => .array .long
  | 35 => .array .int
  | 36 => .array .int
  | _ => .array .int
theorem nmX11 : ∀ a, a < 38 → ∀ b, b < 38 → a ≠ b → (TX11 a).2.1 ≠ (TX11 b).2.1 := by decide +kernel
theorem tyX11_ok : ∀ k, k < 38 → parseFieldDescriptor (TX11 k).2.2.1 = some (tyX11 k) := by decide +kernel
abbrev cX11_init : ByteArray := prog_13_method_1_code
def yX11_init : MethodName := ⟨RX11, "<init>", "()V"⟩
abbrev cX11_thrown : ByteArray := prog_13_method_2_code
def yX11_thrown : MethodName := ⟨RX11, "thrown", "()I"⟩
abbrev cX11_in : ByteArray := prog_13_method_3_code
def yX11_in : MethodName := ⟨RX11, "in", "(III)Z"⟩
abbrev cX11_refuse : ByteArray := prog_13_method_4_code
def yX11_refuse : MethodName := ⟨RX11, "refuse", "(I)I"⟩
abbrev cX11_readOf : ByteArray := prog_13_method_5_code
def yX11_readOf : MethodName := ⟨RX11, "readOf", "(III)I"⟩
abbrev cX11_push : ByteArray := prog_13_method_6_code
def yX11_push : MethodName := ⟨RX11, "push", "(IIII)Z"⟩
abbrev cX11_flushOf : ByteArray := prog_13_method_7_code
def yX11_flushOf : MethodName := ⟨RX11, "flushOf", "(I)I"⟩
abbrev cX11_write : ByteArray := prog_13_method_8_code
def yX11_write : MethodName := ⟨RX11, "write", "(III)I"⟩
abbrev cX11_fence : ByteArray := prog_13_method_9_code
def yX11_fence : MethodName := ⟨RX11, "fence", "()I"⟩
abbrev cX11_flush : ByteArray := prog_13_method_10_code
def yX11_flush : MethodName := ⟨RX11, "flush", "()I"⟩
abbrev cX11_isPart : ByteArray := prog_13_method_11_code
def yX11_isPart : MethodName := ⟨RX11, "isPart", "(II)Z"⟩
abbrev cX11_read : ByteArray := prog_13_method_12_code
def yX11_read : MethodName := ⟨RX11, "read", "(II)I"⟩
abbrev cX11_plate : ByteArray := prog_13_method_13_code
def yX11_plate : MethodName := ⟨RX11, "plate", "(II)I"⟩
abbrev cX11_epochOf : ByteArray := prog_13_method_14_code
def yX11_epochOf : MethodName := ⟨RX11, "epochOf", "(II)I"⟩
abbrev cX11_entry : ByteArray := prog_13_method_15_code
def yX11_entry : MethodName := ⟨RX11, "entry", "(II)I"⟩
abbrev cX11_writeEpoch : ByteArray := prog_13_method_16_code
def yX11_writeEpoch : MethodName := ⟨RX11, "writeEpoch", "(II)I"⟩
abbrev cX11_mayBe : ByteArray := prog_13_method_17_code
def yX11_mayBe : MethodName := ⟨RX11, "mayBe", "(II)V"⟩
abbrev cX11_compare : ByteArray := prog_13_method_18_code
def yX11_compare : MethodName := ⟨RX11, "compare", "(I)I"⟩
abbrev cX11_keepState : ByteArray := prog_13_method_19_code
def yX11_keepState : MethodName := ⟨RX11, "keepState", "()Z"⟩
abbrev cX11_keepAll : ByteArray := prog_13_method_20_code
def yX11_keepAll : MethodName := ⟨RX11, "keepAll", "()Z"⟩
abbrev cX11_onlyBase : ByteArray := prog_13_method_21_code
def yX11_onlyBase : MethodName := ⟨RX11, "onlyBase", "()V"⟩
abbrev cX11_findStates : ByteArray := prog_13_method_22_code
def yX11_findStates : MethodName := ⟨RX11, "findStates", "(I)Z"⟩
abbrev cX11_states : ByteArray := prog_13_method_23_code
def yX11_states : MethodName := ⟨RX11, "states", "()I"⟩
abbrev cX11_state : ByteArray := prog_13_method_24_code
def yX11_state : MethodName := ⟨RX11, "state", "(III)I"⟩
abbrev cX11_fall : ByteArray := prog_13_method_25_code
def yX11_fall : MethodName := ⟨RX11, "fall", "(I)I"⟩
abbrev cX11_fencesOf : ByteArray := prog_13_method_26_code
def yX11_fencesOf : MethodName := ⟨RX11, "fencesOf", "(I)I"⟩
abbrev cX11_format : ByteArray := prog_13_method_27_code
def yX11_format : MethodName := ⟨RX11, "format", "(II)V"⟩
abbrev cX11_store : ByteArray := prog_13_method_28_code
def yX11_store : MethodName := ⟨RX11, "store", "(I)I"⟩
abbrev cX11_high : ByteArray := prog_13_method_29_code
def yX11_high : MethodName := ⟨RX11, "high", "(J)I"⟩
abbrev cX11_joined : ByteArray := prog_13_method_30_code
def yX11_joined : MethodName := ⟨RX11, "joined", "(II)J"⟩
abbrev cX11_root : ByteArray := prog_13_method_31_code
def yX11_root : MethodName := ⟨RX11, "root", "(II)I"⟩
abbrev cX11_version : ByteArray := prog_13_method_32_code
def yX11_version : MethodName := ⟨RX11, "version", "(I)I"⟩
abbrev cX11_placeOf : ByteArray := prog_13_method_33_code
def yX11_placeOf : MethodName := ⟨RX11, "placeOf", "(II)I"⟩
abbrev cX11_keyOf : ByteArray := prog_13_method_34_code
def yX11_keyOf : MethodName := ⟨RX11, "keyOf", "(III)J"⟩
abbrev cX11_sum : ByteArray := prog_13_method_35_code
def yX11_sum : MethodName := ⟨RX11, "sum", "(IIIIIII)I"⟩
abbrev cX11_plan : ByteArray := prog_13_method_36_code
def yX11_plan : MethodName := ⟨RX11, "plan", "(III)V"⟩
abbrev cX11_planFence : ByteArray := prog_13_method_37_code
def yX11_planFence : MethodName := ⟨RX11, "planFence", "(II)V"⟩
abbrev cX11_planEnd : ByteArray := prog_13_method_38_code
def yX11_planEnd : MethodName := ⟨RX11, "planEnd", "(I)V"⟩
abbrev cX11_planChange : ByteArray := prog_13_method_39_code
def yX11_planChange : MethodName := ⟨RX11, "planChange", "(IIIJIJ)V"⟩
abbrev cX11_planRise : ByteArray := prog_13_method_40_code
def yX11_planRise : MethodName := ⟨RX11, "planRise", "(II)V"⟩
abbrev cX11_takePlan : ByteArray := prog_13_method_41_code
def yX11_takePlan : MethodName := ⟨RX11, "takePlan", "()I"⟩
abbrev cX11_put : ByteArray := prog_13_method_42_code
def yX11_put : MethodName := ⟨RX11, "put", "(IJ)I"⟩
abbrev cX11_move : ByteArray := prog_13_method_43_code
def yX11_move : MethodName := ⟨RX11, "move", "(II)I"⟩
abbrev cX11_get : ByteArray := prog_13_method_44_code
def yX11_get : MethodName := ⟨RX11, "get", "(I)J"⟩
abbrev cX11_rise : ByteArray := prog_13_method_45_code
def yX11_rise : MethodName := ⟨RX11, "rise", "()I"⟩
abbrev cX11_isSound : ByteArray := prog_13_method_46_code
def yX11_isSound : MethodName := ⟨RX11, "isSound", "()Z"⟩
abbrev cX11_add : ByteArray := prog_13_method_47_code
def yX11_add : MethodName := ⟨RX11, "add", "(IIIJ)I"⟩
abbrev cX11_addPut : ByteArray := prog_13_method_48_code
def yX11_addPut : MethodName := ⟨RX11, "addPut", "(IJ)I"⟩
abbrev cX11_addMove : ByteArray := prog_13_method_49_code
def yX11_addMove : MethodName := ⟨RX11, "addMove", "(II)I"⟩
abbrev cX11_addSure : ByteArray := prog_13_method_50_code
def yX11_addSure : MethodName := ⟨RX11, "addSure", "()I"⟩
abbrev cX11_clear : ByteArray := prog_13_method_51_code
def yX11_clear : MethodName := ⟨RX11, "clear", "()I"⟩
abbrev cX11_findDue : ByteArray := prog_13_method_52_code
def yX11_findDue : MethodName := ⟨RX11, "findDue", "()V"⟩
abbrev cX11_isRight : ByteArray := prog_13_method_53_code
def yX11_isRight : MethodName := ⟨RX11, "isRight", "()Z"⟩
abbrev cX11_moment : ByteArray := prog_13_method_54_code
def yX11_moment : MethodName := ⟨RX11, "moment", "(I)Z"⟩
abbrev cX11_goThroughAct : ByteArray := prog_13_method_55_code
def yX11_goThroughAct : MethodName := ⟨RX11, "goThroughAct", "(II)Z"⟩
abbrev cX11_goThrough : ByteArray := prog_13_method_56_code
def yX11_goThrough : MethodName := ⟨RX11, "goThrough", "(I)Z"⟩
abbrev cX11_through : ByteArray := prog_13_method_57_code
def yX11_through : MethodName := ⟨RX11, "through", "(I)I"⟩
abbrev cX11_gone : ByteArray := prog_13_method_58_code
def yX11_gone : MethodName := ⟨RX11, "gone", "(I)I"⟩
abbrev cX11_bad : ByteArray := prog_13_method_59_code
def yX11_bad : MethodName := ⟨RX11, "bad", "(II)I"⟩
abbrev cX11_spare : ByteArray := prog_13_method_60_code
def yX11_spare : MethodName := ⟨RX11, "spare", "(IIZ)Z"⟩
abbrev cX11_least : ByteArray := prog_13_method_61_code
def yX11_least : MethodName := ⟨RX11, "least", "(I)I"⟩
abbrev cX11_digest : ByteArray := prog_13_method_62_code
def yX11_digest : MethodName := ⟨RX11, "digest", "(I)I"⟩
abbrev cX11_status : ByteArray := prog_13_method_63_code
def yX11_status : MethodName := ⟨RX11, "status", "(I)I"⟩
def RJ6 : String := "java/lang/Integer"
def TJ6 : u_T := fun k => match k with
  | _ => ("", "", "", false)
def tyJ6 : Nat → FieldType := fun k => match k with
  | _ => .int
theorem nmJ6 : ∀ a, a < 0 → ∀ b, b < 0 → a ≠ b → (TJ6 a).2.1 ≠ (TJ6 b).2.1 := by decide +kernel
theorem tyJ6_ok : ∀ k, k < 0 → parseFieldDescriptor (TJ6 k).2.2.1 = some (tyJ6 k) := by decide +kernel
abbrev cJ6_bitCount_0f7a4 : ByteArray := prog_17_method_49_code
def yJ6_bitCount_0f7a4 : MethodName := ⟨RJ6, "bitCount", "(I)I"⟩
def RJ9 : String := "java/lang/Math"
def TJ9 : u_T := fun k => match k with
  | _ => ("", "", "", false)
def tyJ9 : Nat → FieldType := fun k => match k with
  | _ => .int
theorem nmJ9 : ∀ a, a < 0 → ∀ b, b < 0 → a ≠ b → (TJ9 a).2.1 ≠ (TJ9 b).2.1 := by decide +kernel
theorem tyJ9_ok : ∀ k, k < 0 → parseFieldDescriptor (TJ9 k).2.2.1 = some (tyJ9 k) := by decide +kernel
abbrev cJ9_max_7cf53 : ByteArray := prog_18_method_65_code
def yJ9_max_7cf53 : MethodName := ⟨RJ9, "max", "(II)I"⟩
abbrev cJ9_min_7cf53 : ByteArray := prog_18_method_69_code
def yJ9_min_7cf53 : MethodName := ⟨RJ9, "min", "(II)I"⟩
def RJ0 : String := "java/lang/String"
def TJ0 : u_T := fun k => match k with
  | _ => ("", "", "", false)
def tyJ0 : Nat → FieldType := fun k => match k with
  | _ => .int
theorem nmJ0 : ∀ a, a < 0 → ∀ b, b < 0 → a ≠ b → (TJ0 a).2.1 ≠ (TJ0 b).2.1 := by decide +kernel
theorem tyJ0_ok : ∀ k, k < 0 → parseFieldDescriptor (TJ0 k).2.2.1 = some (tyJ0 k) := by decide +kernel
def RJ10 : String := "java/lang/System"
def TJ10 : u_T := fun k => match k with
  | _ => ("", "", "", false)
def tyJ10 : Nat → FieldType := fun k => match k with
  | _ => .int
theorem nmJ10 : ∀ a, a < 0 → ∀ b, b < 0 → a ≠ b → (TJ10 a).2.1 ≠ (TJ10 b).2.1 := by decide +kernel
theorem tyJ10_ok : ∀ k, k < 0 → parseFieldDescriptor (TJ10 k).2.2.1 = some (tyJ10 k) := by decide +kernel
def RJ7 : String := "java/util/Arrays"
def TJ7 : u_T := fun k => match k with
  | _ => ("", "", "", false)
def tyJ7 : Nat → FieldType := fun k => match k with
  | _ => .int
theorem nmJ7 : ∀ a, a < 0 → ∀ b, b < 0 → a ≠ b → (TJ7 a).2.1 ≠ (TJ7 b).2.1 := by decide +kernel
theorem tyJ7_ok : ∀ k, k < 0 → parseFieldDescriptor (TJ7 k).2.2.1 = some (tyJ7 k) := by decide +kernel
abbrev cJ7_fill_53178 : ByteArray := prog_23_method_103_code
def yJ7_fill_53178 : MethodName := ⟨RJ7, "fill", "([II)V"⟩
def RL : String := "OrderedDiscLaw"
abbrev cL_read : ByteArray := method_3_code
def yL_read : MethodName := ⟨RL, "read", "(LOrderedDisc;II[J)I"⟩
abbrev cL_plate : ByteArray := method_4_code
def yL_plate : MethodName := ⟨RL, "plate", "(LOrderedDisc;II[J)I"⟩
abbrev cL_state : ByteArray := method_5_code
def yL_state : MethodName := ⟨RL, "state", "(LOrderedDisc;III[J)I"⟩
abbrev cL_get : ByteArray := method_6_code
def yL_get : MethodName := ⟨RL, "get", "(LOrderedDisc;I[J)I"⟩
abbrev cL_law : ByteArray := code
def yL_law : MethodName := ⟨RL, "law", "([I)Z"⟩
abbrev vwCl : List vw_C := [(RX0, TX0, 13), (RX2, TX2, 0), (RX3, TX3, 14), (RX4, TX4, 0), (RX5, TX5, 5), (RX6, TX6, 3), (RX7, TX7, 5), (RX8, TX8, 0), (RX9, TX9, 14), (RX10, TX10, 10), (RX11, TX11, 38)]
end
section
/-! ABSTRACT HEAPS: a cell is known by its place (0, 1, ..); ad gives a place its address -/
abbrev sE : Type := (Nat × vp_A) ⊕ (Nat × List Value)
abbrev sH : Type := Nat × (Nat → sE)
def sv (ad : Nat → Nat) (v : Value) : Value := match v with
  | .ref k => .ref (ad k)
  | v => v
def sa (ad : Nat → Nat) (a : vp_A) : vp_A := match a with
  | (n, .inr (.inr (.inr (.inr f)))) => (n, .inr (.inr (.inr (.inr (fun j => (f j).map ad)))))
  | a => a
def se (dA : Nat → ClassId) (ad : Nat → Nat) (c : sE) : va_E := match c with
  | .inl x => .inl (dA x.1, sa ad x.2)
  | .inr x => .inr (x.1, x.2.map (sv ad))
def sw (dA : Nat → ClassId) (ad : Nat → Nat) (h : sH) : va_W := (List.range h.1).map (fun k => (ad k, se dA ad (h.2 k)))
theorem sw_at {dA : Nat → ClassId} {ad : Nat → Nat} {h : sH} {a : Nat} (ha : a < h.1) : (sw dA ad h)[a]? = some (ad a, se dA ad (h.2 a)) := by
  simp [sw, ha]
theorem sw_set {dA : Nat → ClassId} {ad : Nat → Nat} {h : sH} {a : Nat} {c : sE} (ha : a < h.1) : (sw dA ad h).set a (ad a, se dA ad c) = sw dA ad (h.1, va_up h.2 a c) := by
  apply List.ext_getElem?
  intro i
  by_cases hi : i < h.1
  · by_cases e : i = a
    · subst e
      rw [List.getElem?_set_self (by simpa [sw] using ha), sw_at (h := (h.1, va_up h.2 i c)) ha]
      simp [va_up]
    · rw [List.getElem?_set_ne (fun q => e q.symm), sw_at hi, sw_at (h := (h.1, va_up h.2 a c)) hi]
      simp [va_up, e]
  · rw [List.getElem?_eq_none (by simp [sw]; omega), List.getElem?_eq_none (by simp [sw]; omega)]
theorem sv_map_set {ad : Nat → Nat} {fs : List Value} {k : Nat} {v : Value} : (fs.map (sv ad)).set k (sv ad v) = (fs.set k v).map (sv ad) := by
  rw [List.map_set]
theorem sv_at {ad : Nat → Nat} {fs : List Value} {k : Nat} {v : Value} (h : fs[k]? = some v) : (fs.map (sv ad))[k]? = some (sv ad v) := by
  rw [List.getElem?_map, h]; rfl
/-! locals -/
def slF (ad : Nat → Nat) : Nat → List (Option Value) → List (Nat × Value)
  | _, [] => []
  | i, none :: r => slF ad (i + 1) r
  | i, some v :: r => (i, sv ad v) :: slF ad (i + 1) r
theorem slF_mem {ad : Nat → Nat} {q : Nat × Value} : ∀ (ls : List (Option Value)) (i : Nat), q ∈ slF ad i ls ↔ ∃ (j : Nat) (v : Value), ls[j]? = some (some v) ∧ q = (i + j, sv ad v)
  | [], i => by simp [slF]
  | none :: r, i => by
    rw [slF, slF_mem r (i + 1)]
    constructor
    · rintro ⟨j, v, h1, h2⟩
      exact ⟨j + 1, v, by simpa using h1, by rw [h2]; congr 1; omega⟩
    · rintro ⟨j, v, h1, h2⟩
      cases j with
      | zero => simp at h1
      | succ j => exact ⟨j, v, by simpa using h1, by rw [h2]; congr 1; omega⟩
  | some w :: r, i => by
    rw [slF, List.mem_cons, slF_mem r (i + 1)]
    constructor
    · rintro (h | ⟨j, v, h1, h2⟩)
      · exact ⟨0, w, by simp, by rw [h]; rfl⟩
      · exact ⟨j + 1, v, by simpa using h1, by rw [h2]; congr 1; omega⟩
    · rintro ⟨j, v, h1, h2⟩
      cases j with
      | zero =>
        simp at h1
        subst h1
        exact Or.inl h2
      | succ j => exact Or.inr ⟨j, v, by simpa using h1, by rw [h2]; congr 1; omega⟩
def sl (ad : Nat → Nat) (ls : List (Option Value)) : List (Nat × Value) := slF ad 0 ls
theorem sl_mem {ad : Nat → Nat} {ls : List (Option Value)} {q : Nat × Value} : q ∈ sl ad ls ↔ ∃ v : Value, ls[q.1]? = some (some v) ∧ q.2 = sv ad v := by
  rw [sl, slF_mem]
  constructor
  · rintro ⟨j, v, h1, rfl⟩
    exact ⟨v, by simpa using h1, rfl⟩
  · rintro ⟨v, h1, h2⟩
    exact ⟨q.1, v, h1, by rw [← h2]; simp⟩
theorem sl_at {ad : Nat → Nat} {ls : List (Option Value)} {lc : Array Slot} {nL i : Nat} {v : Value} (h : lv_has lc nL (sl ad ls)) (hi : ls[i]? = some (some v)) : lc[i]? = some (.val (sv ad v)) := h.2.2 (i, sv ad v) (sl_mem.mpr ⟨v, hi, rfl⟩)
theorem sl_at1 {ad : Nat → Nat} {ls : List (Option Value)} {lc : Array Slot} {nL i : Nat} {v : Value} (h : lv_has lc nL (sl ad ls)) (hi : ls[i]? = some (some v)) : ∃ k : Nat, (sl ad ls)[k]? = some (i, sv ad v) := List.getElem?_of_mem (sl_mem.mpr ⟨v, hi, rfl⟩)
theorem sv_cat (ad : Nat → Nat) (v : Value) : (sv ad v).category = v.category := by cases v <;> rfl
/-- a slot of a long whose second half is overwritten -/
def clr (ls : List (Option Value)) (i : Nat) : List (Option Value) := match i with
  | 0 => ls
  | i + 1 => match ls[i]? with
    | some (some v) => if v.category = 2 then ls.set i none else ls
    | _ => ls
theorem clr_at {ls : List (Option Value)} {i j : Nat} {v : Value} (h : (clr ls i)[j]? = some (some v)) : ls[j]? = some (some v) ∧ ¬ (j + 1 = i ∧ v.category = 2) := by
  cases i with
  | zero => exact ⟨h, by omega⟩
  | succ i =>
    simp only [clr] at h
    split at h
    · rename_i w hw
      split at h
      · by_cases e : i = j
        · subst e
          have hl : i < ls.length := (List.getElem?_eq_some_iff.mp hw).1
          rw [List.getElem?_set_self hl] at h
          cases h
        · rw [List.getElem?_set_ne e] at h
          exact ⟨h, by omega⟩
      · rename_i hc
        refine ⟨h, fun q => ?_⟩
        have e : j = i := by omega
        subst e
        rw [hw] at h
        cases h
        exact hc q.2
    · rename_i hn
      refine ⟨h, fun q => ?_⟩
      have e : j = i := by omega
      subst e
      exact hn v h
def st1 (ls : List (Option Value)) (i : Nat) (v : Value) : List (Option Value) := (clr ls i).set i (some v)
def st2 (ls : List (Option Value)) (i : Nat) (v : Value) : List (Option Value) := ((clr ls i).set i (some v)).set (i + 1) none
theorem st1_sub {ad : Nat → Nat} {ls : List (Option Value)} {i : Nat} {v : Value} {q : Nat × Value} (h : q ∈ sl ad (st1 ls i v)) : q ∈ (i, sv ad v) :: (sl ad ls).filter (fun q => !(q.1 == i) && !(q.1 + 1 == i && q.2.category == 2)) := by
  obtain ⟨w, h1, h2⟩ := sl_mem.mp h
  by_cases e : i = q.1
  · rw [st1, ← e] at h1
    have hl : i < (clr ls i).length := by
      have := (List.getElem?_eq_some_iff.mp h1).1
      simpa using this
    rw [List.getElem?_set_self hl] at h1
    cases h1
    rw [List.mem_cons]
    left
    rw [← h2, e]
  · rw [st1, List.getElem?_set_ne e] at h1
    obtain ⟨h3, h4⟩ := clr_at h1
    refine List.mem_cons_of_mem _ (List.mem_filter.mpr ⟨sl_mem.mpr ⟨w, h3, h2⟩, ?_⟩)
    have e' : ¬ q.1 = i := fun z => e z.symm
    rw [h2, sv_cat]
    simp only [Bool.and_eq_true, Bool.not_eq_true', beq_eq_false_iff_ne, ne_eq, Bool.and_eq_false_iff]
    refine ⟨e', ?_⟩
    by_cases z : q.1 + 1 = i
    · exact Or.inr (fun c => h4 ⟨z, c⟩)
    · exact Or.inl z
theorem st2_sub {ad : Nat → Nat} {ls : List (Option Value)} {i : Nat} {v : Value} {q : Nat × Value} (h : q ∈ sl ad (st2 ls i v)) : q ∈ (i, sv ad v) :: (sl ad ls).filter (fun q => !(q.1 == i) && (!(q.1 == i + 1) && !(q.1 + 1 == i && q.2.category == 2))) := by
  obtain ⟨w, h1, h2⟩ := sl_mem.mp h
  by_cases e2 : i + 1 = q.1
  · rw [st2, ← e2] at h1
    have hl : i + 1 < ((clr ls i).set i (some v)).length := by
      have := (List.getElem?_eq_some_iff.mp h1).1
      simpa using this
    rw [List.getElem?_set_self hl] at h1
    cases h1
  · rw [st2, List.getElem?_set_ne e2] at h1
    by_cases e : i = q.1
    · rw [← e] at h1
      have hl : i < (clr ls i).length := by
        have := (List.getElem?_eq_some_iff.mp h1).1
        simpa using this
      rw [List.getElem?_set_self hl] at h1
      cases h1
      rw [List.mem_cons]
      left
      rw [← h2, e]
    · rw [List.getElem?_set_ne e] at h1
      obtain ⟨h3, h4⟩ := clr_at h1
      refine List.mem_cons_of_mem _ (List.mem_filter.mpr ⟨sl_mem.mpr ⟨w, h3, h2⟩, ?_⟩)
      have e' : ¬ q.1 = i := fun z => e z.symm
      have e2' : ¬ q.1 = i + 1 := fun z => e2 z.symm
      rw [h2, sv_cat]
      simp only [Bool.and_eq_true, Bool.not_eq_true', beq_eq_false_iff_ne, ne_eq, Bool.and_eq_false_iff]
      refine ⟨e', e2', ?_⟩
      by_cases z : q.1 + 1 = i
      · exact Or.inr (fun c => h4 ⟨z, c⟩)
      · exact Or.inl z
theorem lv_less {lc : Array Slot} {nL : Nat} {l l' : List (Nat × Value)} (h : lv_has lc nL l) (hs : ∀ q ∈ l', q ∈ l) : lv_has lc nL l' := ⟨h.1, h.2.1, fun q hq => h.2.2 q (hs q hq)⟩
/-- the locals at a method's entry -/
def sen (n : Nat) (vs : List Value) : List (Option Value) := (vs.flatMap fun v => if v.category = 2 then [some v, none] else [some v]) ++ List.replicate (n - (vs.flatMap fun v => if v.category = 2 then [some v, none] else [some v]).length) none
/-! the words: all that are kept, and those of nests -/
def gW : List Cond := lw_tbl.filter goodWord
def isN (w : Cond) : Bool := match w with
  | .methodLinkNest .. => true
  | .declares .. => true
  | _ => false
def nW : List Cond := lw_tbl.filter isN
theorem gW_in {w : Cond} (i : Nat) (h : lw_tbl[i]? = some w) (hg : goodWord w = true) : w ∈ gW := List.mem_filter.mpr ⟨List.mem_of_getElem? h, hg⟩
theorem nW_in {w : Cond} (i : Nat) (h : lw_tbl[i]? = some w) (hg : isN w = true) : w ∈ nW := List.mem_filter.mpr ⟨List.mem_of_getElem? h, hg⟩
theorem gW_good : GoodIn gW gW := fun w h => ⟨h, good_of_word (List.mem_filter.mp h).2⟩
theorem gW_cons {c : Cond} (h : c ∈ gW) : GoodIn gW (c :: gW) := fun w hw => (List.mem_cons.mp hw).elim (fun e => gW_good w (e ▸ h)) (fun z => gW_good w z)
theorem arrayOver_specA {args : Array Value} {first s : State} {o : Option Outcome} {idx : List Nat} {t : FieldType} (h : (Cond.arrayOver (.array t)).holds args first o s idx = true) :
    ∃ comp c k, s.vm.findClass (FieldType.array t).toString = some comp ∧ (s.vm.classes.findIdx? fun x => match x.kind with | .array component _ => component == comp | _ => false) = some c ∧ s.vm.classes[c]? = some k ∧ k.kind = .array comp (.array t) ∧
      s.vm.findClass ("[" ++ (FieldType.array t).toString) = some c := by
  simp only [Cond.holds, Cond.value, beq_iff_eq] at h
  cases hc : s.vm.findClass (FieldType.array t).toString with
  | none => simp [hc] at h
  | some comp =>
    simp only [hc, Option.bind_some, Option.bind_eq_some_iff, Option.map_eq_some_iff] at h
    obtain ⟨c, hi, k, hk, hb⟩ := h
    obtain ⟨hlt, hp, -⟩ := Array.findIdx?_eq_some_iff_getElem.mp hi
    have hkk : s.vm.classes[c] = k := (Array.getElem?_eq_some_iff.mp hk).2
    rw [hkk] at hp
    cases hkind : k.kind with
    | array component ty =>
      rw [hkind] at hb hp
      simp at hb hp
      exact ⟨comp, c, k, rfl, hi, hk, by rw [hkind, hp, hb.1], hb.2⟩
    | _ => rw [hkind] at hb; simp at hb
theorem va_AOA.moved {ty : FieldType} {u U : State} (hvm : u.vm.Alike U.vm) (h : va_AOA ty u) : va_AOA ty U := by
  obtain ⟨comp, c, k, h1, h2, h3, h4, h5⟩ := arrayOver_specA h
  obtain ⟨k', hk', he⟩ := hvm.2.2 _ _ h3
  have hi : (U.vm.classes.findIdx? fun (x : Class) => match x.kind with | .array component _ => component == comp | _ => false) = some c := by
    refine (va_idx_bare U.vm comp).symm.trans ?_
    first | rw [hvm.bare_eq] | rw [← hvm.bare_eq]
    exact (va_idx_bare u.vm comp).trans h2
  have hkind : k'.kind = .array comp (.array ty) := by rw [he]; exact h4
  have f1 : U.vm.findClass (FieldType.array ty).toString = some comp := by rw [hvm.findClass]; exact h1
  have f2 : U.vm.findClass ("[" ++ (FieldType.array ty).toString) = some c := by rw [hvm.findClass]; exact h5
  unfold va_AOA Cond.before Cond.holds
  simp only [Cond.value]
  rw [f1, Option.bind_some]
  refine (congrArg (fun o : Option Nat => (o.bind (fun c => (U.vm.classes[c]?).map fun (k : Class) => match k.kind with | .array _ ty' => decide (ty' = FieldType.array ty) && decide (U.vm.findClass ("[" ++ (FieldType.array ty).toString) = some c) | _ => false) == some true)) hi).trans ?_
  simp [hk', hkind, f2]
def sT (dA : Nat → ClassId) : List (ClassId × FieldType) := [(dA 0, .int), (dA 1, .long), (dA 2, .boolean), (dA 3, .object "OrderedDisc$Kind"), (dA 4, .array .int)]
/-- what is known of the classes -/
def Kn (D : va_G) (dA : Nat → ClassId) (U : State) : Prop := va_K D vwCl (sT dA) U ∧ (∀ w ∈ nW, va_Nw w U) ∧ va_AO "OrderedDisc$Kind" U ∧ va_AOA .int U
theorem nW_warm {w : Cond} {s U : State} (hw : isN w = true) (hW : s.WarmedH U.vm) (h : va_Nw w s) : va_Nw w U := by
  cases w with
  | methodLinkNest => exact va_Nw.warmM hW h
  | declares => exact va_Nw.warmD hW h
  | _ => cases hw
theorem nW_same {w : Cond} {s U : State} (hw : isN w = true) (hv : s.vm = U.vm) (h : va_Nw w s) : va_Nw w U := by
  cases w with
  | methodLinkNest => exact va_Nw.same rfl hv h
  | declares => exact va_Nw.same rfl hv h
  | _ => cases hw
theorem Kn.warm {D : va_G} {dA : Nat → ClassId} {s U : State} (hW : s.WarmedH U.vm) (h : Kn D dA s) : Kn D dA U :=
  ⟨va_K.moved hW.alike h.1, fun w hw => nW_warm (List.mem_filter.mp hw).2 hW (h.2.1 w hw), va_AO.moved hW.alike h.2.2.1, va_AOA.moved hW.alike h.2.2.2⟩
theorem Kn.same {D : va_G} {dA : Nat → ClassId} {s U : State} (hv : s.vm = U.vm) (h : Kn D dA s) : Kn D dA U := by
  have ha : s.vm.Alike U.vm := by rw [hv]; exact Vm.Alike.refl U.vm
  exact ⟨va_K.moved ha h.1, fun w hw => nW_same (List.mem_filter.mp hw).2 hv (h.2.1 w hw), va_AO.moved ha h.2.2.1, va_AOA.moved ha h.2.2.2⟩
/-! a method: its class, name, descriptor, code, locals, answer -/
abbrev Mi : Type := String × String × String × ByteArray × Nat × Option FieldType
abbrev mown (M : Mi) : String := M.1
abbrev mnm (M : Mi) : String := M.2.1
abbrev mds (M : Mi) : String := M.2.2.1
abbrev mcc (M : Mi) : ByteArray := M.2.2.2.1
abbrev mnL (M : Mi) : Nat := M.2.2.2.2.1
abbrev mret (M : Mi) : Option FieldType := M.2.2.2.2.2
abbrev my (M : Mi) : MethodName := ⟨M.1, M.2.1, M.2.2.1⟩
def mws (M : Mi) : List Cond := Cond.code (my M) (mcc M) (mnL M) (mret M) :: gW
/-! a run of it -/
abbrev Cx : Type := Program × Launch × Env × Room × State × MethodId × Array Value × List Frame × Method × Code × va_G × (Nat → ClassId) × (Nat → Prop) × Heap
abbrev xp (X : Cx) : Program := X.1
abbrev xl (X : Cx) : Launch := X.2.1
abbrev xe (X : Cx) : Env := X.2.2.1
abbrev xR (X : Cx) : Room := X.2.2.2.1
abbrev xs (X : Cx) : State := X.2.2.2.2.1
abbrev xm (X : Cx) : MethodId := X.2.2.2.2.2.1
abbrev xa (X : Cx) : Array Value := X.2.2.2.2.2.2.1
abbrev xb (X : Cx) : List Frame := X.2.2.2.2.2.2.2.1
abbrev xme (X : Cx) : Method := X.2.2.2.2.2.2.2.2.1
abbrev xc (X : Cx) : Code := X.2.2.2.2.2.2.2.2.2.1
abbrev xD (X : Cx) : va_G := X.2.2.2.2.2.2.2.2.2.2.1
abbrev xdA (X : Cx) : Nat → ClassId := X.2.2.2.2.2.2.2.2.2.2.2.1
abbrev xA (X : Cx) : Nat → Prop := X.2.2.2.2.2.2.2.2.2.2.2.2.1
abbrev xH (X : Cx) : Heap := X.2.2.2.2.2.2.2.2.2.2.2.2.2
def XOk (M : Mi) (X : Cx) : Prop := (xp X).tables.exec = Jvm.exec ∧ (xc X).code = mcc M ∧ (xc X).maxLocals = mnL M ∧ (xs X).vm.findClass (mown M) = some (xm X).cls ∧ (∀ w ∈ gW, w.before (xa X) (xs X) = true) ∧ (xme X).locks = false ∧ (xme X).name = mnm M ∧ (xme X).sig.returnType = mret M ∧ Kn (xD X) (xdA X) (xs X) ∧ ∀ q, (xH X).size ≤ q → xA X q
def Rl (M : Mi) (X : Cx) (ad : Nat → Nat) (h : sH) (ls : List (Option Value)) (H : Heap) (locs : List Loc) (lc : Array Slot) : Prop :=
  va_P (xD X) vwCl (sw (xdA X) ad h) H ∧ va_D (xA X) (sw (xdA X) ad h) ∧ va_S (xA X) (xH X) H locs ∧ lv_has lc (mnL M) (sl ad ls)
/-- the machine, at pc with these locals and this stack over this heap, comes to a state with Q -/
def AW (M : Mi) (X : Cx) (Q : State → Prop) (ad : Nat → Nat) (k n : Nat) (h : sH) (pc : Nat) (ls : List (Option Value)) (st : List Value) : Prop :=
  XOk M X → ∀ (H : Heap) (locs : List Loc) (lc : Array Slot), Rl M X ad h ls H locs lc → W (xp X) (xl X) (xe X) (xR X) (xs X) (xm X) (xa X) (xb X) (xme X) (xc X) H locs k n Q (F0 (xm X) pc lc (st.map (sv ad)))
end
section
section A4
variable {M : Mi} {X : Cx} {Q : State → Prop} {ad : Nat → Nat} {k n : Nat} {h : sH} {pc : Nat} {ls : List (Option Value)} {st : List Value}
theorem a_iconst (v : Int32) {c : Int} (d : decode (mcc M) pc = .ok (.iconst c, 1)) (hv : Int32.ofInt c = v) (kk : AW M X Q ad k n h (pc + 1) ls (.int v :: st)) : AW M X Q ad k n h pc ls st := fun C H locs lc r => lv_iconst C.1 C.2.1 d hv (kk C H locs lc r)
theorem a_bipush (v : Int32) {c : Int} (d : decode (mcc M) pc = .ok (.bipush c, 2)) (hv : (Int8.ofInt c).toInt32 = v) (kk : AW M X Q ad k n h (pc + 2) ls (.int v :: st)) : AW M X Q ad k n h pc ls st := fun C H locs lc r => lv_bipush C.1 C.2.1 d hv (kk C H locs lc r)
theorem a_sipush (v : Int32) {c : Int} (d : decode (mcc M) pc = .ok (.sipush c, 3)) (hv : (Int16.ofInt c).toInt32 = v) (kk : AW M X Q ad k n h (pc + 3) ls (.int v :: st)) : AW M X Q ad k n h pc ls st := fun C H locs lc r => lv_sipush C.1 C.2.1 d hv (kk C H locs lc r)
theorem a_lconst (v : Int64) {c : Fin 2} (d : decode (mcc M) pc = .ok (.lconst c, 1)) (hv : Int64.ofNat (c : Nat) = v) (kk : AW M X Q ad k n h (pc + 1) ls (.long v :: st)) : AW M X Q ad k n h pc ls st := fun C H locs lc r => lv_lconst C.1 C.2.1 d hv (kk C H locs lc r)
theorem a_ldc (v : Int32) {i : Nat} (d : decode (mcc M) pc = .ok (.ldc i, 2)) (hw : Cond.constant (mown M) i v ∈ gW) (kk : AW M X Q ad k n h (pc + 2) ls (.int v :: st)) : AW M X Q ad k n h pc ls st := fun C H locs lc r => lv_ldc C.1 C.2.1 C.2.2.2.1 (C.2.2.2.2.1 _ hw) d (kk C H locs lc r)
theorem a_ldc2 (v : Int64) {i : Nat} (d : decode (mcc M) pc = .ok (.ldc2_w i, 3)) (hw : Cond.constantLong (mown M) i v ∈ gW) (kk : AW M X Q ad k n h (pc + 3) ls (.long v :: st)) : AW M X Q ad k n h pc ls st := fun C H locs lc r => lv_ldc2 C.1 C.2.1 C.2.2.2.1 (C.2.2.2.2.1 _ hw) d (kk C H locs lc r)
theorem a_iload {i : Nat} {v : Int32} (d : decode (mcc M) pc = .ok (.iload i, 2)) (hl : ls[i]? = some (some (.int v))) (kk : AW M X Q ad k n h (pc + 2) ls (.int v :: st)) : AW M X Q ad k n h pc ls st := fun C H locs lc r => lv_iload C.1 C.2.1 d (sl_at r.2.2.2 hl) (kk C H locs lc r)
theorem a_iload_n {i : Fin 4} {v : Int32} (d : decode (mcc M) pc = .ok (.iload_n i, 1)) (hl : ls[(i : Nat)]? = some (some (.int v))) (kk : AW M X Q ad k n h (pc + 1) ls (.int v :: st)) : AW M X Q ad k n h pc ls st := fun C H locs lc r => lv_iload_n C.1 C.2.1 d rfl (sl_at r.2.2.2 hl) (kk C H locs lc r)
theorem a_lload {i : Nat} {v : Int64} (d : decode (mcc M) pc = .ok (.lload i, 2)) (hl : ls[i]? = some (some (.long v))) (kk : AW M X Q ad k n h (pc + 2) ls (.long v :: st)) : AW M X Q ad k n h pc ls st := fun C H locs lc r => lv_lload C.1 C.2.1 d (sl_at r.2.2.2 hl) (kk C H locs lc r)
theorem a_lload_n {i : Fin 4} {v : Int64} (d : decode (mcc M) pc = .ok (.lload_n i, 1)) (hl : ls[(i : Nat)]? = some (some (.long v))) (kk : AW M X Q ad k n h (pc + 1) ls (.long v :: st)) : AW M X Q ad k n h pc ls st := fun C H locs lc r => lv_lload_n C.1 C.2.1 d rfl (sl_at r.2.2.2 hl) (kk C H locs lc r)
theorem a_aload {i : Nat} {v : Nat} (d : decode (mcc M) pc = .ok (.aload i, 2)) (hl : ls[i]? = some (some (.ref v))) (kk : AW M X Q ad k n h (pc + 2) ls (.ref v :: st)) : AW M X Q ad k n h pc ls st := fun C H locs lc r => lv_aload C.1 C.2.1 d (sl_at r.2.2.2 hl) (kk C H locs lc r)
theorem a_aload_n {i : Fin 4} {v : Nat} (d : decode (mcc M) pc = .ok (.aload_n i, 1)) (hl : ls[(i : Nat)]? = some (some (.ref v))) (kk : AW M X Q ad k n h (pc + 1) ls (.ref v :: st)) : AW M X Q ad k n h pc ls st := fun C H locs lc r => lv_aload_n C.1 C.2.1 d rfl (sl_at r.2.2.2 hl) (kk C H locs lc r)
theorem a_istore {i : Nat} {v : Int32} {ls' : List (Option Value)} (d : decode (mcc M) pc = .ok (.istore i, 2)) (hi : i < mnL M) (e : st1 ls i (.int v) = ls') (kk : AW M X Q ad k n h (pc + 2) ls' st) : AW M X Q ad k n h pc ls (.int v :: st) := by
  subst e
  exact fun C H locs lc r => lv_istore C.1 C.2.1 d r.2.2.2 hi rfl (fun lc' hl => kk C H locs lc' ⟨r.1, r.2.1, r.2.2.1, lv_less hl (fun q hq => st1_sub hq)⟩)
theorem a_istore_n {i : Fin 4} {v : Int32} {ls' : List (Option Value)} (d : decode (mcc M) pc = .ok (.istore_n i, 1)) (hi : (i : Nat) < mnL M) (e : st1 ls (i : Nat) (.int v) = ls') (kk : AW M X Q ad k n h (pc + 1) ls' st) : AW M X Q ad k n h pc ls (.int v :: st) := by
  subst e
  exact fun C H locs lc r => lv_istore_n C.1 C.2.1 d rfl r.2.2.2 hi rfl (fun lc' hl => kk C H locs lc' ⟨r.1, r.2.1, r.2.2.1, lv_less hl (fun q hq => st1_sub hq)⟩)
theorem a_astore {i : Nat} {v : Nat} {ls' : List (Option Value)} (d : decode (mcc M) pc = .ok (.astore i, 2)) (hi : i < mnL M) (e : st1 ls i (.ref v) = ls') (kk : AW M X Q ad k n h (pc + 2) ls' st) : AW M X Q ad k n h pc ls (.ref v :: st) := by
  subst e
  exact fun C H locs lc r => lv_astore C.1 C.2.1 d r.2.2.2 hi rfl (fun lc' hl => kk C H locs lc' ⟨r.1, r.2.1, r.2.2.1, lv_less hl (fun q hq => st1_sub hq)⟩)
theorem a_astore_n {i : Fin 4} {v : Nat} {ls' : List (Option Value)} (d : decode (mcc M) pc = .ok (.astore_n i, 1)) (hi : (i : Nat) < mnL M) (e : st1 ls (i : Nat) (.ref v) = ls') (kk : AW M X Q ad k n h (pc + 1) ls' st) : AW M X Q ad k n h pc ls (.ref v :: st) := by
  subst e
  exact fun C H locs lc r => lv_astore_n C.1 C.2.1 d rfl r.2.2.2 hi rfl (fun lc' hl => kk C H locs lc' ⟨r.1, r.2.1, r.2.2.1, lv_less hl (fun q hq => st1_sub hq)⟩)
theorem a_lstore {i : Nat} {v : Int64} {ls' : List (Option Value)} (d : decode (mcc M) pc = .ok (.lstore i, 2)) (hi : i + 1 < mnL M) (e : st2 ls i (.long v) = ls') (kk : AW M X Q ad k n h (pc + 2) ls' st) : AW M X Q ad k n h pc ls (.long v :: st) := by
  subst e
  exact fun C H locs lc r => lv_lstore C.1 C.2.1 d r.2.2.2 hi rfl (fun lc' hl => kk C H locs lc' ⟨r.1, r.2.1, r.2.2.1, lv_less hl (fun q hq => st2_sub hq)⟩)
theorem a_lstore_n {i : Fin 4} {v : Int64} {ls' : List (Option Value)} (d : decode (mcc M) pc = .ok (.lstore_n i, 1)) (hi : (i : Nat) + 1 < mnL M) (e : st2 ls (i : Nat) (.long v) = ls') (kk : AW M X Q ad k n h (pc + 1) ls' st) : AW M X Q ad k n h pc ls (.long v :: st) := by
  subst e
  exact fun C H locs lc r => lv_lstore_n C.1 C.2.1 d rfl r.2.2.2 hi rfl (fun lc' hl => kk C H locs lc' ⟨r.1, r.2.1, r.2.2.1, lv_less hl (fun q hq => st2_sub hq)⟩)
theorem a_iinc {i : Nat} {c : Int} (w : Int32) {v : Int32} {ls' : List (Option Value)} (d : decode (mcc M) pc = .ok (.iinc i c, 3)) (hw : Int32.ofInt c = w) (hl : ls[i]? = some (some (.int v))) (hi : i < mnL M) (e : st1 ls i (.int (v + w)) = ls') (kk : AW M X Q ad k n h (pc + 3) ls' st) : AW M X Q ad k n h pc ls st := by
  subst e
  subst hw
  intro C H locs lc r
  obtain ⟨q, hq⟩ := sl_at1 r.2.2.2 hl
  exact lv_iinc C.1 C.2.1 d r.2.2.2 hq rfl hi rfl (fun lc' hl => kk C H locs lc' ⟨r.1, r.2.1, r.2.2.1, lv_less hl (fun q hq => st1_sub hq)⟩)
theorem a_iadd {x y : Int32} (d : decode (mcc M) pc = .ok (.iadd, 1)) (kk : AW M X Q ad k n h (pc + 1) ls (.int (x + y) :: st)) : AW M X Q ad k n h pc ls (.int y :: .int x :: st) := fun C H locs lc r => lv_iadd C.1 C.2.1 d  (kk C H locs lc r)
theorem a_isub {x y : Int32} (d : decode (mcc M) pc = .ok (.isub, 1)) (kk : AW M X Q ad k n h (pc + 1) ls (.int (x - y) :: st)) : AW M X Q ad k n h pc ls (.int y :: .int x :: st) := fun C H locs lc r => lv_isub C.1 C.2.1 d  (kk C H locs lc r)
theorem a_imul {x y : Int32} (d : decode (mcc M) pc = .ok (.imul, 1)) (kk : AW M X Q ad k n h (pc + 1) ls (.int (x * y) :: st)) : AW M X Q ad k n h pc ls (.int y :: .int x :: st) := fun C H locs lc r => lv_imul C.1 C.2.1 d  (kk C H locs lc r)
theorem a_iand {x y : Int32} (d : decode (mcc M) pc = .ok (.iand, 1)) (kk : AW M X Q ad k n h (pc + 1) ls (.int (x &&& y) :: st)) : AW M X Q ad k n h pc ls (.int y :: .int x :: st) := fun C H locs lc r => lv_iand C.1 C.2.1 d  (kk C H locs lc r)
theorem a_ior {x y : Int32} (d : decode (mcc M) pc = .ok (.ior, 1)) (kk : AW M X Q ad k n h (pc + 1) ls (.int (x ||| y) :: st)) : AW M X Q ad k n h pc ls (.int y :: .int x :: st) := fun C H locs lc r => lv_ior C.1 C.2.1 d  (kk C H locs lc r)
theorem a_ixor {x y : Int32} (d : decode (mcc M) pc = .ok (.ixor, 1)) (kk : AW M X Q ad k n h (pc + 1) ls (.int (x ^^^ y) :: st)) : AW M X Q ad k n h pc ls (.int y :: .int x :: st) := fun C H locs lc r => lv_ixor C.1 C.2.1 d  (kk C H locs lc r)
theorem a_ishl {x y : Int32} (d : decode (mcc M) pc = .ok (.ishl, 1)) (kk : AW M X Q ad k n h (pc + 1) ls (.int (x <<< (y &&& 31)) :: st)) : AW M X Q ad k n h pc ls (.int y :: .int x :: st) := fun C H locs lc r => lv_ishl C.1 C.2.1 d  (kk C H locs lc r)
theorem a_ishr {x y : Int32} (d : decode (mcc M) pc = .ok (.ishr, 1)) (kk : AW M X Q ad k n h (pc + 1) ls (.int (x >>> (y &&& 31)) :: st)) : AW M X Q ad k n h pc ls (.int y :: .int x :: st) := fun C H locs lc r => lv_ishr C.1 C.2.1 d  (kk C H locs lc r)
theorem a_idiv {x y : Int32} (d : decode (mcc M) pc = .ok (.idiv, 1)) (hy : ¬ y = 0) (kk : AW M X Q ad k n h (pc + 1) ls (.int (x / y) :: st)) : AW M X Q ad k n h pc ls (.int y :: .int x :: st) := fun C H locs lc r => lv_idiv C.1 C.2.1 d hy (kk C H locs lc r)
theorem a_irem {x y : Int32} (d : decode (mcc M) pc = .ok (.irem, 1)) (hy : ¬ y = 0) (kk : AW M X Q ad k n h (pc + 1) ls (.int (x - x / y * y) :: st)) : AW M X Q ad k n h pc ls (.int y :: .int x :: st) := fun C H locs lc r => lv_irem C.1 C.2.1 d hy (kk C H locs lc r)
theorem a_iushr {x y : Int32} (d : decode (mcc M) pc = .ok (.iushr, 1)) (kk : AW M X Q ad k n h (pc + 1) ls (.int (x.toUInt32 >>> (y.toUInt32 &&& Int32.toUInt32 31)).toInt32 :: st)) : AW M X Q ad k n h pc ls (.int y :: .int x :: st) := fun C H locs lc r => lv_iushr C.1 C.2.1 d rfl (kk C H locs lc r)
theorem a_ineg {x : Int32} (d : decode (mcc M) pc = .ok (.ineg, 1)) (kk : AW M X Q ad k n h (pc + 1) ls (.int (-x) :: st)) : AW M X Q ad k n h pc ls (.int x :: st) := fun C H locs lc r => lv_ineg C.1 C.2.1 d  (kk C H locs lc r)
theorem a_i2l {x : Int32} (d : decode (mcc M) pc = .ok (.i2l, 1)) (kk : AW M X Q ad k n h (pc + 1) ls (.long x.toInt64 :: st)) : AW M X Q ad k n h pc ls (.int x :: st) := fun C H locs lc r => lv_i2l C.1 C.2.1 d rfl (kk C H locs lc r)
theorem a_l2i {x : Int64} (d : decode (mcc M) pc = .ok (.l2i, 1)) (kk : AW M X Q ad k n h (pc + 1) ls (.int x.toInt32 :: st)) : AW M X Q ad k n h pc ls (.long x :: st) := fun C H locs lc r => lv_l2i C.1 C.2.1 d rfl (kk C H locs lc r)
theorem a_land {x y : Int64} (d : decode (mcc M) pc = .ok (.land, 1)) (kk : AW M X Q ad k n h (pc + 1) ls (.long (x &&& y) :: st)) : AW M X Q ad k n h pc ls (.long y :: .long x :: st) := fun C H locs lc r => lv_land C.1 C.2.1 d  (kk C H locs lc r)
theorem a_lor {x y : Int64} (d : decode (mcc M) pc = .ok (.lor, 1)) (kk : AW M X Q ad k n h (pc + 1) ls (.long (x ||| y) :: st)) : AW M X Q ad k n h pc ls (.long y :: .long x :: st) := fun C H locs lc r => lv_lor C.1 C.2.1 d  (kk C H locs lc r)
theorem a_lshl {x : Int64} {y : Int32} (d : decode (mcc M) pc = .ok (.lshl, 1)) (kk : AW M X Q ad k n h (pc + 1) ls (.long (x <<< (y.toInt64 &&& 63)) :: st)) : AW M X Q ad k n h pc ls (.int y :: .long x :: st) := fun C H locs lc r => lv_lshl C.1 C.2.1 d rfl (kk C H locs lc r)
theorem a_lshr {x : Int64} {y : Int32} (d : decode (mcc M) pc = .ok (.lshr, 1)) (kk : AW M X Q ad k n h (pc + 1) ls (.long (x >>> (y.toInt64 &&& 63)) :: st)) : AW M X Q ad k n h pc ls (.int y :: .long x :: st) := fun C H locs lc r => lv_lshr C.1 C.2.1 d rfl (kk C H locs lc r)
theorem a_lcmp {x y : Int64} (d : decode (mcc M) pc = .ok (.lcmp, 1)) (kk : AW M X Q ad k n h (pc + 1) ls (.int (lg_cmp x y) :: st)) : AW M X Q ad k n h pc ls (.long y :: .long x :: st) := fun C H locs lc r => W.lcmp C.1 C.2.1 d  (kk C H locs lc r)
theorem a_dup {v : Value} (d : decode (mcc M) pc = .ok (.dup, 1)) (hv : v.category = 1) (kk : AW M X Q ad k n h (pc + 1) ls (v :: v :: st)) : AW M X Q ad k n h pc ls (v :: st) := fun C H locs lc r => lv_dup C.1 C.2.1 d ((sv_cat ad v).trans hv) (kk C H locs lc r)
theorem a_pop {v : Value} (d : decode (mcc M) pc = .ok (.pop, 1)) (hv : v.category = 1) (kk : AW M X Q ad k n h (pc + 1) ls st) : AW M X Q ad k n h pc ls (v :: st) := fun C H locs lc r => lv_pop C.1 C.2.1 d ((sv_cat ad v).trans hv) (kk C H locs lc r)
theorem a_dup2 {v w : Value} (d : decode (mcc M) pc = .ok (.dup2, 1)) (hv : v.category = 1) (hw : w.category = 1) (kk : AW M X Q ad k n h (pc + 1) ls (v :: w :: v :: w :: st)) : AW M X Q ad k n h pc ls (v :: w :: st) := fun C H locs lc r => lv_dup2_11 C.1 C.2.1 d ((sv_cat ad v).trans hv) ((sv_cat ad w).trans hw) (kk C H locs lc r)
theorem a_icmp_eq {x y : Int32} {off : Int} (tgt : Nat) (d : decode (mcc M) pc = .ok (.if_icmp .eq off, 3)) (ht : (pc : Int) + off = (tgt : Int)) (kt : x = y → AW M X Q ad k n h tgt ls st) (kf : ¬ x = y → AW M X Q ad k n h (pc + 3) ls st) : AW M X Q ad k n h pc ls (.int y :: .int x :: st) := fun C H locs lc r => lv_icmp_eq C.1 C.2.1 d ht (fun z => kt z C H locs lc r) (fun z => kf z C H locs lc r)
theorem a_if_eq {x : Int32} {off : Int} (tgt : Nat) (d : decode (mcc M) pc = .ok (.ifCond .eq off, 3)) (ht : (pc : Int) + off = (tgt : Int)) (kt : x = 0 → AW M X Q ad k n h tgt ls st) (kf : ¬ x = 0 → AW M X Q ad k n h (pc + 3) ls st) : AW M X Q ad k n h pc ls (.int x :: st) := fun C H locs lc r => lv_if_eq C.1 C.2.1 d ht (fun z => kt z C H locs lc r) (fun z => kf z C H locs lc r)
theorem a_icmp_ne {x y : Int32} {off : Int} (tgt : Nat) (d : decode (mcc M) pc = .ok (.if_icmp .ne off, 3)) (ht : (pc : Int) + off = (tgt : Int)) (kt : ¬ x = y → AW M X Q ad k n h tgt ls st) (kf : x = y → AW M X Q ad k n h (pc + 3) ls st) : AW M X Q ad k n h pc ls (.int y :: .int x :: st) := fun C H locs lc r => lv_icmp_ne C.1 C.2.1 d ht (fun z => kt z C H locs lc r) (fun z => kf z C H locs lc r)
theorem a_if_ne {x : Int32} {off : Int} (tgt : Nat) (d : decode (mcc M) pc = .ok (.ifCond .ne off, 3)) (ht : (pc : Int) + off = (tgt : Int)) (kt : ¬ x = 0 → AW M X Q ad k n h tgt ls st) (kf : x = 0 → AW M X Q ad k n h (pc + 3) ls st) : AW M X Q ad k n h pc ls (.int x :: st) := fun C H locs lc r => lv_if_ne C.1 C.2.1 d ht (fun z => kt z C H locs lc r) (fun z => kf z C H locs lc r)
theorem a_icmp_lt {x y : Int32} {off : Int} (tgt : Nat) (d : decode (mcc M) pc = .ok (.if_icmp .lt off, 3)) (ht : (pc : Int) + off = (tgt : Int)) (kt : x < y → AW M X Q ad k n h tgt ls st) (kf : ¬ x < y → AW M X Q ad k n h (pc + 3) ls st) : AW M X Q ad k n h pc ls (.int y :: .int x :: st) := fun C H locs lc r => lv_icmp_lt C.1 C.2.1 d ht (fun z => kt z C H locs lc r) (fun z => kf z C H locs lc r)
theorem a_if_lt {x : Int32} {off : Int} (tgt : Nat) (d : decode (mcc M) pc = .ok (.ifCond .lt off, 3)) (ht : (pc : Int) + off = (tgt : Int)) (kt : x < 0 → AW M X Q ad k n h tgt ls st) (kf : ¬ x < 0 → AW M X Q ad k n h (pc + 3) ls st) : AW M X Q ad k n h pc ls (.int x :: st) := fun C H locs lc r => lv_if_lt C.1 C.2.1 d ht (fun z => kt z C H locs lc r) (fun z => kf z C H locs lc r)
theorem a_icmp_ge {x y : Int32} {off : Int} (tgt : Nat) (d : decode (mcc M) pc = .ok (.if_icmp .ge off, 3)) (ht : (pc : Int) + off = (tgt : Int)) (kt : y ≤ x → AW M X Q ad k n h tgt ls st) (kf : ¬ y ≤ x → AW M X Q ad k n h (pc + 3) ls st) : AW M X Q ad k n h pc ls (.int y :: .int x :: st) := fun C H locs lc r => lv_icmp_ge C.1 C.2.1 d ht (fun z => kt z C H locs lc r) (fun z => kf z C H locs lc r)
theorem a_if_ge {x : Int32} {off : Int} (tgt : Nat) (d : decode (mcc M) pc = .ok (.ifCond .ge off, 3)) (ht : (pc : Int) + off = (tgt : Int)) (kt : 0 ≤ x → AW M X Q ad k n h tgt ls st) (kf : ¬ 0 ≤ x → AW M X Q ad k n h (pc + 3) ls st) : AW M X Q ad k n h pc ls (.int x :: st) := fun C H locs lc r => lv_if_ge C.1 C.2.1 d ht (fun z => kt z C H locs lc r) (fun z => kf z C H locs lc r)
theorem a_icmp_gt {x y : Int32} {off : Int} (tgt : Nat) (d : decode (mcc M) pc = .ok (.if_icmp .gt off, 3)) (ht : (pc : Int) + off = (tgt : Int)) (kt : y < x → AW M X Q ad k n h tgt ls st) (kf : ¬ y < x → AW M X Q ad k n h (pc + 3) ls st) : AW M X Q ad k n h pc ls (.int y :: .int x :: st) := fun C H locs lc r => lv_icmp_gt C.1 C.2.1 d ht (fun z => kt z C H locs lc r) (fun z => kf z C H locs lc r)
theorem a_if_gt {x : Int32} {off : Int} (tgt : Nat) (d : decode (mcc M) pc = .ok (.ifCond .gt off, 3)) (ht : (pc : Int) + off = (tgt : Int)) (kt : 0 < x → AW M X Q ad k n h tgt ls st) (kf : ¬ 0 < x → AW M X Q ad k n h (pc + 3) ls st) : AW M X Q ad k n h pc ls (.int x :: st) := fun C H locs lc r => lv_if_gt C.1 C.2.1 d ht (fun z => kt z C H locs lc r) (fun z => kf z C H locs lc r)
theorem a_icmp_le {x y : Int32} {off : Int} (tgt : Nat) (d : decode (mcc M) pc = .ok (.if_icmp .le off, 3)) (ht : (pc : Int) + off = (tgt : Int)) (kt : x ≤ y → AW M X Q ad k n h tgt ls st) (kf : ¬ x ≤ y → AW M X Q ad k n h (pc + 3) ls st) : AW M X Q ad k n h pc ls (.int y :: .int x :: st) := fun C H locs lc r => lv_icmp_le C.1 C.2.1 d ht (fun z => kt z C H locs lc r) (fun z => kf z C H locs lc r)
theorem a_if_le {x : Int32} {off : Int} (tgt : Nat) (d : decode (mcc M) pc = .ok (.ifCond .le off, 3)) (ht : (pc : Int) + off = (tgt : Int)) (kt : x ≤ 0 → AW M X Q ad k n h tgt ls st) (kf : ¬ x ≤ 0 → AW M X Q ad k n h (pc + 3) ls st) : AW M X Q ad k n h pc ls (.int x :: st) := fun C H locs lc r => lv_if_le C.1 C.2.1 d ht (fun z => kt z C H locs lc r) (fun z => kf z C H locs lc r)
theorem a_goto {off : Int} (tgt : Nat) (d : decode (mcc M) pc = .ok (.goto off, 3)) (ht : (pc : Int) + off = (tgt : Int)) (kk : AW M X Q ad k n h tgt ls st) : AW M X Q ad k n h pc ls st := fun C H locs lc r => lv_goto C.1 C.2.1 d ht (kk C H locs lc r)
theorem a_tabIn {dflt lo hi : Int} {offs : Array Int} {len : Nat} {x : Int32} {off : Int} (tgt : Nat) (d : decode (mcc M) pc = .ok (.tableswitch dflt lo hi offs, len)) (h1 : ¬ x.toInt < lo) (h2 : ¬ hi < x.toInt) (ho : offs[(x.toInt - lo).toNat]? = some off) (ht : (pc : Int) + off = (tgt : Int)) (kk : AW M X Q ad k n h tgt ls st) : AW M X Q ad k n h pc ls (.int x :: st) := fun C H locs lc r => lv_tableIn C.1 C.2.1 d h1 h2 ho ht (kk C H locs lc r)
theorem a_tabOut {dflt lo hi : Int} {offs : Array Int} {len : Nat} {x : Int32} (tgt : Nat) (d : decode (mcc M) pc = .ok (.tableswitch dflt lo hi offs, len)) (h1 : x.toInt < lo ∨ hi < x.toInt) (ht : (pc : Int) + dflt = (tgt : Int)) (kk : AW M X Q ad k n h tgt ls st) : AW M X Q ad k n h pc ls (.int x :: st) := fun C H locs lc r => lv_tableOut C.1 C.2.1 d h1 ht (kk C H locs lc r)
end A4
end
section
/-! STORES: numbers alone: fields, arrays of ints (of truth values too), arrays of longs; a shape S says what the cells are -/
abbrev GH : Type := (Nat → Nat → Int32) × (Nat → Nat → Int32) × (Nat → Nat → Int64)
def gF (g : GH) (a k : Nat) : Int32 := g.1 a k
def gA (g : GH) (a : Nat) : Nat → Int32 := g.2.1 a
def gL (g : GH) (a : Nat) : Nat → Int64 := g.2.2 a
def pF (g : GH) (a k : Nat) (x : Int32) : GH := (fun b j => if b = a ∧ j = k then x else g.1 b j, g.2.1, g.2.2)
def pA (g : GH) (a : Nat) (f : Nat → Int32) : GH := (g.1, fun b => if b = a then f else g.2.1 b, g.2.2)
def pL (g : GH) (a : Nat) (f : Nat → Int64) : GH := (g.1, g.2.1, fun b => if b = a then f else g.2.2 b)
theorem gF_pF (g : GH) (a k : Nat) (x : Int32) (b j : Nat) : gF (pF g a k x) b j = if b = a ∧ j = k then x else gF g b j := rfl
theorem gF_pA (g : GH) (a : Nat) (f : Nat → Int32) (b j : Nat) : gF (pA g a f) b j = gF g b j := rfl
theorem gF_pL (g : GH) (a : Nat) (f : Nat → Int64) (b j : Nat) : gF (pL g a f) b j = gF g b j := rfl
theorem gA_pF (g : GH) (a k : Nat) (x : Int32) (b : Nat) : gA (pF g a k x) b = gA g b := rfl
theorem gA_pA (g : GH) (a : Nat) (f : Nat → Int32) (b : Nat) : gA (pA g a f) b = if b = a then f else gA g b := rfl
theorem gA_pL (g : GH) (a : Nat) (f : Nat → Int64) (b : Nat) : gA (pL g a f) b = gA g b := rfl
theorem gL_pF (g : GH) (a k : Nat) (x : Int32) (b : Nat) : gL (pF g a k x) b = gL g b := rfl
theorem gL_pA (g : GH) (a : Nat) (f : Nat → Int32) (b : Nat) : gL (pA g a f) b = gL g b := rfl
theorem gL_pL (g : GH) (a : Nat) (f : Nat → Int64) (b : Nat) : gL (pL g a f) b = if b = a then f else gL g b := rfl
theorem GH_ext {g g' : GH} (h1 : ∀ a k, gF g a k = gF g' a k) (h2 : ∀ a j, gA g a j = gA g' a j) (h3 : ∀ a j, gL g a j = gL g' a j) : g = g' := Prod.ext (funext fun a => funext fun k => h1 a k) (Prod.ext (funext fun a => funext fun k => h2 a k) (funext fun a => funext fun k => h3 a k))
def cf (f : Nat → Int32) : Nat → List Value → List Value
  | _, [] => []
  | i, .int _ :: r => .int (f i) :: cf f (i + 1) r
  | i, v :: r => v :: cf f (i + 1) r
def cg (g : GH) (a : Nat) (c : sE) : sE := match c with
  | .inr x => .inr (x.1, cf (g.1 a) 0 x.2)
  | .inl (t, n, .inl _) => .inl (t, n, .inl (g.2.1 a))
  | .inl (t, n, .inr (.inl _)) => .inl (t, n, .inr (.inl (g.2.2 a)))
  | c => c
def conc (S : sH) (g : GH) : sH := (S.1, fun a => cg g a (S.2 a))
theorem cf_int {f : Nat → Int32} {x : Int32} : ∀ (l : List Value) (i k : Nat), l[k]? = some (.int x) → (cf f i l)[k]? = some (.int (f (i + k)))
  | [], i, k, h => by simp at h
  | v :: r, i, 0, h => by
    simp at h
    subst h
    simp [cf]
  | v :: r, i, k + 1, h => by
    have h2 : r[k]? = some (.int x) := by simpa using h
    have ih := cf_int (f := f) r (i + 1) k h2
    rw [show i + (k + 1) = i + 1 + k by omega]
    cases v <;> simpa [cf] using ih
theorem cf_other {f : Nat → Int32} {v : Value} (hv : ∀ x, v ≠ .int x) : ∀ (l : List Value) (i k : Nat), l[k]? = some v → (cf f i l)[k]? = some v
  | [], i, k, h => by simp at h
  | w :: r, i, 0, h => by
    simp at h
    subst h
    cases w with
    | int x => exact absurd rfl (hv x)
    | _ => simp [cf]
  | w :: r, i, k + 1, h => by
    have h2 : r[k]? = some v := by simpa using h
    have ih := cf_other (f := f) hv r (i + 1) k h2
    cases w <;> simpa [cf] using ih
theorem cf_len {f : Nat → Int32} : ∀ (l : List Value) (i : Nat), (cf f i l).length = l.length
  | [], i => rfl
  | v :: r, i => by
    have ih := cf_len (f := f) r (i + 1)
    cases v <;> simp [cf, ih]
theorem cf_set {f : Nat → Int32} {x y : Int32} : ∀ (l : List Value) (i k : Nat), l[k]? = some (.int y) → (cf f i l).set k (.int x) = cf (fun j => if j = i + k then x else f j) i l
  | [], i, k, h => by simp at h
  | v :: r, i, 0, h => by
    simp at h
    subst h
    have e : ∀ (r : List Value) (j : Nat), i < j → cf f j r = cf (fun j => if j = i then x else f j) j r := by
      intro r
      induction r with
      | nil => intro j _; rfl
      | cons w r ih =>
        intro j hj
        have h1 : ¬ j = i := by omega
        cases w <;> simp [cf, ih (j + 1) (by omega), h1]
    simp [cf]
    exact e r (i + 1) (by omega)
  | v :: r, i, k + 1, h => by
    have h2 : r[k]? = some (.int y) := by simpa using h
    have ih := cf_set (f := f) (x := x) r (i + 1) k h2
    rw [show i + 1 + k = i + (k + 1) by omega] at ih
    have h1 : ¬ i = i + (k + 1) := by omega
    cases v <;> simp [cf, ih, h1]
theorem cf_id {f g : Nat → Int32} (h : ∀ j, f j = g j) (l : List Value) (i : Nat) : cf f i l = cf g i l := by
  rw [show f = g from funext h]
/-! what a shape has at a place -/
def isI (S : sH) (a ci fi : Nat) : Bool := Nat.blt a S.1 && (match S.2 a with
  | .inr x => Nat.beq x.1 ci && (match x.2[fi]? with
    | some (.int _) => true
    | _ => false)
  | _ => false)
def isR (S : sH) (a ci fi r : Nat) : Bool := Nat.blt a S.1 && (match S.2 a with
  | .inr x => Nat.beq x.1 ci && (match x.2[fi]? with
    | some (.ref q) => Nat.beq q r
    | _ => false)
  | _ => false)
def arI (S : sH) (a t n : Nat) : Bool := Nat.blt a S.1 && Nat.blt n 2147483648 && (match S.2 a with
  | .inl (t', n', .inl _) => Nat.beq t' t && Nat.beq n' n
  | _ => false)
def arL (S : sH) (a n : Nat) : Bool := Nat.blt a S.1 && Nat.blt n 2147483648 && (match S.2 a with
  | .inl (t', n', .inr (.inl _)) => Nat.beq t' 1 && Nat.beq n' n
  | _ => false)
def arR (S : sH) (a t n j r : Nat) : Bool := Nat.blt a S.1 && Nat.blt n 2147483648 && Nat.blt j n && (match S.2 a with
  | .inl (t', n', .inr (.inr (.inr (.inr f)))) => Nat.beq t' t && Nat.beq n' n && (match f j with
    | some q => Nat.beq q r
    | none => false)
  | _ => false)
theorem blt_lt {a b : Nat} (h : Nat.blt a b = true) : a < b := Nat.le_of_ble_eq_true h
theorem isI_ok {S : sH} {g : GH} {a ci fi : Nat} (h : isI S a ci fi = true) : a < S.1 ∧ ∃ (sf : List Value) (y : Int32), S.2 a = .inr (ci, sf) ∧ sf[fi]? = some (.int y) ∧ (conc S g).2 a = .inr (ci, cf (g.1 a) 0 sf) ∧ (cf (g.1 a) 0 sf)[fi]? = some (.int (gF g a fi)) := by
  simp only [isI, Bool.and_eq_true] at h
  obtain ⟨h1, h2⟩ := h
  refine ⟨blt_lt h1, ?_⟩
  split at h2
  · rename_i x hx
    obtain ⟨h3, h4⟩ := Bool.and_eq_true _ _ ▸ h2
    have h3 := Nat.eq_of_beq_eq_true h3
    split at h4
    · rename_i y hy
      obtain ⟨c, sf⟩ := x
      simp only at h3 hy
      subst h3
      refine ⟨sf, y, hx, hy, ?_, ?_⟩
      · show cg g a (S.2 a) = _
        rw [hx]
        rfl
      · have := cf_int (f := g.1 a) sf 0 fi hy
        rwa [Nat.zero_add] at this
    · cases h4
  · cases h2
theorem isR_ok {S : sH} {g : GH} {a ci fi r : Nat} (h : isR S a ci fi r = true) : a < S.1 ∧ ∃ (sf : List Value), S.2 a = .inr (ci, sf) ∧ sf[fi]? = some (.ref r) ∧ (conc S g).2 a = .inr (ci, cf (g.1 a) 0 sf) ∧ (cf (g.1 a) 0 sf)[fi]? = some (.ref r) := by
  simp only [isR, Bool.and_eq_true] at h
  obtain ⟨h1, h2⟩ := h
  refine ⟨blt_lt h1, ?_⟩
  split at h2
  · rename_i x hx
    obtain ⟨h3, h4⟩ := Bool.and_eq_true _ _ ▸ h2
    have h3 := Nat.eq_of_beq_eq_true h3
    split at h4
    · rename_i y hy
      obtain ⟨c, sf⟩ := x
      have h4 := Nat.eq_of_beq_eq_true h4
      simp only at h3 hy
      subst h3
      subst h4
      refine ⟨sf, hx, hy, ?_, ?_⟩
      · show cg g a (S.2 a) = _
        rw [hx]
        rfl
      · exact cf_other (fun x q => by cases q) sf 0 fi hy
    · cases h4
  · cases h2
theorem arI_ok {S : sH} {g : GH} {a t n : Nat} (h : arI S a t n = true) : a < S.1 ∧ n < 2147483648 ∧ (∃ z, S.2 a = .inl (t, n, .inl z)) ∧ (conc S g).2 a = .inl (t, n, .inl (gA g a)) := by
  simp only [arI, Bool.and_eq_true] at h
  obtain ⟨⟨h1, h0⟩, h2⟩ := h
  refine ⟨blt_lt h1, blt_lt h0, ?_⟩
  split at h2
  · rename_i t' n' z hx
    obtain ⟨h3, h4⟩ := Bool.and_eq_true _ _ ▸ h2
    have h3 := Nat.eq_of_beq_eq_true h3
    have h4 := Nat.eq_of_beq_eq_true h4
    subst h3
    subst h4
    refine ⟨⟨z, hx⟩, ?_⟩
    show cg g a (S.2 a) = _
    rw [hx]
    rfl
  · cases h2
theorem arL_ok {S : sH} {g : GH} {a n : Nat} (h : arL S a n = true) : a < S.1 ∧ n < 2147483648 ∧ (∃ z, S.2 a = .inl (1, n, .inr (.inl z))) ∧ (conc S g).2 a = .inl (1, n, .inr (.inl (gL g a))) := by
  simp only [arL, Bool.and_eq_true] at h
  obtain ⟨⟨h1, h0⟩, h2⟩ := h
  refine ⟨blt_lt h1, blt_lt h0, ?_⟩
  split at h2
  · rename_i t' n' z hx
    obtain ⟨h3, h4⟩ := Bool.and_eq_true _ _ ▸ h2
    have h3 := Nat.eq_of_beq_eq_true h3
    have h4 := Nat.eq_of_beq_eq_true h4
    subst h3
    subst h4
    refine ⟨⟨z, hx⟩, ?_⟩
    show cg g a (S.2 a) = _
    rw [hx]
    rfl
  · cases h2
theorem arR_ok {S : sH} {g : GH} {a t n j r : Nat} (h : arR S a t n j r = true) : a < S.1 ∧ n < 2147483648 ∧ j < n ∧ ∃ f : Nat → Option Nat, (conc S g).2 a = .inl (t, n, .inr (.inr (.inr (.inr f)))) ∧ f j = some r := by
  simp only [arR, Bool.and_eq_true] at h
  obtain ⟨⟨⟨h1, h0⟩, hj⟩, h2⟩ := h
  refine ⟨blt_lt h1, blt_lt h0, blt_lt hj, ?_⟩
  split at h2
  · rename_i t' n' f hx
    simp only [Bool.and_eq_true] at h2
    obtain ⟨⟨h3, h4⟩, h5⟩ := h2
    have h3 := Nat.eq_of_beq_eq_true h3
    have h4 := Nat.eq_of_beq_eq_true h4
    subst h3
    subst h4
    split at h5
    · rename_i q hq
      have h5 := Nat.eq_of_beq_eq_true h5
      subst h5
      refine ⟨f, ?_, hq⟩
      show cg g a (S.2 a) = _
      rw [hx]
      rfl
    · cases h5
  · cases h2
theorem conc_pF {S : sH} {g : GH} {a ci fi : Nat} {sf : List Value} {y : Int32} (x : Int32) (h1 : S.2 a = .inr (ci, sf)) (h2 : sf[fi]? = some (.int y)) : ((conc S g).1, va_up (conc S g).2 a (.inr (ci, (cf (g.1 a) 0 sf).set fi (.int x)))) = conc S (pF g a fi x) := by
  refine Prod.ext rfl (funext fun b => ?_)
  show va_up (conc S g).2 a _ b = cg (pF g a fi x) b (S.2 b)
  by_cases e : b = a
  · subst e
    rw [h1]
    simp only [va_up, if_pos, cg]
    rw [cf_set (f := g.1 b) (x := x) sf 0 fi h2]
    simp only [Nat.zero_add]
    congr 2
    refine cf_id (fun j => ?_) sf 0
    simp [pF]
  · simp only [va_up, if_neg e]
    show cg g b (S.2 b) = _
    have e2 : (pF g a fi x).1 b = g.1 b := funext fun j => by simp [pF, e]
    unfold cg
    rw [e2]
    rfl
theorem conc_pA {S : sH} {g : GH} {a t n : Nat} {z : Nat → Int32} (f : Nat → Int32) (h1 : S.2 a = .inl (t, n, .inl z)) : ((conc S g).1, va_up (conc S g).2 a (.inl (t, n, .inl f))) = conc S (pA g a f) := by
  refine Prod.ext rfl (funext fun b => ?_)
  show va_up (conc S g).2 a _ b = cg (pA g a f) b (S.2 b)
  by_cases e : b = a
  · subst e
    rw [h1]
    simp [va_up, cg, pA]
  · simp only [va_up, if_neg e]
    show cg g b (S.2 b) = _
    have e2 : (pA g a f).2.1 b = g.2.1 b := by simp [pA, e]
    unfold cg
    rw [e2]
    rfl
theorem conc_pL {S : sH} {g : GH} {a n : Nat} {z : Nat → Int64} (f : Nat → Int64) (h1 : S.2 a = .inl (1, n, .inr (.inl z))) : ((conc S g).1, va_up (conc S g).2 a (.inl (1, n, .inr (.inl f)))) = conc S (pL g a f) := by
  refine Prod.ext rfl (funext fun b => ?_)
  show va_up (conc S g).2 a _ b = cg (pL g a f) b (S.2 b)
  by_cases e : b = a
  · subst e
    rw [h1]
    simp [va_up, cg, pL]
  · simp only [va_up, if_neg e]
    show cg g b (S.2 b) = _
    have e2 : (pL g a f).2.2 b = g.2.2 b := by simp [pL, e]
    unfold cg
    rw [e2]
    rfl
/-! links of fields -/
def Cls (ci : Nat) (C : String) (T : u_T) (N : Nat) (ty : Nat → FieldType) : Prop := vwCl[ci]? = some (C, T, N) ∧ (∀ w ∈ u_ws C T N, w ∈ gW) ∧ (∀ k, k < N → parseFieldDescriptor (T k).2.2.1 = some (ty k)) ∧ ∀ a, a < N → ∀ b, b < N → a ≠ b → (T a).2.1 ≠ (T b).2.1
def Flk (own : String) (idx ci fi : Nat) (fin : Bool) (ty : FieldType) : Prop := ∃ (C : String) (T : u_T) (N : Nat) (ty0 : Nat → FieldType), Cls ci C T N ty0 ∧ fi < N ∧ Cond.fieldLink own idx (T fi).1 (T fi).2.1 (T fi).2.2.1 ∈ gW ∧ (T fi).2.2.2 = fin ∧ ty0 fi = ty ∧ (fin = true → (T fi).1 = own)
section A5
variable {M : Mi} {X : Cx} {Q : State → Prop} {ad : Nat → Nat} {k n : Nat} {h : sH} {S : sH} {g : GH} {pc : Nat} {ls : List (Option Value)} {st : List Value}
theorem h_getf {a idx ci fi : Nat} {fin : Bool} {ty : FieldType} {fs : List Value} {v : Value} (d : decode (mcc M) pc = .ok (.getfield idx, 3)) (F : Flk (mown M) idx ci fi fin ty) (ha : a < h.1) (hc : h.2 a = .inr (ci, fs)) (hv : fs[fi]? = some v) (kk : AW M X Q ad k n h (pc + 3) ls (v :: st)) : AW M X Q ad k n h pc ls (.ref a :: st) := by
  obtain ⟨C0, T, N, ty0, K, hk, hl, -, -, -⟩ := F
  exact fun C H locs lc r => va_get (D := xD X) (ci := ci) (v := sv ad v) (C := C0) (T := T) (N := N) C.1 C.2.1 C.2.2.2.2.1 K.2.1 C.2.2.2.1 C.2.2.2.2.2.2.2.2.1.1 r.1 a (by rw [sw_at ha, hc]; rfl) K.1 fi hk (C.2.2.2.2.1 _ hl) (fun _ z => z) (sv_at hv) d (kk C H locs lc r)
theorem h_putf {a idx ci fi : Nat} {ty : FieldType} {fs : List Value} {v : Value} (d : decode (mcc M) pc = .ok (.putfield idx, 3)) (F : Flk (mown M) idx ci fi false ty) (ha : a < h.1) (hc : h.2 a = .inr (ci, fs)) (hl : fi < fs.length) (hn : narrow ty (sv ad v) = sv ad v) (hf : fits ty (sv ad v) = true) (kk : AW M X Q ad k n (h.1, va_up h.2 a (.inr (ci, fs.set fi v))) (pc + 3) ls st) : AW M X Q ad k n h pc ls (v :: .ref a :: st) := by
  obtain ⟨C0, T, N, ty0, K, hk, hlk, hfin, hty, -⟩ := F
  intro C H locs lc r
  refine va_put (D := xD X) (ci := ci) (v := sv ad v) (ty := ty) (C := C0) (T := T) (N := N) C.1 C.2.1 C.2.2.2.2.1 K.2.1 ty0 K.2.2.1 K.2.2.2 C.2.2.2.1 C.2.2.2.2.2.2.2.2.1.1 r.1 r.2.1 r.2.2.1 a (fs := fs.map (sv ad)) (by rw [sw_at ha, hc]; rfl) K.1 fi hk (C.2.2.2.2.1 _ hlk) (fun _ z => z) hfin (by rw [K.2.2.1 fi hk, hty]) hn hf (by simpa using hl) d (fun H1 locs1 hP hD hS => ?_)
  have e : (sw (xdA X) ad h).set a (ad a, .inr (ci, (fs.map (sv ad)).set fi (sv ad v))) = sw (xdA X) ad (h.1, va_up h.2 a (.inr (ci, fs.set fi v))) := by
    rw [← sw_set ha, sv_map_set]
    rfl
  rw [e] at hP hD
  exact kk C H1 locs1 lc ⟨hP, hD, hS, r.2.2.2⟩
theorem h_putF {a idx ci fi : Nat} {ty : FieldType} {fs : List Value} {v : Value} (d : decode (mcc M) pc = .ok (.putfield idx, 3)) (F : Flk (mown M) idx ci fi true ty) (hi : mnm M = "<init>") (ha : a < h.1) (hc : h.2 a = .inr (ci, fs)) (hl : fi < fs.length) (hn : narrow ty (sv ad v) = sv ad v) (hf : fits ty (sv ad v) = true) (kk : AW M X Q ad k n (h.1, va_up h.2 a (.inr (ci, fs.set fi v))) (pc + 3) ls st) : AW M X Q ad k n h pc ls (v :: .ref a :: st) := by
  obtain ⟨C0, T, N, ty0, K, hk, hlk, hfin, hty, hd⟩ := F
  intro C H locs lc r
  refine va_putF (D := xD X) (ci := ci) (v := sv ad v) (ty := ty) (C := C0) (T := T) (N := N) C.1 C.2.1 C.2.2.2.2.1 K.2.1 ty0 K.2.2.1 K.2.2.2 C.2.2.2.1 C.2.2.2.2.2.2.2.2.1.1 r.1 r.2.1 r.2.2.1 a (fs := fs.map (sv ad)) (by rw [sw_at ha, hc]; rfl) K.1 fi hk (C.2.2.2.2.1 _ hlk) (fun _ z => z) hfin (C.2.2.2.2.2.2.1.trans hi) (hd rfl) (by rw [K.2.2.1 fi hk, hty]) hn hf (by simpa using hl) d (fun H1 locs1 hP hD hS => ?_)
  have e : (sw (xdA X) ad h).set a (ad a, .inr (ci, (fs.map (sv ad)).set fi (sv ad v))) = sw (xdA X) ad (h.1, va_up h.2 a (.inr (ci, fs.set fi v))) := by
    rw [← sw_set ha, sv_map_set]
    rfl
  rw [e] at hP hD
  exact kk C H1 locs1 lc ⟨hP, hD, hS, r.2.2.2⟩
/-! rows over stores -/
theorem a_gi {a idx ci fi : Nat} {fin : Bool} {ty : FieldType} (d : decode (mcc M) pc = .ok (.getfield idx, 3)) (F : Flk (mown M) idx ci fi fin ty) (e : isI S a ci fi = true) (kk : AW M X Q ad k n (conc S g) (pc + 3) ls (.int (gF g a fi) :: st)) : AW M X Q ad k n (conc S g) pc ls (.ref a :: st) := by
  obtain ⟨ha, sf, y, h1, h2, h3, h4⟩ := isI_ok (g := g) e
  exact h_getf d F ha h3 h4 kk
theorem a_gr {a idx ci fi r : Nat} {fin : Bool} {ty : FieldType} (d : decode (mcc M) pc = .ok (.getfield idx, 3)) (F : Flk (mown M) idx ci fi fin ty) (e : isR S a ci fi r = true) (kk : AW M X Q ad k n (conc S g) (pc + 3) ls (.ref r :: st)) : AW M X Q ad k n (conc S g) pc ls (.ref a :: st) := by
  obtain ⟨ha, sf, h1, h2, h3, h4⟩ := isR_ok (g := g) e
  exact h_getf d F ha h3 h4 kk
theorem a_pi {a idx ci fi : Nat} {x : Int32} (d : decode (mcc M) pc = .ok (.putfield idx, 3)) (F : Flk (mown M) idx ci fi false .int) (e : isI S a ci fi = true) (kk : AW M X Q ad k n (conc S (pF g a fi x)) (pc + 3) ls st) : AW M X Q ad k n (conc S g) pc ls (.int x :: .ref a :: st) := by
  obtain ⟨ha, sf, y, h1, h2, h3, h4⟩ := isI_ok (g := g) e
  have hl : fi < (cf (g.1 a) 0 sf).length := (List.getElem?_eq_some_iff.mp h4).1
  refine h_putf d F ha h3 hl rfl rfl ?_
  rw [conc_pF x h1 h2]
  exact kk
theorem a_pz {a idx ci fi : Nat} {x : Int32} (d : decode (mcc M) pc = .ok (.putfield idx, 3)) (F : Flk (mown M) idx ci fi false .boolean) (hx : x = 0 ∨ x = 1) (e : isI S a ci fi = true) (kk : AW M X Q ad k n (conc S (pF g a fi x)) (pc + 3) ls st) : AW M X Q ad k n (conc S g) pc ls (.int x :: .ref a :: st) := by
  obtain ⟨ha, sf, y, h1, h2, h3, h4⟩ := isI_ok (g := g) e
  have hl : fi < (cf (g.1 a) 0 sf).length := (List.getElem?_eq_some_iff.mp h4).1
  refine h_putf d F ha h3 hl (by rcases hx with rfl | rfl <;> rfl) (by rcases hx with rfl | rfl <;> rfl) ?_
  rw [conc_pF x h1 h2]
  exact kk
theorem h_ial {a m : Nat} {f : Nat → Int32} {i : Int32} (d : decode (mcc M) pc = .ok (.iaload, 1)) (ha : a < h.1) (hc : h.2 a = .inl (0, m, .inl f)) (hin : vp_in i m) (kk : AW M X Q ad k n h (pc + 1) ls (.int (f i.toNatClampNeg) :: st)) : AW M X Q ad k n h pc ls (.int i :: .ref a :: st) :=
  fun C H locs lc r => va_iald C.1 C.2.1 C.2.2.2.2.2.2.2.2.1.1 r.1 a 0 (by rw [sw_at ha, hc]; rfl) rfl hin d (kk C H locs lc r)
theorem h_zal {a m : Nat} {f : Nat → Int32} {i : Int32} (d : decode (mcc M) pc = .ok (.baload, 1)) (ha : a < h.1) (hc : h.2 a = .inl (2, m, .inl f)) (hin : vp_in i m) (kk : AW M X Q ad k n h (pc + 1) ls (.int (f i.toNatClampNeg) :: st)) : AW M X Q ad k n h pc ls (.int i :: .ref a :: st) :=
  fun C H locs lc r => va_zald C.1 C.2.1 C.2.2.2.2.2.2.2.2.1.1 r.1 a 2 (by rw [sw_at ha, hc]; rfl) rfl hin d (kk C H locs lc r)
theorem h_lal {a m : Nat} {f : Nat → Int64} {i : Int32} (d : decode (mcc M) pc = .ok (.laload, 1)) (ha : a < h.1) (hc : h.2 a = .inl (1, m, .inr (.inl f))) (hin : vp_in i m) (kk : AW M X Q ad k n h (pc + 1) ls (.long (f i.toNatClampNeg) :: st)) : AW M X Q ad k n h pc ls (.int i :: .ref a :: st) :=
  fun C H locs lc r => va_lald C.1 C.2.1 C.2.2.2.2.2.2.2.2.1.1 r.1 a 1 (by rw [sw_at ha, hc]; rfl) rfl hin d (kk C H locs lc r)
theorem h_ast {a m : Nat} {f : Nat → Int32} {i x : Int32} (d : decode (mcc M) pc = .ok (.iastore, 1)) (ha : a < h.1) (hc : h.2 a = .inl (0, m, .inl f)) (hin : vp_in i m) (kk : AW M X Q ad k n (h.1, va_up h.2 a (.inl (0, m, .inl (upd f i.toNatClampNeg x)))) (pc + 1) ls st) : AW M X Q ad k n h pc ls (.int x :: .int i :: .ref a :: st) := by
  intro C H locs lc r
  refine va_iast C.1 C.2.1 C.2.2.2.2.2.2.2.2.1.1 r.1 r.2.1 r.2.2.1 a 0 (cA := xdA X 0) (n := m) (f := f) (by rw [sw_at ha, hc]; rfl) rfl hin d (fun H1 locs1 hP hD hS => ?_)
  have e := sw_set (dA := xdA X) (ad := ad) (h := h) (a := a) (c := .inl (0, m, .inl (upd f i.toNatClampNeg x))) ha
  exact kk C H1 locs1 lc ⟨e ▸ hP, e ▸ hD, hS, r.2.2.2⟩
theorem h_zst {a m : Nat} {f : Nat → Int32} {i x : Int32} (d : decode (mcc M) pc = .ok (.bastore, 1)) (ha : a < h.1) (hc : h.2 a = .inl (2, m, .inl f)) (hin : vp_in i m) (hx : x = 0 ∨ x = 1) (kk : AW M X Q ad k n (h.1, va_up h.2 a (.inl (2, m, .inl (upd f i.toNatClampNeg x)))) (pc + 1) ls st) : AW M X Q ad k n h pc ls (.int x :: .int i :: .ref a :: st) := by
  intro C H locs lc r
  refine va_zast C.1 C.2.1 C.2.2.2.2.2.2.2.2.1.1 r.1 r.2.1 r.2.2.1 a 2 (cA := xdA X 2) (n := m) (f := f) (by rw [sw_at ha, hc]; rfl) rfl hin d (fun H1 locs1 hP hD hS => ?_)
  have ex : vp_nar .boolean x = x := by rcases hx with rfl | rfl <;> rfl
  rw [ex] at hP hD
  have e := sw_set (dA := xdA X) (ad := ad) (h := h) (a := a) (c := .inl (2, m, .inl (upd f i.toNatClampNeg x))) ha
  exact kk C H1 locs1 lc ⟨e ▸ hP, e ▸ hD, hS, r.2.2.2⟩
theorem h_lst {a m : Nat} {f : Nat → Int64} {i : Int32} {x : Int64} (d : decode (mcc M) pc = .ok (.lastore, 1)) (ha : a < h.1) (hc : h.2 a = .inl (1, m, .inr (.inl f))) (hin : vp_in i m) (kk : AW M X Q ad k n (h.1, va_up h.2 a (.inl (1, m, .inr (.inl (vp_updL f i.toNatClampNeg x))))) (pc + 1) ls st) : AW M X Q ad k n h pc ls (.long x :: .int i :: .ref a :: st) := by
  intro C H locs lc r
  refine va_last C.1 C.2.1 C.2.2.2.2.2.2.2.2.1.1 r.1 r.2.1 r.2.2.1 a 1 (cA := xdA X 1) (n := m) (f := f) (by rw [sw_at ha, hc]; rfl) rfl hin d (fun H1 locs1 hP hD hS => ?_)
  have e := sw_set (dA := xdA X) (ad := ad) (h := h) (a := a) (c := .inl (1, m, .inr (.inl (vp_updL f i.toNatClampNeg x)))) ha
  exact kk C H1 locs1 lc ⟨e ▸ hP, e ▸ hD, hS, r.2.2.2⟩
theorem a_ial {a m : Nat} {i : Int32} (j : Nat) (d : decode (mcc M) pc = .ok (.iaload, 1)) (e : arI S a 0 m = true) (hi : i = nI j) (hj : j < m) (kk : AW M X Q ad k n (conc S g) (pc + 1) ls (.int (gA g a j) :: st)) : AW M X Q ad k n (conc S g) pc ls (.int i :: .ref a :: st) := by
  obtain ⟨ha, hm, hz, h3⟩ := arI_ok (g := g) e
  subst hi
  refine h_ial d ha h3 (vp_in_nI hj hm) ?_
  rw [nI_clamp (by omega)]
  exact kk
theorem a_zal {a m : Nat} {i : Int32} (j : Nat) (d : decode (mcc M) pc = .ok (.baload, 1)) (e : arI S a 2 m = true) (hi : i = nI j) (hj : j < m) (kk : AW M X Q ad k n (conc S g) (pc + 1) ls (.int (gA g a j) :: st)) : AW M X Q ad k n (conc S g) pc ls (.int i :: .ref a :: st) := by
  obtain ⟨ha, hm, hz, h3⟩ := arI_ok (g := g) e
  subst hi
  refine h_zal d ha h3 (vp_in_nI hj hm) ?_
  rw [nI_clamp (by omega)]
  exact kk
theorem a_lal {a m : Nat} {i : Int32} (j : Nat) (d : decode (mcc M) pc = .ok (.laload, 1)) (e : arL S a m = true) (hi : i = nI j) (hj : j < m) (kk : AW M X Q ad k n (conc S g) (pc + 1) ls (.long (gL g a j) :: st)) : AW M X Q ad k n (conc S g) pc ls (.int i :: .ref a :: st) := by
  obtain ⟨ha, hm, hz, h3⟩ := arL_ok (g := g) e
  subst hi
  refine h_lal d ha h3 (vp_in_nI hj hm) ?_
  rw [nI_clamp (by omega)]
  exact kk
theorem a_ast {a m : Nat} {i x : Int32} (j : Nat) (d : decode (mcc M) pc = .ok (.iastore, 1)) (e : arI S a 0 m = true) (hi : i = nI j) (hj : j < m) (kk : AW M X Q ad k n (conc S (pA g a (upd (gA g a) j x))) (pc + 1) ls st) : AW M X Q ad k n (conc S g) pc ls (.int x :: .int i :: .ref a :: st) := by
  obtain ⟨ha, hm, ⟨z, hz⟩, h3⟩ := arI_ok (g := g) e
  subst hi
  refine h_ast d ha h3 (vp_in_nI hj hm) ?_
  rw [nI_clamp (by omega), conc_pA _ hz]
  exact kk
theorem a_zst {a m : Nat} {i x : Int32} (j : Nat) (d : decode (mcc M) pc = .ok (.bastore, 1)) (e : arI S a 2 m = true) (hi : i = nI j) (hj : j < m) (hx : x = 0 ∨ x = 1) (kk : AW M X Q ad k n (conc S (pA g a (upd (gA g a) j x))) (pc + 1) ls st) : AW M X Q ad k n (conc S g) pc ls (.int x :: .int i :: .ref a :: st) := by
  obtain ⟨ha, hm, ⟨z, hz⟩, h3⟩ := arI_ok (g := g) e
  subst hi
  refine h_zst d ha h3 (vp_in_nI hj hm) hx ?_
  rw [nI_clamp (by omega), conc_pA _ hz]
  exact kk
theorem a_lst {a m : Nat} {i : Int32} {x : Int64} (j : Nat) (d : decode (mcc M) pc = .ok (.lastore, 1)) (e : arL S a m = true) (hi : i = nI j) (hj : j < m) (kk : AW M X Q ad k n (conc S (pL g a (vp_updL (gL g a) j x))) (pc + 1) ls st) : AW M X Q ad k n (conc S g) pc ls (.long x :: .int i :: .ref a :: st) := by
  obtain ⟨ha, hm, ⟨z, hz⟩, h3⟩ := arL_ok (g := g) e
  subst hi
  refine h_lst d ha h3 (vp_in_nI hj hm) ?_
  rw [nI_clamp (by omega), conc_pL _ hz]
  exact kk
theorem h_aal {a t m : Nat} {f : Nat → Option Nat} {i : Int32} {r : Nat} (ht : t = 3 ∨ t = 4) (d : decode (mcc M) pc = .ok (.aaload, 1)) (ha : a < h.1) (hc : h.2 a = .inl (t, m, .inr (.inr (.inr (.inr f))))) (hin : vp_in i m) (hr : f i.toNatClampNeg = some r) (kk : AW M X Q ad k n h (pc + 1) ls (.ref r :: st)) : AW M X Q ad k n h pc ls (.int i :: .ref a :: st) := by
  intro C H locs lc w
  have hlt : i.toNatClampNeg < m := Nat.not_le.mp fun q => hin (Or.inr q)
  have hcell : (sw (xdA X) ad h)[a]? = some (ad a, .inl (xdA X t, m, .inr (.inr (.inr (.inr (fun j => (f j).map ad)))))) := by rw [sw_at ha, hc]; rfl
  have hv : (arrV (xdA X t) m (fun j => va_rf ((f j).map ad))).slots[i.toNatClampNeg]? = some (.ref (ad r)) := by rw [arrV_read _ _ hlt, hr]; rfl
  rcases ht with rfl | rfl
  · exact W.aald (v := .ref (ad r)) (ty := .object "OrderedDisc$Kind") C.1 C.2.1 (w.1 a _ hcell) ((C.2.2.2.2.2.2.2.2.1.1.2 3 _ rfl).1 m (fun j => va_rf ((f j).map ad))) rfl (fun q => by cases q) (by show ¬ (i < 0 ∨ (arrV _ _ _).slots.size ≤ _); rw [arrV_size]; exact hin) hv rfl rfl d (kk C H locs lc w)
  · exact W.aald (v := .ref (ad r)) (ty := .array .int) C.1 C.2.1 (w.1 a _ hcell) ((C.2.2.2.2.2.2.2.2.1.1.2 4 _ rfl).1 m (fun j => va_rf ((f j).map ad))) rfl (fun q => by cases q) (by show ¬ (i < 0 ∨ (arrV _ _ _).slots.size ≤ _); rw [arrV_size]; exact hin) hv rfl rfl d (kk C H locs lc w)
theorem a_aal {a t m : Nat} {i : Int32} (j r : Nat) (ht : t = 3 ∨ t = 4) (d : decode (mcc M) pc = .ok (.aaload, 1)) (e : arR S a t m j r = true) (hi : i = nI j) (kk : AW M X Q ad k n (conc S g) (pc + 1) ls (.ref r :: st)) : AW M X Q ad k n (conc S g) pc ls (.int i :: .ref a :: st) := by
  obtain ⟨ha, hm, hj, f, h3, h4⟩ := arR_ok (g := g) e
  subst hi
  exact h_aal ht d ha h3 (vp_in_nI hj hm) (by rw [nI_clamp (by omega)]; exact h4) kk
theorem h_alen {a t m : Nat} {x : (Nat → Int32) ⊕ (Nat → Int64) ⊕ (Nat → UInt32) ⊕ (Nat → UInt64) ⊕ (Nat → Option Nat)} (ht : t < 5) (d : decode (mcc M) pc = .ok (.arraylength, 1)) (ha : a < h.1) (hc : h.2 a = .inl (t, m, x)) (kk : AW M X Q ad k n h (pc + 1) ls (.int (nI m) :: st)) : AW M X Q ad k n h pc ls (.ref a :: st) := by
  intro C H locs lc w
  have hcell : (sw (xdA X) ad h)[a]? = some (ad a, .inl (xdA X t, sa ad (m, x))) := by rw [sw_at ha, hc]; rfl
  obtain ⟨ty, hty⟩ : ∃ ty, (sT (xdA X))[t]? = some (xdA X t, ty) := by
    match t, ht with
    | 0, _ => exact ⟨_, rfl⟩
    | 1, _ => exact ⟨_, rfl⟩
    | 2, _ => exact ⟨_, rfl⟩
    | 3, _ => exact ⟨_, rfl⟩
    | 4, _ => exact ⟨_, rfl⟩
  refine va_alen C.1 C.2.1 C.2.2.2.2.2.2.2.2.1.1 w.1 a t hcell hty (v := nI m) ?_ d (kk C H locs lc w)
  have : (sa ad (m, x)).1 = m := by
    unfold sa
    split
    · rename_i e
      cases e
      rfl
    · rfl
  rw [this]
  rfl
end A5
end
section
/-! CONTRACTS over stores, and calls -/
def rmD (d : Nat) : Room := { frames := d, cells := 0, slots := 0, locals := 64 * d }
def Wd (D : va_G) (dA : Nat → ClassId) (ad : Nat → Nat) (S : sH) (g : GH) (sz : Nat) (U : State) : Prop := U.heap.size = sz ∧ va_P D vwCl (sw dA ad (conc S g)) U.heap ∧ Kn D dA U ∧ va_D (fun _ => True) (sw dA ad (conc S g))
def Bd (D : va_G) (dA : Nat → ClassId) (ad : Nat → Nat) (S : sH) (g : GH) (sz : Nat) (u : sH × GH) (t : State) : Prop := u.1.1 = S.1 ∧ va_P D vwCl (sw dA ad (conc u.1 u.2)) t.heap ∧ va_D (va_A (sw dA ad (conc S g)) sz) (sw dA ad (conc u.1 u.2))
def ACi (M : Mi) (d : Nat) (S : sH) (g : GH) (vs : List Value) (Po : Int32 → sH → GH → Prop) : Prop := ∀ (l : Launch) (D : va_G) (dA : Nat → ClassId) (ad : Nat → Nat) (sz : Nat), Met l (my M) (mws M) (rmD d) (va_Pc (vs.map (sv ad)) (Wd D dA ad S g sz)) (va_Qi (fun r (u : sH × GH) => Po r u.1 u.2) (Bd D dA ad S g sz) (va_A (sw dA ad (conc S g)) sz)) 0 0 (va_A (sw dA ad (conc S g)) sz)
def ACl (M : Mi) (d : Nat) (S : sH) (g : GH) (vs : List Value) (Po : Int64 → sH → GH → Prop) : Prop := ∀ (l : Launch) (D : va_G) (dA : Nat → ClassId) (ad : Nat → Nat) (sz : Nat), Met l (my M) (mws M) (rmD d) (va_Pc (vs.map (sv ad)) (Wd D dA ad S g sz)) (va_Ql (fun r (u : sH × GH) => Po r u.1 u.2) (Bd D dA ad S g sz) (va_A (sw dA ad (conc S g)) sz)) 0 0 (va_A (sw dA ad (conc S g)) sz)
def ACv (M : Mi) (d : Nat) (S : sH) (g : GH) (vs : List Value) (Po : sH → GH → Prop) : Prop := ∀ (l : Launch) (D : va_G) (dA : Nat → ClassId) (ad : Nat → Nat) (sz : Nat), Met l (my M) (mws M) (rmD d) (va_Pc (vs.map (sv ad)) (Wd D dA ad S g sz)) (va_Qv (fun (u : sH × GH) => Po u.1 u.2) (Bd D dA ad S g sz) (va_A (sw dA ad (conc S g)) sz)) 0 0 (va_A (sw dA ad (conc S g)) sz)
theorem Wd.blind {D : va_G} {dA : Nat → ClassId} {ad : Nat → Nat} {S : sH} {g : GH} {sz : Nat} {vs : List Value} : FrameBlind (va_Pc (vs.map (sv ad)) (Wd D dA ad S g sz)) := fun _ U _ _ q => ⟨q.1, q.2.1, q.2.2.1, Kn.same (s := U) rfl q.2.2.2.1, q.2.2.2.2⟩
theorem sen_has (ad : Nat → Nat) (vs : List Value) {n : Nat} (hn : (lg_sl vs).length ≤ n) : lv_has ((lg_sl (vs.map (sv ad)) ++ List.replicate (n - (lg_sl (vs.map (sv ad))).length) Slot.unset).toArray) n (sl ad (sen n vs)) := by
  have hlen : ∀ vs : List Value, (lg_sl (vs.map (sv ad))).length = (lg_sl vs).length := by
    intro vs
    induction vs with
    | nil => rfl
    | cons v vs ih =>
      simp only [lg_sl, List.map_cons, List.flatMap_cons, List.length_append, sv_cat] at ih ⊢
      rw [ih]
      by_cases hc : v.category = 2 <;> simp [hc]
  have h1 := lv_entry (vs.map (sv ad)) (n := n) (by rw [hlen vs]; exact hn)
  refine ⟨h1.1, h1.2.1, fun q hq => ?_⟩
  obtain ⟨v, hv, hq2⟩ := sl_mem.mp hq
  have hs : (vs.flatMap fun v => if v.category = 2 then [some v, none] else [some v])[q.1]? = some (some v) := by
    unfold sen at hv
    by_cases hl : q.1 < (vs.flatMap fun v => if v.category = 2 then [some v, none] else [some v]).length
    · rw [List.getElem?_append_left hl] at hv
      exact hv
    · rw [List.getElem?_append_right (by omega)] at hv
      have := List.eq_of_mem_replicate (List.mem_of_getElem? hv)
      cases this
  have key : ∀ (vs : List Value) (i : Nat), (vs.flatMap fun v => if v.category = 2 then [some v, none] else [some v])[i]? = some (some v) → (lg_sl (vs.map (sv ad)))[i]? = some (.val (sv ad v)) := by
    intro vs
    induction vs with
    | nil => intro i h; simp at h
    | cons w vs ih =>
      intro i h
      simp only [List.flatMap_cons] at h
      simp only [lg_sl, List.map_cons, List.flatMap_cons, sv_cat]
      by_cases hc : w.category = 2
      · simp only [hc, if_true] at h ⊢
        match i, h with
        | 0, h =>
          simp at h
          subst h
          simp
        | 1, h => simp at h
        | i + 2, h =>
          have h2 : (vs.flatMap fun v => if v.category = 2 then [some v, none] else [some v])[i]? = some (some v) := by simpa using h
          simpa [lg_sl] using ih i h2
      · simp only [hc, if_false] at h ⊢
        match i, h with
        | 0, h =>
          simp at h
          subst h
          simp
        | i + 1, h =>
          have h2 : (vs.flatMap fun v => if v.category = 2 then [some v, none] else [some v])[i]? = some (some v) := by simpa using h
          simpa [lg_sl] using ih i h2
  have hk := key vs q.1 hs
  have hl : q.1 < (lg_sl (vs.map (sv ad))).length := (List.getElem?_eq_some_iff.mp hk).1
  rw [hq2, List.getElem?_toArray, List.getElem?_append_left hl]
  exact hk
def Fit (X : Cx) (M : Mi) (d k n : Nat) : Prop := (d + 1 ≤ (xR X).frames ∧ 8 + (mnL M + 11) + 64 * d ≤ (xR X).locals) ∧ k ≤ (xR X).cells ∧ n ≤ (xR X).slots
theorem fit_of {X : Cx} {M : Mi} {d e : Nat} (hR : xR X = rmD e) (h : d < e) (hL : Nat.ble (mnL M) 45 = true) : Fit X M d 0 0 := by
  have h2 := Nat.le_of_ble_eq_true hL
  unfold Fit
  rw [hR]
  exact ⟨⟨h, by show 8 + (mnL M + 11) + 64 * d ≤ 64 * e; omega⟩, Nat.zero_le _, Nat.zero_le _⟩
def LkC (M : Mi) (n : Nat) : Prop := Cond.code (my M) (mcc M) (mnL M) (mret M) ∈ gW ∧ (mown M ≠ "java/lang/invoke/MethodHandle" ∧ mown M ≠ "java/lang/invoke/VarHandle" ∧ (parseMethodDescriptor (mds M)).map (fun d => d.parameters.length) = some n) ∧ Cond.initialized (mown M) ∈ gW ∧ plainName (mown M) = true
def LkV (own : String) (idx : Nat) (M : Mi) : Prop := Cond.methodLink own idx (my M) ∈ gW ∧ Cond.instanceMethod (my M) ∈ gW ∧ Cond.selects (mown M) (my M) (my M) ∈ gW
def LkS (own : String) (idx : Nat) (M : Mi) : Prop := Cond.methodLink own idx (my M) ∈ gW ∧ Cond.static (my M) ∈ gW
def LkN (own : String) (idx : Nat) (M : Mi) : Prop := (∃ host : String, Cond.methodLinkNest own idx (my M) host ∈ nW) ∧ Cond.static (my M) ∈ gW
def LkU (own : String) (idx : Nat) (C : String) (M : Mi) (n : Nat) : Prop := ∃ (owner : String) (x : MethodName), Cond.methodLink own idx x ∈ gW ∧ Cond.sameMethod x.cls owner x.name x.desc ∈ gW ∧ Cond.selects C x (my M) ∈ gW ∧ Cond.instanceMethod (my M) ∈ gW ∧ (owner ≠ "java/lang/invoke/MethodHandle" ∧ owner ≠ "java/lang/invoke/VarHandle" ∧ (parseMethodDescriptor x.desc).map (fun d => d.parameters.length) = some n) ∧ (my M = ⟨owner, x.name, x.desc⟩ ∨ (∃ (b0 : ByteArray) (m0 : Nat) (r0 : Option FieldType), Cond.instanceMethod ⟨owner, x.name, x.desc⟩ ∈ gW ∧ Cond.code ⟨owner, x.name, x.desc⟩ b0 m0 r0 ∈ gW) ∨ Cond.declares ⟨owner, x.name, x.desc⟩ ∈ nW)
/-- an object of a class stands at a place -/
def isO (S : sH) (a ci : Nat) : Bool := Nat.blt a S.1 && (match S.2 a with
  | .inr x => Nat.beq x.1 ci
  | _ => false)
theorem isO_ok {S : sH} {g : GH} {a ci : Nat} (h : isO S a ci = true) : a < S.1 ∧ ∃ fs, (conc S g).2 a = .inr (ci, fs) := by
  simp only [isO, Bool.and_eq_true] at h
  obtain ⟨h1, h2⟩ := h
  refine ⟨blt_lt h1, ?_⟩
  split at h2
  · rename_i x hx
    have h3 := Nat.eq_of_beq_eq_true h2
    obtain ⟨c, sf⟩ := x
    simp only at h3
    subst h3
    refine ⟨cf (g.1 a) 0 sf, ?_⟩
    show cg g a (S.2 a) = _
    rw [hx]
    rfl
  · cases h2
section A6
variable {M : Mi} {X : Cx} {Q : State → Prop} {ad : Nat → Nat} {k n : Nat} {S : sH} {g : GH} {pc : Nat} {ls : List (Option Value)} {st : List Value}
theorem Rl.free {h : sH} {H : Heap} {locs : List Loc} {lc : Array Slot} (C : XOk M X) (r : Rl M X ad h ls H locs lc) : ∀ q, va_A (sw (xdA X) ad h) H.size q → xA X q := by
  intro q hq
  rcases hq with ⟨i, e, hi⟩ | hq
  · exact r.2.1.2 i (q, e) hi
  · exact C.2.2.2.2.2.2.2.2.2 q (Nat.le_trans r.2.2.1.1 hq)
theorem Rl.pre {vs : List Value} {H : Heap} {locs : List Loc} {lc : Array Slot} (C : XOk M X) (r : Rl M X ad (conc S g) ls H locs lc) : ∀ U : State, U.heap = H → (xs X).WarmedH U.vm → va_Pc (vs.map (sv ad)) (Wd (xD X) (xdA X) ad S g H.size) (vs.map (sv ad)).toArray U :=
  fun U hU hW => ⟨rfl, by rw [hU], by rw [hU]; exact r.1, Kn.warm hW C.2.2.2.2.2.2.2.2.1, r.2.1.weaken (fun _ _ _ _ => trivial)⟩
theorem rest_cat (st : List Value) (h : (st.map Value.category).sum ≤ 8) : ((st.map (sv ad)).map fun v => v.category).sum ≤ 8 := by
  rw [List.map_map]
  have : (fun v : Value => v.category) ∘ sv ad = Value.category := funext fun v => sv_cat ad v
  rw [this]
  exact h

theorem core_i {M' : Mi} {d' : Nat} {vs : List Value} {Po : Int32 → sH → GH → Prop} (c : ACi M' d' S g vs Po) {stk : List Value}
    (hrun : XOk M X → ∀ (H : Heap) (locs : List Loc) (lc : Array Slot), Rl M X ad (conc S g) ls H locs lc → Met (xl X) (my M') (mws M') (rmD d') (va_Pc (vs.map (sv ad)) (Wd (xD X) (xdA X) ad S g H.size)) (va_Qi (fun r (u : sH × GH) => Po r u.1 u.2) (Bd (xD X) (xdA X) ad S g H.size) (va_A (sw (xdA X) ad (conc S g)) H.size)) 0 0 (va_A (sw (xdA X) ad (conc S g)) H.size) →
      va_Run (xp X) (xl X) (xe X) (xR X) (xs X) (xm X) (xa X) (xb X) (xme X) (xc X) H locs k n 0 0 (F0 (xm X) pc lc (stk.map (sv ad))) (st.map (sv ad)) ((va_Qi (fun r (u : sH × GH) => Po r u.1 u.2) (Bd (xD X) (xdA X) ad S g H.size) (va_A (sw (xdA X) ad (conc S g)) H.size)) (vs.map (sv ad)).toArray) (va_A (sw (xdA X) ad (conc S g)) H.size))
    (kk : ∀ (r : Int32) (S' : sH) (g' : GH), S'.1 = S.1 → Po r S' g' → AW M X Q ad k n (conc S' g') (pc + 3) ls (.int r :: st)) : AW M X Q ad k n (conc S g) pc ls stk := by
  intro C H locs lc r
  have hF := Rl.free C r
  exact va_calli (hrun C H locs lc r (c (xl X) (xD X) (xdA X) ad H.size)) r.2.2.1 (fun q _ hq => hF q hq) hF (fun r1 u t H1 locs1 ht hvm hp hB hz hk hS => kk r1 u.1 u.2 hB.1 hp C H1 locs1 lc ⟨ht ▸ hB.2.1, hB.2.2.weaken (fun _ _ _ hq => hF _ hq), hS, r.2.2.2⟩)
theorem call_Vi {M' : Mi} {d' a idx ci nn : Nat} {q : vw_C} {vs : List Value} {Po : Int32 → sH → GH → Prop} (d : decode (mcc M) pc = .ok (.invokevirtual idx, 3)) (LC : LkC M' nn) (L : LkV (mown M) idx M') (hq : vwCl[ci]? = some q) (hq1 : q.1 = mown M') (e : isO S a ci = true) (hR : Fit X M' d' k n) (c : ACi M' d' S g (.ref a :: vs) Po) (hn : vs.length = nn) (hw : Nat.ble (st.map Value.category).sum 8 = true)
    (kk : ∀ (r : Int32) (S' : sH) (g' : GH), S'.1 = S.1 → Po r S' g' → AW M X Q ad k n (conc S' g') (pc + 3) ls (.int r :: st)) : AW M X Q ad k n (conc S g) pc ls (vs.reverse ++ .ref a :: st) := by
  refine core_i c (fun C H locs lc r hM => ?_) kk
  obtain ⟨ha, fs, hfs⟩ := isO_ok (g := g) e
  have hG : GoodIn gW (wsV (mown M) idx (mown M') (my M') (mws M')) := by
    intro w hwm
    simp only [wsV, List.cons_append, List.nil_append, List.mem_cons] at hwm
    rcases hwm with rfl | rfl | rfl | rfl | h
    · exact gW_good _ L.1
    · exact gW_good _ L.2.1
    · exact gW_good _ L.2.2
    · exact gW_good _ LC.2.2.1
    · exact gW_cons LC.1 _ h
  have hrec := va_recv (q := q) C.2.2.2.2.2.2.2.2.1.1 r.1 hq (q0 := a) (a := ad a) (ci := ci) (fs := fs.map (sv ad)) (by rw [sw_at (h := conc S g) ha, hfs]; rfl)
  rw [hq1] at hrec
  refine va_runV (As := vs.map (sv ad)) (b := ad a) (n := nn) (C := mown M') ⟨C.1, C.2.1, C.2.2.1, C.2.2.2.1, C.2.2.2.2.1⟩ hM (cwV nn C.2.2.2.2.1 hG rfl rfl rfl ⟨rfl, LC.2.1⟩ hR.1) ⟨Wd.blind, hrec, Rl.pre C r⟩ rfl (by simpa using hn) r.2.2.2.1 (by simp [F0, sv]) (lv_room (rest_cat st (Nat.le_of_ble_eq_true hw))) d hR.2
theorem call_Ui {M' : Mi} {d' a idx ci nn : Nat} {q : vw_C} {vs : List Value} {Po : Int32 → sH → GH → Prop} (d : decode (mcc M) pc = .ok (.invokevirtual idx, 3)) (hq : vwCl[ci]? = some q) (LC : LkC M' nn) (L : LkU (mown M) idx q.1 M' nn) (e : isO S a ci = true) (hR : Fit X M' d' k n) (c : ACi M' d' S g (.ref a :: vs) Po) (hn : vs.length = nn) (hw : Nat.ble (st.map Value.category).sum 8 = true)
    (kk : ∀ (r : Int32) (S' : sH) (g' : GH), S'.1 = S.1 → Po r S' g' → AW M X Q ad k n (conc S' g') (pc + 3) ls (.int r :: st)) : AW M X Q ad k n (conc S g) pc ls (vs.reverse ++ .ref a :: st) := by
  refine core_i c (fun C H locs lc r hM => ?_) kk
  obtain ⟨ha, fs, hfs⟩ := isO_ok (g := g) e
  obtain ⟨owner, x, l1, l2, l3, l4, l5, l6⟩ := L
  have hrec := va_recv (q := q) C.2.2.2.2.2.2.2.2.1.1 r.1 hq (q0 := a) (a := ad a) (ci := ci) (fs := fs.map (sv ad)) (by rw [sw_at (h := conc S g) ha, hfs]; rfl)
  have hcw : va_CU (xR X) (xs X) (xa X) (mown M) q.1 owner idx x (my M') (mcc M') (mnL M') (mret M') (mws M') (rmD d') 0 0 nn := by
    have hG : GoodIn gW (va_wsU (mown M) idx q.1 owner x (my M') (mws M')) := by
      intro w hwm
      simp only [va_wsU, List.cons_append, List.nil_append, List.mem_cons] at hwm
      rcases hwm with rfl | rfl | rfl | rfl | rfl | h
      · exact gW_good _ l1
      · exact gW_good _ l2
      · exact gW_good _ l3
      · exact gW_good _ l4
      · exact gW_good _ LC.2.2.1
      · exact gW_cons LC.1 _ h
    rcases l6 with h | ⟨b0, m0, r0, h0, h⟩ | h
    · exact va_cwU nn C.2.2.2.2.1 hG rfl rfl rfl h l5 hR.1
    · refine va_cwO nn C.2.2.2.2.1 ?_ rfl rfl rfl h l5 hR.1
      intro w hwm
      simp only [va_wsO, List.cons_append, List.nil_append, List.mem_cons] at hwm
      rcases hwm with rfl | rfl | rfl | rfl | rfl | rfl | h
      · exact gW_good _ l1
      · exact gW_good _ l2
      · exact gW_good _ h0
      · exact gW_good _ l3
      · exact gW_good _ l4
      · exact gW_good _ LC.2.2.1
      · exact gW_cons LC.1 _ h
    · exact va_cwA nn C.2.2.2.2.1 hG rfl rfl rfl (C.2.2.2.2.2.2.2.2.1.2.1 _ h) l5 hR.1
  exact va_runU (As := vs.map (sv ad)) (b := ad a) (n := nn) ⟨C.1, C.2.1, C.2.2.1, C.2.2.2.1, C.2.2.2.2.1⟩ hM hcw ⟨Wd.blind, hrec, Rl.pre C r⟩ rfl (by simpa using hn) r.2.2.2.1 (by simp [F0, sv]) (lv_room (rest_cat st (Nat.le_of_ble_eq_true hw))) d hR.2
theorem call_Si {M' : Mi} {d' idx nn : Nat} {vs : List Value} {Po : Int32 → sH → GH → Prop} (d : decode (mcc M) pc = .ok (.invokestatic idx, 3)) (LC : LkC M' nn) (L : LkS (mown M) idx M' ∨ LkN (mown M) idx M') (hR : Fit X M' d' k n) (c : ACi M' d' S g vs Po) (hn : vs.length = nn) (hw : Nat.ble (st.map Value.category).sum 8 = true)
    (kk : ∀ (r : Int32) (S' : sH) (g' : GH), S'.1 = S.1 → Po r S' g' → AW M X Q ad k n (conc S' g') (pc + 3) ls (.int r :: st)) : AW M X Q ad k n (conc S g) pc ls (vs.reverse ++ st) := by
  refine core_i c (fun C H locs lc r hM => ?_) kk
  rcases L with L | L
  · have hG : GoodIn gW (va_wsS (mown M) idx (my M') (mws M')) := by
      intro w hwm
      simp only [va_wsS, List.cons_append, List.nil_append, List.mem_cons] at hwm
      rcases hwm with rfl | rfl | rfl | h
      · exact gW_good _ L.1
      · exact gW_good _ L.2
      · exact gW_good _ LC.2.2.1
      · exact gW_cons LC.1 _ h
    exact va_runS (As := vs.map (sv ad)) (n := nn) ⟨C.1, C.2.1, C.2.2.1, C.2.2.2.1, C.2.2.2.2.1⟩ hM (va_cwS nn C.2.2.2.2.1 hG rfl rfl rfl LC.2.1 hR.1) ⟨Wd.blind, Rl.pre C r⟩ rfl (by simpa using hn) r.2.2.2.1 (by simp [F0]) (lv_room (rest_cat st (Nat.le_of_ble_eq_true hw))) d hR.2
  · obtain ⟨⟨host, hh⟩, hs⟩ := L
    exact va_runSN (As := vs.map (sv ad)) (n := nn) ⟨C.1, C.2.1, C.2.2.1, C.2.2.2.1, C.2.2.2.2.1⟩ hM ⟨va_cnB (host := host) nn C.2.2.2.2.1 (gW_cons LC.1) rfl rfl rfl (C.2.2.2.2.2.2.2.2.1.2.1 _ hh) (C.2.2.2.2.1 _ LC.2.2.1) LC.2.1 hR.1, C.2.2.2.2.1 _ hs, trivial⟩ ⟨Wd.blind, Rl.pre C r⟩ rfl (by simpa using hn) r.2.2.2.1 (by simp [F0]) (lv_room (rest_cat st (Nat.le_of_ble_eq_true hw))) d hR.2
theorem a_V0i {M' : Mi} {d' a idx : Nat} (ci : Nat) {q : vw_C} {vs : List Value} {Po : Int32 → sH → GH → Prop} (d : decode (mcc M) pc = .ok (.invokevirtual idx, 3)) (LC : LkC M' 0) (L : LkV (mown M) idx M') (hq : vwCl[ci]? = some q) (hq1 : q.1 = mown M') (e : isO S a ci = true) (hR : Fit X M' d' k n) (c : ACi M' d' S g vs Po) (hv : vs = [.ref a]) (hw : Nat.ble (st.map Value.category).sum 8 = true) (kk : ∀ (r : Int32) (S' : sH) (g' : GH), S'.1 = S.1 → Po r S' g' → AW M X Q ad k n (conc S' g') (pc + 3) ls (.int r :: st)) : AW M X Q ad k n (conc S g) pc ls (.ref a :: st) := by
  subst hv
  exact call_Vi (vs := []) d LC L hq hq1 e hR c rfl hw kk
theorem a_U0i {M' : Mi} {d' a idx : Nat} (ci : Nat) {q : vw_C} {vs : List Value} {Po : Int32 → sH → GH → Prop} (d : decode (mcc M) pc = .ok (.invokevirtual idx, 3)) (hq : vwCl[ci]? = some q) (LC : LkC M' 0) (L : LkU (mown M) idx q.1 M' 0) (e : isO S a ci = true) (hR : Fit X M' d' k n) (c : ACi M' d' S g vs Po) (hv : vs = [.ref a]) (hw : Nat.ble (st.map Value.category).sum 8 = true) (kk : ∀ (r : Int32) (S' : sH) (g' : GH), S'.1 = S.1 → Po r S' g' → AW M X Q ad k n (conc S' g') (pc + 3) ls (.int r :: st)) : AW M X Q ad k n (conc S g) pc ls (.ref a :: st) := by
  subst hv
  exact call_Ui (vs := []) d hq LC L e hR c rfl hw kk
theorem a_V1i {M' : Mi} {d' a idx : Nat} (ci : Nat) {q : vw_C} {v1 : Value} {vs : List Value} {Po : Int32 → sH → GH → Prop} (d : decode (mcc M) pc = .ok (.invokevirtual idx, 3)) (LC : LkC M' 1) (L : LkV (mown M) idx M') (hq : vwCl[ci]? = some q) (hq1 : q.1 = mown M') (e : isO S a ci = true) (hR : Fit X M' d' k n) (c : ACi M' d' S g vs Po) (hv : vs = [.ref a, v1]) (hw : Nat.ble (st.map Value.category).sum 8 = true) (kk : ∀ (r : Int32) (S' : sH) (g' : GH), S'.1 = S.1 → Po r S' g' → AW M X Q ad k n (conc S' g') (pc + 3) ls (.int r :: st)) : AW M X Q ad k n (conc S g) pc ls (v1 :: .ref a :: st) := by
  subst hv
  exact call_Vi (vs := [v1]) d LC L hq hq1 e hR c rfl hw kk
theorem a_U1i {M' : Mi} {d' a idx : Nat} (ci : Nat) {q : vw_C} {v1 : Value} {vs : List Value} {Po : Int32 → sH → GH → Prop} (d : decode (mcc M) pc = .ok (.invokevirtual idx, 3)) (hq : vwCl[ci]? = some q) (LC : LkC M' 1) (L : LkU (mown M) idx q.1 M' 1) (e : isO S a ci = true) (hR : Fit X M' d' k n) (c : ACi M' d' S g vs Po) (hv : vs = [.ref a, v1]) (hw : Nat.ble (st.map Value.category).sum 8 = true) (kk : ∀ (r : Int32) (S' : sH) (g' : GH), S'.1 = S.1 → Po r S' g' → AW M X Q ad k n (conc S' g') (pc + 3) ls (.int r :: st)) : AW M X Q ad k n (conc S g) pc ls (v1 :: .ref a :: st) := by
  subst hv
  exact call_Ui (vs := [v1]) d hq LC L e hR c rfl hw kk
theorem a_V2i {M' : Mi} {d' a idx : Nat} (ci : Nat) {q : vw_C} {v1 v2 : Value} {vs : List Value} {Po : Int32 → sH → GH → Prop} (d : decode (mcc M) pc = .ok (.invokevirtual idx, 3)) (LC : LkC M' 2) (L : LkV (mown M) idx M') (hq : vwCl[ci]? = some q) (hq1 : q.1 = mown M') (e : isO S a ci = true) (hR : Fit X M' d' k n) (c : ACi M' d' S g vs Po) (hv : vs = [.ref a, v1, v2]) (hw : Nat.ble (st.map Value.category).sum 8 = true) (kk : ∀ (r : Int32) (S' : sH) (g' : GH), S'.1 = S.1 → Po r S' g' → AW M X Q ad k n (conc S' g') (pc + 3) ls (.int r :: st)) : AW M X Q ad k n (conc S g) pc ls (v2 :: v1 :: .ref a :: st) := by
  subst hv
  exact call_Vi (vs := [v1, v2]) d LC L hq hq1 e hR c rfl hw kk
theorem a_U2i {M' : Mi} {d' a idx : Nat} (ci : Nat) {q : vw_C} {v1 v2 : Value} {vs : List Value} {Po : Int32 → sH → GH → Prop} (d : decode (mcc M) pc = .ok (.invokevirtual idx, 3)) (hq : vwCl[ci]? = some q) (LC : LkC M' 2) (L : LkU (mown M) idx q.1 M' 2) (e : isO S a ci = true) (hR : Fit X M' d' k n) (c : ACi M' d' S g vs Po) (hv : vs = [.ref a, v1, v2]) (hw : Nat.ble (st.map Value.category).sum 8 = true) (kk : ∀ (r : Int32) (S' : sH) (g' : GH), S'.1 = S.1 → Po r S' g' → AW M X Q ad k n (conc S' g') (pc + 3) ls (.int r :: st)) : AW M X Q ad k n (conc S g) pc ls (v2 :: v1 :: .ref a :: st) := by
  subst hv
  exact call_Ui (vs := [v1, v2]) d hq LC L e hR c rfl hw kk
theorem a_V3i {M' : Mi} {d' a idx : Nat} (ci : Nat) {q : vw_C} {v1 v2 v3 : Value} {vs : List Value} {Po : Int32 → sH → GH → Prop} (d : decode (mcc M) pc = .ok (.invokevirtual idx, 3)) (LC : LkC M' 3) (L : LkV (mown M) idx M') (hq : vwCl[ci]? = some q) (hq1 : q.1 = mown M') (e : isO S a ci = true) (hR : Fit X M' d' k n) (c : ACi M' d' S g vs Po) (hv : vs = [.ref a, v1, v2, v3]) (hw : Nat.ble (st.map Value.category).sum 8 = true) (kk : ∀ (r : Int32) (S' : sH) (g' : GH), S'.1 = S.1 → Po r S' g' → AW M X Q ad k n (conc S' g') (pc + 3) ls (.int r :: st)) : AW M X Q ad k n (conc S g) pc ls (v3 :: v2 :: v1 :: .ref a :: st) := by
  subst hv
  exact call_Vi (vs := [v1, v2, v3]) d LC L hq hq1 e hR c rfl hw kk
theorem a_U3i {M' : Mi} {d' a idx : Nat} (ci : Nat) {q : vw_C} {v1 v2 v3 : Value} {vs : List Value} {Po : Int32 → sH → GH → Prop} (d : decode (mcc M) pc = .ok (.invokevirtual idx, 3)) (hq : vwCl[ci]? = some q) (LC : LkC M' 3) (L : LkU (mown M) idx q.1 M' 3) (e : isO S a ci = true) (hR : Fit X M' d' k n) (c : ACi M' d' S g vs Po) (hv : vs = [.ref a, v1, v2, v3]) (hw : Nat.ble (st.map Value.category).sum 8 = true) (kk : ∀ (r : Int32) (S' : sH) (g' : GH), S'.1 = S.1 → Po r S' g' → AW M X Q ad k n (conc S' g') (pc + 3) ls (.int r :: st)) : AW M X Q ad k n (conc S g) pc ls (v3 :: v2 :: v1 :: .ref a :: st) := by
  subst hv
  exact call_Ui (vs := [v1, v2, v3]) d hq LC L e hR c rfl hw kk
theorem a_V4i {M' : Mi} {d' a idx : Nat} (ci : Nat) {q : vw_C} {v1 v2 v3 v4 : Value} {vs : List Value} {Po : Int32 → sH → GH → Prop} (d : decode (mcc M) pc = .ok (.invokevirtual idx, 3)) (LC : LkC M' 4) (L : LkV (mown M) idx M') (hq : vwCl[ci]? = some q) (hq1 : q.1 = mown M') (e : isO S a ci = true) (hR : Fit X M' d' k n) (c : ACi M' d' S g vs Po) (hv : vs = [.ref a, v1, v2, v3, v4]) (hw : Nat.ble (st.map Value.category).sum 8 = true) (kk : ∀ (r : Int32) (S' : sH) (g' : GH), S'.1 = S.1 → Po r S' g' → AW M X Q ad k n (conc S' g') (pc + 3) ls (.int r :: st)) : AW M X Q ad k n (conc S g) pc ls (v4 :: v3 :: v2 :: v1 :: .ref a :: st) := by
  subst hv
  exact call_Vi (vs := [v1, v2, v3, v4]) d LC L hq hq1 e hR c rfl hw kk
theorem a_U4i {M' : Mi} {d' a idx : Nat} (ci : Nat) {q : vw_C} {v1 v2 v3 v4 : Value} {vs : List Value} {Po : Int32 → sH → GH → Prop} (d : decode (mcc M) pc = .ok (.invokevirtual idx, 3)) (hq : vwCl[ci]? = some q) (LC : LkC M' 4) (L : LkU (mown M) idx q.1 M' 4) (e : isO S a ci = true) (hR : Fit X M' d' k n) (c : ACi M' d' S g vs Po) (hv : vs = [.ref a, v1, v2, v3, v4]) (hw : Nat.ble (st.map Value.category).sum 8 = true) (kk : ∀ (r : Int32) (S' : sH) (g' : GH), S'.1 = S.1 → Po r S' g' → AW M X Q ad k n (conc S' g') (pc + 3) ls (.int r :: st)) : AW M X Q ad k n (conc S g) pc ls (v4 :: v3 :: v2 :: v1 :: .ref a :: st) := by
  subst hv
  exact call_Ui (vs := [v1, v2, v3, v4]) d hq LC L e hR c rfl hw kk
theorem a_V5i {M' : Mi} {d' a idx : Nat} (ci : Nat) {q : vw_C} {v1 v2 v3 v4 v5 : Value} {vs : List Value} {Po : Int32 → sH → GH → Prop} (d : decode (mcc M) pc = .ok (.invokevirtual idx, 3)) (LC : LkC M' 5) (L : LkV (mown M) idx M') (hq : vwCl[ci]? = some q) (hq1 : q.1 = mown M') (e : isO S a ci = true) (hR : Fit X M' d' k n) (c : ACi M' d' S g vs Po) (hv : vs = [.ref a, v1, v2, v3, v4, v5]) (hw : Nat.ble (st.map Value.category).sum 8 = true) (kk : ∀ (r : Int32) (S' : sH) (g' : GH), S'.1 = S.1 → Po r S' g' → AW M X Q ad k n (conc S' g') (pc + 3) ls (.int r :: st)) : AW M X Q ad k n (conc S g) pc ls (v5 :: v4 :: v3 :: v2 :: v1 :: .ref a :: st) := by
  subst hv
  exact call_Vi (vs := [v1, v2, v3, v4, v5]) d LC L hq hq1 e hR c rfl hw kk
theorem a_U5i {M' : Mi} {d' a idx : Nat} (ci : Nat) {q : vw_C} {v1 v2 v3 v4 v5 : Value} {vs : List Value} {Po : Int32 → sH → GH → Prop} (d : decode (mcc M) pc = .ok (.invokevirtual idx, 3)) (hq : vwCl[ci]? = some q) (LC : LkC M' 5) (L : LkU (mown M) idx q.1 M' 5) (e : isO S a ci = true) (hR : Fit X M' d' k n) (c : ACi M' d' S g vs Po) (hv : vs = [.ref a, v1, v2, v3, v4, v5]) (hw : Nat.ble (st.map Value.category).sum 8 = true) (kk : ∀ (r : Int32) (S' : sH) (g' : GH), S'.1 = S.1 → Po r S' g' → AW M X Q ad k n (conc S' g') (pc + 3) ls (.int r :: st)) : AW M X Q ad k n (conc S g) pc ls (v5 :: v4 :: v3 :: v2 :: v1 :: .ref a :: st) := by
  subst hv
  exact call_Ui (vs := [v1, v2, v3, v4, v5]) d hq LC L e hR c rfl hw kk
theorem a_V6i {M' : Mi} {d' a idx : Nat} (ci : Nat) {q : vw_C} {v1 v2 v3 v4 v5 v6 : Value} {vs : List Value} {Po : Int32 → sH → GH → Prop} (d : decode (mcc M) pc = .ok (.invokevirtual idx, 3)) (LC : LkC M' 6) (L : LkV (mown M) idx M') (hq : vwCl[ci]? = some q) (hq1 : q.1 = mown M') (e : isO S a ci = true) (hR : Fit X M' d' k n) (c : ACi M' d' S g vs Po) (hv : vs = [.ref a, v1, v2, v3, v4, v5, v6]) (hw : Nat.ble (st.map Value.category).sum 8 = true) (kk : ∀ (r : Int32) (S' : sH) (g' : GH), S'.1 = S.1 → Po r S' g' → AW M X Q ad k n (conc S' g') (pc + 3) ls (.int r :: st)) : AW M X Q ad k n (conc S g) pc ls (v6 :: v5 :: v4 :: v3 :: v2 :: v1 :: .ref a :: st) := by
  subst hv
  exact call_Vi (vs := [v1, v2, v3, v4, v5, v6]) d LC L hq hq1 e hR c rfl hw kk
theorem a_U6i {M' : Mi} {d' a idx : Nat} (ci : Nat) {q : vw_C} {v1 v2 v3 v4 v5 v6 : Value} {vs : List Value} {Po : Int32 → sH → GH → Prop} (d : decode (mcc M) pc = .ok (.invokevirtual idx, 3)) (hq : vwCl[ci]? = some q) (LC : LkC M' 6) (L : LkU (mown M) idx q.1 M' 6) (e : isO S a ci = true) (hR : Fit X M' d' k n) (c : ACi M' d' S g vs Po) (hv : vs = [.ref a, v1, v2, v3, v4, v5, v6]) (hw : Nat.ble (st.map Value.category).sum 8 = true) (kk : ∀ (r : Int32) (S' : sH) (g' : GH), S'.1 = S.1 → Po r S' g' → AW M X Q ad k n (conc S' g') (pc + 3) ls (.int r :: st)) : AW M X Q ad k n (conc S g) pc ls (v6 :: v5 :: v4 :: v3 :: v2 :: v1 :: .ref a :: st) := by
  subst hv
  exact call_Ui (vs := [v1, v2, v3, v4, v5, v6]) d hq LC L e hR c rfl hw kk
theorem a_S0i {M' : Mi} {d' idx : Nat} {vs : List Value} {Po : Int32 → sH → GH → Prop} (d : decode (mcc M) pc = .ok (.invokestatic idx, 3)) (LC : LkC M' 0) (L : LkS (mown M) idx M' ∨ LkN (mown M) idx M') (hR : Fit X M' d' k n) (c : ACi M' d' S g vs Po) (hv : vs = []) (hw : Nat.ble (st.map Value.category).sum 8 = true) (kk : ∀ (r : Int32) (S' : sH) (g' : GH), S'.1 = S.1 → Po r S' g' → AW M X Q ad k n (conc S' g') (pc + 3) ls (.int r :: st)) : AW M X Q ad k n (conc S g) pc ls st := by
  subst hv
  exact call_Si (vs := []) d LC L hR c rfl hw kk
theorem a_S1i {M' : Mi} {d' idx : Nat} {v1 : Value} {vs : List Value} {Po : Int32 → sH → GH → Prop} (d : decode (mcc M) pc = .ok (.invokestatic idx, 3)) (LC : LkC M' 1) (L : LkS (mown M) idx M' ∨ LkN (mown M) idx M') (hR : Fit X M' d' k n) (c : ACi M' d' S g vs Po) (hv : vs = [v1]) (hw : Nat.ble (st.map Value.category).sum 8 = true) (kk : ∀ (r : Int32) (S' : sH) (g' : GH), S'.1 = S.1 → Po r S' g' → AW M X Q ad k n (conc S' g') (pc + 3) ls (.int r :: st)) : AW M X Q ad k n (conc S g) pc ls (v1 :: st) := by
  subst hv
  exact call_Si (vs := [v1]) d LC L hR c rfl hw kk
theorem a_S2i {M' : Mi} {d' idx : Nat} {v1 v2 : Value} {vs : List Value} {Po : Int32 → sH → GH → Prop} (d : decode (mcc M) pc = .ok (.invokestatic idx, 3)) (LC : LkC M' 2) (L : LkS (mown M) idx M' ∨ LkN (mown M) idx M') (hR : Fit X M' d' k n) (c : ACi M' d' S g vs Po) (hv : vs = [v1, v2]) (hw : Nat.ble (st.map Value.category).sum 8 = true) (kk : ∀ (r : Int32) (S' : sH) (g' : GH), S'.1 = S.1 → Po r S' g' → AW M X Q ad k n (conc S' g') (pc + 3) ls (.int r :: st)) : AW M X Q ad k n (conc S g) pc ls (v2 :: v1 :: st) := by
  subst hv
  exact call_Si (vs := [v1, v2]) d LC L hR c rfl hw kk
theorem a_S3i {M' : Mi} {d' idx : Nat} {v1 v2 v3 : Value} {vs : List Value} {Po : Int32 → sH → GH → Prop} (d : decode (mcc M) pc = .ok (.invokestatic idx, 3)) (LC : LkC M' 3) (L : LkS (mown M) idx M' ∨ LkN (mown M) idx M') (hR : Fit X M' d' k n) (c : ACi M' d' S g vs Po) (hv : vs = [v1, v2, v3]) (hw : Nat.ble (st.map Value.category).sum 8 = true) (kk : ∀ (r : Int32) (S' : sH) (g' : GH), S'.1 = S.1 → Po r S' g' → AW M X Q ad k n (conc S' g') (pc + 3) ls (.int r :: st)) : AW M X Q ad k n (conc S g) pc ls (v3 :: v2 :: v1 :: st) := by
  subst hv
  exact call_Si (vs := [v1, v2, v3]) d LC L hR c rfl hw kk
theorem a_S4i {M' : Mi} {d' idx : Nat} {v1 v2 v3 v4 : Value} {vs : List Value} {Po : Int32 → sH → GH → Prop} (d : decode (mcc M) pc = .ok (.invokestatic idx, 3)) (LC : LkC M' 4) (L : LkS (mown M) idx M' ∨ LkN (mown M) idx M') (hR : Fit X M' d' k n) (c : ACi M' d' S g vs Po) (hv : vs = [v1, v2, v3, v4]) (hw : Nat.ble (st.map Value.category).sum 8 = true) (kk : ∀ (r : Int32) (S' : sH) (g' : GH), S'.1 = S.1 → Po r S' g' → AW M X Q ad k n (conc S' g') (pc + 3) ls (.int r :: st)) : AW M X Q ad k n (conc S g) pc ls (v4 :: v3 :: v2 :: v1 :: st) := by
  subst hv
  exact call_Si (vs := [v1, v2, v3, v4]) d LC L hR c rfl hw kk
theorem a_S5i {M' : Mi} {d' idx : Nat} {v1 v2 v3 v4 v5 : Value} {vs : List Value} {Po : Int32 → sH → GH → Prop} (d : decode (mcc M) pc = .ok (.invokestatic idx, 3)) (LC : LkC M' 5) (L : LkS (mown M) idx M' ∨ LkN (mown M) idx M') (hR : Fit X M' d' k n) (c : ACi M' d' S g vs Po) (hv : vs = [v1, v2, v3, v4, v5]) (hw : Nat.ble (st.map Value.category).sum 8 = true) (kk : ∀ (r : Int32) (S' : sH) (g' : GH), S'.1 = S.1 → Po r S' g' → AW M X Q ad k n (conc S' g') (pc + 3) ls (.int r :: st)) : AW M X Q ad k n (conc S g) pc ls (v5 :: v4 :: v3 :: v2 :: v1 :: st) := by
  subst hv
  exact call_Si (vs := [v1, v2, v3, v4, v5]) d LC L hR c rfl hw kk
theorem a_S6i {M' : Mi} {d' idx : Nat} {v1 v2 v3 v4 v5 v6 : Value} {vs : List Value} {Po : Int32 → sH → GH → Prop} (d : decode (mcc M) pc = .ok (.invokestatic idx, 3)) (LC : LkC M' 6) (L : LkS (mown M) idx M' ∨ LkN (mown M) idx M') (hR : Fit X M' d' k n) (c : ACi M' d' S g vs Po) (hv : vs = [v1, v2, v3, v4, v5, v6]) (hw : Nat.ble (st.map Value.category).sum 8 = true) (kk : ∀ (r : Int32) (S' : sH) (g' : GH), S'.1 = S.1 → Po r S' g' → AW M X Q ad k n (conc S' g') (pc + 3) ls (.int r :: st)) : AW M X Q ad k n (conc S g) pc ls (v6 :: v5 :: v4 :: v3 :: v2 :: v1 :: st) := by
  subst hv
  exact call_Si (vs := [v1, v2, v3, v4, v5, v6]) d LC L hR c rfl hw kk
theorem a_S7i {M' : Mi} {d' idx : Nat} {v1 v2 v3 v4 v5 v6 v7 : Value} {vs : List Value} {Po : Int32 → sH → GH → Prop} (d : decode (mcc M) pc = .ok (.invokestatic idx, 3)) (LC : LkC M' 7) (L : LkS (mown M) idx M' ∨ LkN (mown M) idx M') (hR : Fit X M' d' k n) (c : ACi M' d' S g vs Po) (hv : vs = [v1, v2, v3, v4, v5, v6, v7]) (hw : Nat.ble (st.map Value.category).sum 8 = true) (kk : ∀ (r : Int32) (S' : sH) (g' : GH), S'.1 = S.1 → Po r S' g' → AW M X Q ad k n (conc S' g') (pc + 3) ls (.int r :: st)) : AW M X Q ad k n (conc S g) pc ls (v7 :: v6 :: v5 :: v4 :: v3 :: v2 :: v1 :: st) := by
  subst hv
  exact call_Si (vs := [v1, v2, v3, v4, v5, v6, v7]) d LC L hR c rfl hw kk
theorem core_l {M' : Mi} {d' : Nat} {vs : List Value} {Po : Int64 → sH → GH → Prop} (c : ACl M' d' S g vs Po) {stk : List Value}
    (hrun : XOk M X → ∀ (H : Heap) (locs : List Loc) (lc : Array Slot), Rl M X ad (conc S g) ls H locs lc → Met (xl X) (my M') (mws M') (rmD d') (va_Pc (vs.map (sv ad)) (Wd (xD X) (xdA X) ad S g H.size)) (va_Ql (fun r (u : sH × GH) => Po r u.1 u.2) (Bd (xD X) (xdA X) ad S g H.size) (va_A (sw (xdA X) ad (conc S g)) H.size)) 0 0 (va_A (sw (xdA X) ad (conc S g)) H.size) →
      va_Run (xp X) (xl X) (xe X) (xR X) (xs X) (xm X) (xa X) (xb X) (xme X) (xc X) H locs k n 0 0 (F0 (xm X) pc lc (stk.map (sv ad))) (st.map (sv ad)) ((va_Ql (fun r (u : sH × GH) => Po r u.1 u.2) (Bd (xD X) (xdA X) ad S g H.size) (va_A (sw (xdA X) ad (conc S g)) H.size)) (vs.map (sv ad)).toArray) (va_A (sw (xdA X) ad (conc S g)) H.size))
    (kk : ∀ (r : Int64) (S' : sH) (g' : GH), S'.1 = S.1 → Po r S' g' → AW M X Q ad k n (conc S' g') (pc + 3) ls (.long r :: st)) : AW M X Q ad k n (conc S g) pc ls stk := by
  intro C H locs lc r
  have hF := Rl.free C r
  exact va_calll (hrun C H locs lc r (c (xl X) (xD X) (xdA X) ad H.size)) r.2.2.1 (fun q _ hq => hF q hq) hF (fun r1 u t H1 locs1 ht hvm hp hB hz hk hS => kk r1 u.1 u.2 hB.1 hp C H1 locs1 lc ⟨ht ▸ hB.2.1, hB.2.2.weaken (fun _ _ _ hq => hF _ hq), hS, r.2.2.2⟩)
theorem call_Vl {M' : Mi} {d' a idx ci nn : Nat} {q : vw_C} {vs : List Value} {Po : Int64 → sH → GH → Prop} (d : decode (mcc M) pc = .ok (.invokevirtual idx, 3)) (LC : LkC M' nn) (L : LkV (mown M) idx M') (hq : vwCl[ci]? = some q) (hq1 : q.1 = mown M') (e : isO S a ci = true) (hR : Fit X M' d' k n) (c : ACl M' d' S g (.ref a :: vs) Po) (hn : vs.length = nn) (hw : Nat.ble (st.map Value.category).sum 8 = true)
    (kk : ∀ (r : Int64) (S' : sH) (g' : GH), S'.1 = S.1 → Po r S' g' → AW M X Q ad k n (conc S' g') (pc + 3) ls (.long r :: st)) : AW M X Q ad k n (conc S g) pc ls (vs.reverse ++ .ref a :: st) := by
  refine core_l c (fun C H locs lc r hM => ?_) kk
  obtain ⟨ha, fs, hfs⟩ := isO_ok (g := g) e
  have hG : GoodIn gW (wsV (mown M) idx (mown M') (my M') (mws M')) := by
    intro w hwm
    simp only [wsV, List.cons_append, List.nil_append, List.mem_cons] at hwm
    rcases hwm with rfl | rfl | rfl | rfl | h
    · exact gW_good _ L.1
    · exact gW_good _ L.2.1
    · exact gW_good _ L.2.2
    · exact gW_good _ LC.2.2.1
    · exact gW_cons LC.1 _ h
  have hrec := va_recv (q := q) C.2.2.2.2.2.2.2.2.1.1 r.1 hq (q0 := a) (a := ad a) (ci := ci) (fs := fs.map (sv ad)) (by rw [sw_at (h := conc S g) ha, hfs]; rfl)
  rw [hq1] at hrec
  refine va_runV (As := vs.map (sv ad)) (b := ad a) (n := nn) (C := mown M') ⟨C.1, C.2.1, C.2.2.1, C.2.2.2.1, C.2.2.2.2.1⟩ hM (cwV nn C.2.2.2.2.1 hG rfl rfl rfl ⟨rfl, LC.2.1⟩ hR.1) ⟨Wd.blind, hrec, Rl.pre C r⟩ rfl (by simpa using hn) r.2.2.2.1 (by simp [F0, sv]) (lv_room (rest_cat st (Nat.le_of_ble_eq_true hw))) d hR.2
theorem call_Ul {M' : Mi} {d' a idx ci nn : Nat} {q : vw_C} {vs : List Value} {Po : Int64 → sH → GH → Prop} (d : decode (mcc M) pc = .ok (.invokevirtual idx, 3)) (hq : vwCl[ci]? = some q) (LC : LkC M' nn) (L : LkU (mown M) idx q.1 M' nn) (e : isO S a ci = true) (hR : Fit X M' d' k n) (c : ACl M' d' S g (.ref a :: vs) Po) (hn : vs.length = nn) (hw : Nat.ble (st.map Value.category).sum 8 = true)
    (kk : ∀ (r : Int64) (S' : sH) (g' : GH), S'.1 = S.1 → Po r S' g' → AW M X Q ad k n (conc S' g') (pc + 3) ls (.long r :: st)) : AW M X Q ad k n (conc S g) pc ls (vs.reverse ++ .ref a :: st) := by
  refine core_l c (fun C H locs lc r hM => ?_) kk
  obtain ⟨ha, fs, hfs⟩ := isO_ok (g := g) e
  obtain ⟨owner, x, l1, l2, l3, l4, l5, l6⟩ := L
  have hrec := va_recv (q := q) C.2.2.2.2.2.2.2.2.1.1 r.1 hq (q0 := a) (a := ad a) (ci := ci) (fs := fs.map (sv ad)) (by rw [sw_at (h := conc S g) ha, hfs]; rfl)
  have hcw : va_CU (xR X) (xs X) (xa X) (mown M) q.1 owner idx x (my M') (mcc M') (mnL M') (mret M') (mws M') (rmD d') 0 0 nn := by
    have hG : GoodIn gW (va_wsU (mown M) idx q.1 owner x (my M') (mws M')) := by
      intro w hwm
      simp only [va_wsU, List.cons_append, List.nil_append, List.mem_cons] at hwm
      rcases hwm with rfl | rfl | rfl | rfl | rfl | h
      · exact gW_good _ l1
      · exact gW_good _ l2
      · exact gW_good _ l3
      · exact gW_good _ l4
      · exact gW_good _ LC.2.2.1
      · exact gW_cons LC.1 _ h
    rcases l6 with h | ⟨b0, m0, r0, h0, h⟩ | h
    · exact va_cwU nn C.2.2.2.2.1 hG rfl rfl rfl h l5 hR.1
    · refine va_cwO nn C.2.2.2.2.1 ?_ rfl rfl rfl h l5 hR.1
      intro w hwm
      simp only [va_wsO, List.cons_append, List.nil_append, List.mem_cons] at hwm
      rcases hwm with rfl | rfl | rfl | rfl | rfl | rfl | h
      · exact gW_good _ l1
      · exact gW_good _ l2
      · exact gW_good _ h0
      · exact gW_good _ l3
      · exact gW_good _ l4
      · exact gW_good _ LC.2.2.1
      · exact gW_cons LC.1 _ h
    · exact va_cwA nn C.2.2.2.2.1 hG rfl rfl rfl (C.2.2.2.2.2.2.2.2.1.2.1 _ h) l5 hR.1
  exact va_runU (As := vs.map (sv ad)) (b := ad a) (n := nn) ⟨C.1, C.2.1, C.2.2.1, C.2.2.2.1, C.2.2.2.2.1⟩ hM hcw ⟨Wd.blind, hrec, Rl.pre C r⟩ rfl (by simpa using hn) r.2.2.2.1 (by simp [F0, sv]) (lv_room (rest_cat st (Nat.le_of_ble_eq_true hw))) d hR.2
theorem call_Sl {M' : Mi} {d' idx nn : Nat} {vs : List Value} {Po : Int64 → sH → GH → Prop} (d : decode (mcc M) pc = .ok (.invokestatic idx, 3)) (LC : LkC M' nn) (L : LkS (mown M) idx M' ∨ LkN (mown M) idx M') (hR : Fit X M' d' k n) (c : ACl M' d' S g vs Po) (hn : vs.length = nn) (hw : Nat.ble (st.map Value.category).sum 8 = true)
    (kk : ∀ (r : Int64) (S' : sH) (g' : GH), S'.1 = S.1 → Po r S' g' → AW M X Q ad k n (conc S' g') (pc + 3) ls (.long r :: st)) : AW M X Q ad k n (conc S g) pc ls (vs.reverse ++ st) := by
  refine core_l c (fun C H locs lc r hM => ?_) kk
  rcases L with L | L
  · have hG : GoodIn gW (va_wsS (mown M) idx (my M') (mws M')) := by
      intro w hwm
      simp only [va_wsS, List.cons_append, List.nil_append, List.mem_cons] at hwm
      rcases hwm with rfl | rfl | rfl | h
      · exact gW_good _ L.1
      · exact gW_good _ L.2
      · exact gW_good _ LC.2.2.1
      · exact gW_cons LC.1 _ h
    exact va_runS (As := vs.map (sv ad)) (n := nn) ⟨C.1, C.2.1, C.2.2.1, C.2.2.2.1, C.2.2.2.2.1⟩ hM (va_cwS nn C.2.2.2.2.1 hG rfl rfl rfl LC.2.1 hR.1) ⟨Wd.blind, Rl.pre C r⟩ rfl (by simpa using hn) r.2.2.2.1 (by simp [F0]) (lv_room (rest_cat st (Nat.le_of_ble_eq_true hw))) d hR.2
  · obtain ⟨⟨host, hh⟩, hs⟩ := L
    exact va_runSN (As := vs.map (sv ad)) (n := nn) ⟨C.1, C.2.1, C.2.2.1, C.2.2.2.1, C.2.2.2.2.1⟩ hM ⟨va_cnB (host := host) nn C.2.2.2.2.1 (gW_cons LC.1) rfl rfl rfl (C.2.2.2.2.2.2.2.2.1.2.1 _ hh) (C.2.2.2.2.1 _ LC.2.2.1) LC.2.1 hR.1, C.2.2.2.2.1 _ hs, trivial⟩ ⟨Wd.blind, Rl.pre C r⟩ rfl (by simpa using hn) r.2.2.2.1 (by simp [F0]) (lv_room (rest_cat st (Nat.le_of_ble_eq_true hw))) d hR.2
theorem a_V0l {M' : Mi} {d' a idx : Nat} (ci : Nat) {q : vw_C} {vs : List Value} {Po : Int64 → sH → GH → Prop} (d : decode (mcc M) pc = .ok (.invokevirtual idx, 3)) (LC : LkC M' 0) (L : LkV (mown M) idx M') (hq : vwCl[ci]? = some q) (hq1 : q.1 = mown M') (e : isO S a ci = true) (hR : Fit X M' d' k n) (c : ACl M' d' S g vs Po) (hv : vs = [.ref a]) (hw : Nat.ble (st.map Value.category).sum 8 = true) (kk : ∀ (r : Int64) (S' : sH) (g' : GH), S'.1 = S.1 → Po r S' g' → AW M X Q ad k n (conc S' g') (pc + 3) ls (.long r :: st)) : AW M X Q ad k n (conc S g) pc ls (.ref a :: st) := by
  subst hv
  exact call_Vl (vs := []) d LC L hq hq1 e hR c rfl hw kk
theorem a_U0l {M' : Mi} {d' a idx : Nat} (ci : Nat) {q : vw_C} {vs : List Value} {Po : Int64 → sH → GH → Prop} (d : decode (mcc M) pc = .ok (.invokevirtual idx, 3)) (hq : vwCl[ci]? = some q) (LC : LkC M' 0) (L : LkU (mown M) idx q.1 M' 0) (e : isO S a ci = true) (hR : Fit X M' d' k n) (c : ACl M' d' S g vs Po) (hv : vs = [.ref a]) (hw : Nat.ble (st.map Value.category).sum 8 = true) (kk : ∀ (r : Int64) (S' : sH) (g' : GH), S'.1 = S.1 → Po r S' g' → AW M X Q ad k n (conc S' g') (pc + 3) ls (.long r :: st)) : AW M X Q ad k n (conc S g) pc ls (.ref a :: st) := by
  subst hv
  exact call_Ul (vs := []) d hq LC L e hR c rfl hw kk
theorem a_V1l {M' : Mi} {d' a idx : Nat} (ci : Nat) {q : vw_C} {v1 : Value} {vs : List Value} {Po : Int64 → sH → GH → Prop} (d : decode (mcc M) pc = .ok (.invokevirtual idx, 3)) (LC : LkC M' 1) (L : LkV (mown M) idx M') (hq : vwCl[ci]? = some q) (hq1 : q.1 = mown M') (e : isO S a ci = true) (hR : Fit X M' d' k n) (c : ACl M' d' S g vs Po) (hv : vs = [.ref a, v1]) (hw : Nat.ble (st.map Value.category).sum 8 = true) (kk : ∀ (r : Int64) (S' : sH) (g' : GH), S'.1 = S.1 → Po r S' g' → AW M X Q ad k n (conc S' g') (pc + 3) ls (.long r :: st)) : AW M X Q ad k n (conc S g) pc ls (v1 :: .ref a :: st) := by
  subst hv
  exact call_Vl (vs := [v1]) d LC L hq hq1 e hR c rfl hw kk
theorem a_U1l {M' : Mi} {d' a idx : Nat} (ci : Nat) {q : vw_C} {v1 : Value} {vs : List Value} {Po : Int64 → sH → GH → Prop} (d : decode (mcc M) pc = .ok (.invokevirtual idx, 3)) (hq : vwCl[ci]? = some q) (LC : LkC M' 1) (L : LkU (mown M) idx q.1 M' 1) (e : isO S a ci = true) (hR : Fit X M' d' k n) (c : ACl M' d' S g vs Po) (hv : vs = [.ref a, v1]) (hw : Nat.ble (st.map Value.category).sum 8 = true) (kk : ∀ (r : Int64) (S' : sH) (g' : GH), S'.1 = S.1 → Po r S' g' → AW M X Q ad k n (conc S' g') (pc + 3) ls (.long r :: st)) : AW M X Q ad k n (conc S g) pc ls (v1 :: .ref a :: st) := by
  subst hv
  exact call_Ul (vs := [v1]) d hq LC L e hR c rfl hw kk
theorem a_V2l {M' : Mi} {d' a idx : Nat} (ci : Nat) {q : vw_C} {v1 v2 : Value} {vs : List Value} {Po : Int64 → sH → GH → Prop} (d : decode (mcc M) pc = .ok (.invokevirtual idx, 3)) (LC : LkC M' 2) (L : LkV (mown M) idx M') (hq : vwCl[ci]? = some q) (hq1 : q.1 = mown M') (e : isO S a ci = true) (hR : Fit X M' d' k n) (c : ACl M' d' S g vs Po) (hv : vs = [.ref a, v1, v2]) (hw : Nat.ble (st.map Value.category).sum 8 = true) (kk : ∀ (r : Int64) (S' : sH) (g' : GH), S'.1 = S.1 → Po r S' g' → AW M X Q ad k n (conc S' g') (pc + 3) ls (.long r :: st)) : AW M X Q ad k n (conc S g) pc ls (v2 :: v1 :: .ref a :: st) := by
  subst hv
  exact call_Vl (vs := [v1, v2]) d LC L hq hq1 e hR c rfl hw kk
theorem a_U2l {M' : Mi} {d' a idx : Nat} (ci : Nat) {q : vw_C} {v1 v2 : Value} {vs : List Value} {Po : Int64 → sH → GH → Prop} (d : decode (mcc M) pc = .ok (.invokevirtual idx, 3)) (hq : vwCl[ci]? = some q) (LC : LkC M' 2) (L : LkU (mown M) idx q.1 M' 2) (e : isO S a ci = true) (hR : Fit X M' d' k n) (c : ACl M' d' S g vs Po) (hv : vs = [.ref a, v1, v2]) (hw : Nat.ble (st.map Value.category).sum 8 = true) (kk : ∀ (r : Int64) (S' : sH) (g' : GH), S'.1 = S.1 → Po r S' g' → AW M X Q ad k n (conc S' g') (pc + 3) ls (.long r :: st)) : AW M X Q ad k n (conc S g) pc ls (v2 :: v1 :: .ref a :: st) := by
  subst hv
  exact call_Ul (vs := [v1, v2]) d hq LC L e hR c rfl hw kk
theorem a_V3l {M' : Mi} {d' a idx : Nat} (ci : Nat) {q : vw_C} {v1 v2 v3 : Value} {vs : List Value} {Po : Int64 → sH → GH → Prop} (d : decode (mcc M) pc = .ok (.invokevirtual idx, 3)) (LC : LkC M' 3) (L : LkV (mown M) idx M') (hq : vwCl[ci]? = some q) (hq1 : q.1 = mown M') (e : isO S a ci = true) (hR : Fit X M' d' k n) (c : ACl M' d' S g vs Po) (hv : vs = [.ref a, v1, v2, v3]) (hw : Nat.ble (st.map Value.category).sum 8 = true) (kk : ∀ (r : Int64) (S' : sH) (g' : GH), S'.1 = S.1 → Po r S' g' → AW M X Q ad k n (conc S' g') (pc + 3) ls (.long r :: st)) : AW M X Q ad k n (conc S g) pc ls (v3 :: v2 :: v1 :: .ref a :: st) := by
  subst hv
  exact call_Vl (vs := [v1, v2, v3]) d LC L hq hq1 e hR c rfl hw kk
theorem a_U3l {M' : Mi} {d' a idx : Nat} (ci : Nat) {q : vw_C} {v1 v2 v3 : Value} {vs : List Value} {Po : Int64 → sH → GH → Prop} (d : decode (mcc M) pc = .ok (.invokevirtual idx, 3)) (hq : vwCl[ci]? = some q) (LC : LkC M' 3) (L : LkU (mown M) idx q.1 M' 3) (e : isO S a ci = true) (hR : Fit X M' d' k n) (c : ACl M' d' S g vs Po) (hv : vs = [.ref a, v1, v2, v3]) (hw : Nat.ble (st.map Value.category).sum 8 = true) (kk : ∀ (r : Int64) (S' : sH) (g' : GH), S'.1 = S.1 → Po r S' g' → AW M X Q ad k n (conc S' g') (pc + 3) ls (.long r :: st)) : AW M X Q ad k n (conc S g) pc ls (v3 :: v2 :: v1 :: .ref a :: st) := by
  subst hv
  exact call_Ul (vs := [v1, v2, v3]) d hq LC L e hR c rfl hw kk
theorem a_V4l {M' : Mi} {d' a idx : Nat} (ci : Nat) {q : vw_C} {v1 v2 v3 v4 : Value} {vs : List Value} {Po : Int64 → sH → GH → Prop} (d : decode (mcc M) pc = .ok (.invokevirtual idx, 3)) (LC : LkC M' 4) (L : LkV (mown M) idx M') (hq : vwCl[ci]? = some q) (hq1 : q.1 = mown M') (e : isO S a ci = true) (hR : Fit X M' d' k n) (c : ACl M' d' S g vs Po) (hv : vs = [.ref a, v1, v2, v3, v4]) (hw : Nat.ble (st.map Value.category).sum 8 = true) (kk : ∀ (r : Int64) (S' : sH) (g' : GH), S'.1 = S.1 → Po r S' g' → AW M X Q ad k n (conc S' g') (pc + 3) ls (.long r :: st)) : AW M X Q ad k n (conc S g) pc ls (v4 :: v3 :: v2 :: v1 :: .ref a :: st) := by
  subst hv
  exact call_Vl (vs := [v1, v2, v3, v4]) d LC L hq hq1 e hR c rfl hw kk
theorem a_U4l {M' : Mi} {d' a idx : Nat} (ci : Nat) {q : vw_C} {v1 v2 v3 v4 : Value} {vs : List Value} {Po : Int64 → sH → GH → Prop} (d : decode (mcc M) pc = .ok (.invokevirtual idx, 3)) (hq : vwCl[ci]? = some q) (LC : LkC M' 4) (L : LkU (mown M) idx q.1 M' 4) (e : isO S a ci = true) (hR : Fit X M' d' k n) (c : ACl M' d' S g vs Po) (hv : vs = [.ref a, v1, v2, v3, v4]) (hw : Nat.ble (st.map Value.category).sum 8 = true) (kk : ∀ (r : Int64) (S' : sH) (g' : GH), S'.1 = S.1 → Po r S' g' → AW M X Q ad k n (conc S' g') (pc + 3) ls (.long r :: st)) : AW M X Q ad k n (conc S g) pc ls (v4 :: v3 :: v2 :: v1 :: .ref a :: st) := by
  subst hv
  exact call_Ul (vs := [v1, v2, v3, v4]) d hq LC L e hR c rfl hw kk
theorem a_V5l {M' : Mi} {d' a idx : Nat} (ci : Nat) {q : vw_C} {v1 v2 v3 v4 v5 : Value} {vs : List Value} {Po : Int64 → sH → GH → Prop} (d : decode (mcc M) pc = .ok (.invokevirtual idx, 3)) (LC : LkC M' 5) (L : LkV (mown M) idx M') (hq : vwCl[ci]? = some q) (hq1 : q.1 = mown M') (e : isO S a ci = true) (hR : Fit X M' d' k n) (c : ACl M' d' S g vs Po) (hv : vs = [.ref a, v1, v2, v3, v4, v5]) (hw : Nat.ble (st.map Value.category).sum 8 = true) (kk : ∀ (r : Int64) (S' : sH) (g' : GH), S'.1 = S.1 → Po r S' g' → AW M X Q ad k n (conc S' g') (pc + 3) ls (.long r :: st)) : AW M X Q ad k n (conc S g) pc ls (v5 :: v4 :: v3 :: v2 :: v1 :: .ref a :: st) := by
  subst hv
  exact call_Vl (vs := [v1, v2, v3, v4, v5]) d LC L hq hq1 e hR c rfl hw kk
theorem a_U5l {M' : Mi} {d' a idx : Nat} (ci : Nat) {q : vw_C} {v1 v2 v3 v4 v5 : Value} {vs : List Value} {Po : Int64 → sH → GH → Prop} (d : decode (mcc M) pc = .ok (.invokevirtual idx, 3)) (hq : vwCl[ci]? = some q) (LC : LkC M' 5) (L : LkU (mown M) idx q.1 M' 5) (e : isO S a ci = true) (hR : Fit X M' d' k n) (c : ACl M' d' S g vs Po) (hv : vs = [.ref a, v1, v2, v3, v4, v5]) (hw : Nat.ble (st.map Value.category).sum 8 = true) (kk : ∀ (r : Int64) (S' : sH) (g' : GH), S'.1 = S.1 → Po r S' g' → AW M X Q ad k n (conc S' g') (pc + 3) ls (.long r :: st)) : AW M X Q ad k n (conc S g) pc ls (v5 :: v4 :: v3 :: v2 :: v1 :: .ref a :: st) := by
  subst hv
  exact call_Ul (vs := [v1, v2, v3, v4, v5]) d hq LC L e hR c rfl hw kk
theorem a_V6l {M' : Mi} {d' a idx : Nat} (ci : Nat) {q : vw_C} {v1 v2 v3 v4 v5 v6 : Value} {vs : List Value} {Po : Int64 → sH → GH → Prop} (d : decode (mcc M) pc = .ok (.invokevirtual idx, 3)) (LC : LkC M' 6) (L : LkV (mown M) idx M') (hq : vwCl[ci]? = some q) (hq1 : q.1 = mown M') (e : isO S a ci = true) (hR : Fit X M' d' k n) (c : ACl M' d' S g vs Po) (hv : vs = [.ref a, v1, v2, v3, v4, v5, v6]) (hw : Nat.ble (st.map Value.category).sum 8 = true) (kk : ∀ (r : Int64) (S' : sH) (g' : GH), S'.1 = S.1 → Po r S' g' → AW M X Q ad k n (conc S' g') (pc + 3) ls (.long r :: st)) : AW M X Q ad k n (conc S g) pc ls (v6 :: v5 :: v4 :: v3 :: v2 :: v1 :: .ref a :: st) := by
  subst hv
  exact call_Vl (vs := [v1, v2, v3, v4, v5, v6]) d LC L hq hq1 e hR c rfl hw kk
theorem a_U6l {M' : Mi} {d' a idx : Nat} (ci : Nat) {q : vw_C} {v1 v2 v3 v4 v5 v6 : Value} {vs : List Value} {Po : Int64 → sH → GH → Prop} (d : decode (mcc M) pc = .ok (.invokevirtual idx, 3)) (hq : vwCl[ci]? = some q) (LC : LkC M' 6) (L : LkU (mown M) idx q.1 M' 6) (e : isO S a ci = true) (hR : Fit X M' d' k n) (c : ACl M' d' S g vs Po) (hv : vs = [.ref a, v1, v2, v3, v4, v5, v6]) (hw : Nat.ble (st.map Value.category).sum 8 = true) (kk : ∀ (r : Int64) (S' : sH) (g' : GH), S'.1 = S.1 → Po r S' g' → AW M X Q ad k n (conc S' g') (pc + 3) ls (.long r :: st)) : AW M X Q ad k n (conc S g) pc ls (v6 :: v5 :: v4 :: v3 :: v2 :: v1 :: .ref a :: st) := by
  subst hv
  exact call_Ul (vs := [v1, v2, v3, v4, v5, v6]) d hq LC L e hR c rfl hw kk
theorem a_S0l {M' : Mi} {d' idx : Nat} {vs : List Value} {Po : Int64 → sH → GH → Prop} (d : decode (mcc M) pc = .ok (.invokestatic idx, 3)) (LC : LkC M' 0) (L : LkS (mown M) idx M' ∨ LkN (mown M) idx M') (hR : Fit X M' d' k n) (c : ACl M' d' S g vs Po) (hv : vs = []) (hw : Nat.ble (st.map Value.category).sum 8 = true) (kk : ∀ (r : Int64) (S' : sH) (g' : GH), S'.1 = S.1 → Po r S' g' → AW M X Q ad k n (conc S' g') (pc + 3) ls (.long r :: st)) : AW M X Q ad k n (conc S g) pc ls st := by
  subst hv
  exact call_Sl (vs := []) d LC L hR c rfl hw kk
theorem a_S1l {M' : Mi} {d' idx : Nat} {v1 : Value} {vs : List Value} {Po : Int64 → sH → GH → Prop} (d : decode (mcc M) pc = .ok (.invokestatic idx, 3)) (LC : LkC M' 1) (L : LkS (mown M) idx M' ∨ LkN (mown M) idx M') (hR : Fit X M' d' k n) (c : ACl M' d' S g vs Po) (hv : vs = [v1]) (hw : Nat.ble (st.map Value.category).sum 8 = true) (kk : ∀ (r : Int64) (S' : sH) (g' : GH), S'.1 = S.1 → Po r S' g' → AW M X Q ad k n (conc S' g') (pc + 3) ls (.long r :: st)) : AW M X Q ad k n (conc S g) pc ls (v1 :: st) := by
  subst hv
  exact call_Sl (vs := [v1]) d LC L hR c rfl hw kk
theorem a_S2l {M' : Mi} {d' idx : Nat} {v1 v2 : Value} {vs : List Value} {Po : Int64 → sH → GH → Prop} (d : decode (mcc M) pc = .ok (.invokestatic idx, 3)) (LC : LkC M' 2) (L : LkS (mown M) idx M' ∨ LkN (mown M) idx M') (hR : Fit X M' d' k n) (c : ACl M' d' S g vs Po) (hv : vs = [v1, v2]) (hw : Nat.ble (st.map Value.category).sum 8 = true) (kk : ∀ (r : Int64) (S' : sH) (g' : GH), S'.1 = S.1 → Po r S' g' → AW M X Q ad k n (conc S' g') (pc + 3) ls (.long r :: st)) : AW M X Q ad k n (conc S g) pc ls (v2 :: v1 :: st) := by
  subst hv
  exact call_Sl (vs := [v1, v2]) d LC L hR c rfl hw kk
theorem a_S3l {M' : Mi} {d' idx : Nat} {v1 v2 v3 : Value} {vs : List Value} {Po : Int64 → sH → GH → Prop} (d : decode (mcc M) pc = .ok (.invokestatic idx, 3)) (LC : LkC M' 3) (L : LkS (mown M) idx M' ∨ LkN (mown M) idx M') (hR : Fit X M' d' k n) (c : ACl M' d' S g vs Po) (hv : vs = [v1, v2, v3]) (hw : Nat.ble (st.map Value.category).sum 8 = true) (kk : ∀ (r : Int64) (S' : sH) (g' : GH), S'.1 = S.1 → Po r S' g' → AW M X Q ad k n (conc S' g') (pc + 3) ls (.long r :: st)) : AW M X Q ad k n (conc S g) pc ls (v3 :: v2 :: v1 :: st) := by
  subst hv
  exact call_Sl (vs := [v1, v2, v3]) d LC L hR c rfl hw kk
theorem a_S4l {M' : Mi} {d' idx : Nat} {v1 v2 v3 v4 : Value} {vs : List Value} {Po : Int64 → sH → GH → Prop} (d : decode (mcc M) pc = .ok (.invokestatic idx, 3)) (LC : LkC M' 4) (L : LkS (mown M) idx M' ∨ LkN (mown M) idx M') (hR : Fit X M' d' k n) (c : ACl M' d' S g vs Po) (hv : vs = [v1, v2, v3, v4]) (hw : Nat.ble (st.map Value.category).sum 8 = true) (kk : ∀ (r : Int64) (S' : sH) (g' : GH), S'.1 = S.1 → Po r S' g' → AW M X Q ad k n (conc S' g') (pc + 3) ls (.long r :: st)) : AW M X Q ad k n (conc S g) pc ls (v4 :: v3 :: v2 :: v1 :: st) := by
  subst hv
  exact call_Sl (vs := [v1, v2, v3, v4]) d LC L hR c rfl hw kk
theorem a_S5l {M' : Mi} {d' idx : Nat} {v1 v2 v3 v4 v5 : Value} {vs : List Value} {Po : Int64 → sH → GH → Prop} (d : decode (mcc M) pc = .ok (.invokestatic idx, 3)) (LC : LkC M' 5) (L : LkS (mown M) idx M' ∨ LkN (mown M) idx M') (hR : Fit X M' d' k n) (c : ACl M' d' S g vs Po) (hv : vs = [v1, v2, v3, v4, v5]) (hw : Nat.ble (st.map Value.category).sum 8 = true) (kk : ∀ (r : Int64) (S' : sH) (g' : GH), S'.1 = S.1 → Po r S' g' → AW M X Q ad k n (conc S' g') (pc + 3) ls (.long r :: st)) : AW M X Q ad k n (conc S g) pc ls (v5 :: v4 :: v3 :: v2 :: v1 :: st) := by
  subst hv
  exact call_Sl (vs := [v1, v2, v3, v4, v5]) d LC L hR c rfl hw kk
theorem a_S6l {M' : Mi} {d' idx : Nat} {v1 v2 v3 v4 v5 v6 : Value} {vs : List Value} {Po : Int64 → sH → GH → Prop} (d : decode (mcc M) pc = .ok (.invokestatic idx, 3)) (LC : LkC M' 6) (L : LkS (mown M) idx M' ∨ LkN (mown M) idx M') (hR : Fit X M' d' k n) (c : ACl M' d' S g vs Po) (hv : vs = [v1, v2, v3, v4, v5, v6]) (hw : Nat.ble (st.map Value.category).sum 8 = true) (kk : ∀ (r : Int64) (S' : sH) (g' : GH), S'.1 = S.1 → Po r S' g' → AW M X Q ad k n (conc S' g') (pc + 3) ls (.long r :: st)) : AW M X Q ad k n (conc S g) pc ls (v6 :: v5 :: v4 :: v3 :: v2 :: v1 :: st) := by
  subst hv
  exact call_Sl (vs := [v1, v2, v3, v4, v5, v6]) d LC L hR c rfl hw kk
theorem a_S7l {M' : Mi} {d' idx : Nat} {v1 v2 v3 v4 v5 v6 v7 : Value} {vs : List Value} {Po : Int64 → sH → GH → Prop} (d : decode (mcc M) pc = .ok (.invokestatic idx, 3)) (LC : LkC M' 7) (L : LkS (mown M) idx M' ∨ LkN (mown M) idx M') (hR : Fit X M' d' k n) (c : ACl M' d' S g vs Po) (hv : vs = [v1, v2, v3, v4, v5, v6, v7]) (hw : Nat.ble (st.map Value.category).sum 8 = true) (kk : ∀ (r : Int64) (S' : sH) (g' : GH), S'.1 = S.1 → Po r S' g' → AW M X Q ad k n (conc S' g') (pc + 3) ls (.long r :: st)) : AW M X Q ad k n (conc S g) pc ls (v7 :: v6 :: v5 :: v4 :: v3 :: v2 :: v1 :: st) := by
  subst hv
  exact call_Sl (vs := [v1, v2, v3, v4, v5, v6, v7]) d LC L hR c rfl hw kk
theorem core_v {M' : Mi} {d' : Nat} {vs : List Value} {Po : sH → GH → Prop} (c : ACv M' d' S g vs Po) {stk : List Value}
    (hrun : XOk M X → ∀ (H : Heap) (locs : List Loc) (lc : Array Slot), Rl M X ad (conc S g) ls H locs lc → Met (xl X) (my M') (mws M') (rmD d') (va_Pc (vs.map (sv ad)) (Wd (xD X) (xdA X) ad S g H.size)) (va_Qv (fun (u : sH × GH) => Po u.1 u.2) (Bd (xD X) (xdA X) ad S g H.size) (va_A (sw (xdA X) ad (conc S g)) H.size)) 0 0 (va_A (sw (xdA X) ad (conc S g)) H.size) →
      va_Run (xp X) (xl X) (xe X) (xR X) (xs X) (xm X) (xa X) (xb X) (xme X) (xc X) H locs k n 0 0 (F0 (xm X) pc lc (stk.map (sv ad))) (st.map (sv ad)) ((va_Qv (fun (u : sH × GH) => Po u.1 u.2) (Bd (xD X) (xdA X) ad S g H.size) (va_A (sw (xdA X) ad (conc S g)) H.size)) (vs.map (sv ad)).toArray) (va_A (sw (xdA X) ad (conc S g)) H.size))
    (kk : ∀ (S' : sH) (g' : GH), S'.1 = S.1 → Po S' g' → AW M X Q ad k n (conc S' g') (pc + 3) ls st) : AW M X Q ad k n (conc S g) pc ls stk := by
  intro C H locs lc r
  have hF := Rl.free C r
  exact va_callv (hrun C H locs lc r (c (xl X) (xD X) (xdA X) ad H.size)) r.2.2.1 (fun q _ hq => hF q hq) hF (fun u t H1 locs1 ht hvm hp hB hz hk hS => kk u.1 u.2 hB.1 hp C H1 locs1 lc ⟨ht ▸ hB.2.1, hB.2.2.weaken (fun _ _ _ hq => hF _ hq), hS, r.2.2.2⟩)
theorem call_Vv {M' : Mi} {d' a idx ci nn : Nat} {q : vw_C} {vs : List Value} {Po : sH → GH → Prop} (d : decode (mcc M) pc = .ok (.invokevirtual idx, 3)) (LC : LkC M' nn) (L : LkV (mown M) idx M') (hq : vwCl[ci]? = some q) (hq1 : q.1 = mown M') (e : isO S a ci = true) (hR : Fit X M' d' k n) (c : ACv M' d' S g (.ref a :: vs) Po) (hn : vs.length = nn) (hw : Nat.ble (st.map Value.category).sum 8 = true)
    (kk : ∀ (S' : sH) (g' : GH), S'.1 = S.1 → Po S' g' → AW M X Q ad k n (conc S' g') (pc + 3) ls st) : AW M X Q ad k n (conc S g) pc ls (vs.reverse ++ .ref a :: st) := by
  refine core_v c (fun C H locs lc r hM => ?_) kk
  obtain ⟨ha, fs, hfs⟩ := isO_ok (g := g) e
  have hG : GoodIn gW (wsV (mown M) idx (mown M') (my M') (mws M')) := by
    intro w hwm
    simp only [wsV, List.cons_append, List.nil_append, List.mem_cons] at hwm
    rcases hwm with rfl | rfl | rfl | rfl | h
    · exact gW_good _ L.1
    · exact gW_good _ L.2.1
    · exact gW_good _ L.2.2
    · exact gW_good _ LC.2.2.1
    · exact gW_cons LC.1 _ h
  have hrec := va_recv (q := q) C.2.2.2.2.2.2.2.2.1.1 r.1 hq (q0 := a) (a := ad a) (ci := ci) (fs := fs.map (sv ad)) (by rw [sw_at (h := conc S g) ha, hfs]; rfl)
  rw [hq1] at hrec
  refine va_runV (As := vs.map (sv ad)) (b := ad a) (n := nn) (C := mown M') ⟨C.1, C.2.1, C.2.2.1, C.2.2.2.1, C.2.2.2.2.1⟩ hM (cwV nn C.2.2.2.2.1 hG rfl rfl rfl ⟨rfl, LC.2.1⟩ hR.1) ⟨Wd.blind, hrec, Rl.pre C r⟩ rfl (by simpa using hn) r.2.2.2.1 (by simp [F0, sv]) (lv_room (rest_cat st (Nat.le_of_ble_eq_true hw))) d hR.2
theorem call_Uv {M' : Mi} {d' a idx ci nn : Nat} {q : vw_C} {vs : List Value} {Po : sH → GH → Prop} (d : decode (mcc M) pc = .ok (.invokevirtual idx, 3)) (hq : vwCl[ci]? = some q) (LC : LkC M' nn) (L : LkU (mown M) idx q.1 M' nn) (e : isO S a ci = true) (hR : Fit X M' d' k n) (c : ACv M' d' S g (.ref a :: vs) Po) (hn : vs.length = nn) (hw : Nat.ble (st.map Value.category).sum 8 = true)
    (kk : ∀ (S' : sH) (g' : GH), S'.1 = S.1 → Po S' g' → AW M X Q ad k n (conc S' g') (pc + 3) ls st) : AW M X Q ad k n (conc S g) pc ls (vs.reverse ++ .ref a :: st) := by
  refine core_v c (fun C H locs lc r hM => ?_) kk
  obtain ⟨ha, fs, hfs⟩ := isO_ok (g := g) e
  obtain ⟨owner, x, l1, l2, l3, l4, l5, l6⟩ := L
  have hrec := va_recv (q := q) C.2.2.2.2.2.2.2.2.1.1 r.1 hq (q0 := a) (a := ad a) (ci := ci) (fs := fs.map (sv ad)) (by rw [sw_at (h := conc S g) ha, hfs]; rfl)
  have hcw : va_CU (xR X) (xs X) (xa X) (mown M) q.1 owner idx x (my M') (mcc M') (mnL M') (mret M') (mws M') (rmD d') 0 0 nn := by
    have hG : GoodIn gW (va_wsU (mown M) idx q.1 owner x (my M') (mws M')) := by
      intro w hwm
      simp only [va_wsU, List.cons_append, List.nil_append, List.mem_cons] at hwm
      rcases hwm with rfl | rfl | rfl | rfl | rfl | h
      · exact gW_good _ l1
      · exact gW_good _ l2
      · exact gW_good _ l3
      · exact gW_good _ l4
      · exact gW_good _ LC.2.2.1
      · exact gW_cons LC.1 _ h
    rcases l6 with h | ⟨b0, m0, r0, h0, h⟩ | h
    · exact va_cwU nn C.2.2.2.2.1 hG rfl rfl rfl h l5 hR.1
    · refine va_cwO nn C.2.2.2.2.1 ?_ rfl rfl rfl h l5 hR.1
      intro w hwm
      simp only [va_wsO, List.cons_append, List.nil_append, List.mem_cons] at hwm
      rcases hwm with rfl | rfl | rfl | rfl | rfl | rfl | h
      · exact gW_good _ l1
      · exact gW_good _ l2
      · exact gW_good _ h0
      · exact gW_good _ l3
      · exact gW_good _ l4
      · exact gW_good _ LC.2.2.1
      · exact gW_cons LC.1 _ h
    · exact va_cwA nn C.2.2.2.2.1 hG rfl rfl rfl (C.2.2.2.2.2.2.2.2.1.2.1 _ h) l5 hR.1
  exact va_runU (As := vs.map (sv ad)) (b := ad a) (n := nn) ⟨C.1, C.2.1, C.2.2.1, C.2.2.2.1, C.2.2.2.2.1⟩ hM hcw ⟨Wd.blind, hrec, Rl.pre C r⟩ rfl (by simpa using hn) r.2.2.2.1 (by simp [F0, sv]) (lv_room (rest_cat st (Nat.le_of_ble_eq_true hw))) d hR.2
theorem call_Sv {M' : Mi} {d' idx nn : Nat} {vs : List Value} {Po : sH → GH → Prop} (d : decode (mcc M) pc = .ok (.invokestatic idx, 3)) (LC : LkC M' nn) (L : LkS (mown M) idx M' ∨ LkN (mown M) idx M') (hR : Fit X M' d' k n) (c : ACv M' d' S g vs Po) (hn : vs.length = nn) (hw : Nat.ble (st.map Value.category).sum 8 = true)
    (kk : ∀ (S' : sH) (g' : GH), S'.1 = S.1 → Po S' g' → AW M X Q ad k n (conc S' g') (pc + 3) ls st) : AW M X Q ad k n (conc S g) pc ls (vs.reverse ++ st) := by
  refine core_v c (fun C H locs lc r hM => ?_) kk
  rcases L with L | L
  · have hG : GoodIn gW (va_wsS (mown M) idx (my M') (mws M')) := by
      intro w hwm
      simp only [va_wsS, List.cons_append, List.nil_append, List.mem_cons] at hwm
      rcases hwm with rfl | rfl | rfl | h
      · exact gW_good _ L.1
      · exact gW_good _ L.2
      · exact gW_good _ LC.2.2.1
      · exact gW_cons LC.1 _ h
    exact va_runS (As := vs.map (sv ad)) (n := nn) ⟨C.1, C.2.1, C.2.2.1, C.2.2.2.1, C.2.2.2.2.1⟩ hM (va_cwS nn C.2.2.2.2.1 hG rfl rfl rfl LC.2.1 hR.1) ⟨Wd.blind, Rl.pre C r⟩ rfl (by simpa using hn) r.2.2.2.1 (by simp [F0]) (lv_room (rest_cat st (Nat.le_of_ble_eq_true hw))) d hR.2
  · obtain ⟨⟨host, hh⟩, hs⟩ := L
    exact va_runSN (As := vs.map (sv ad)) (n := nn) ⟨C.1, C.2.1, C.2.2.1, C.2.2.2.1, C.2.2.2.2.1⟩ hM ⟨va_cnB (host := host) nn C.2.2.2.2.1 (gW_cons LC.1) rfl rfl rfl (C.2.2.2.2.2.2.2.2.1.2.1 _ hh) (C.2.2.2.2.1 _ LC.2.2.1) LC.2.1 hR.1, C.2.2.2.2.1 _ hs, trivial⟩ ⟨Wd.blind, Rl.pre C r⟩ rfl (by simpa using hn) r.2.2.2.1 (by simp [F0]) (lv_room (rest_cat st (Nat.le_of_ble_eq_true hw))) d hR.2
theorem a_V0v {M' : Mi} {d' a idx : Nat} (ci : Nat) {q : vw_C} {vs : List Value} {Po : sH → GH → Prop} (d : decode (mcc M) pc = .ok (.invokevirtual idx, 3)) (LC : LkC M' 0) (L : LkV (mown M) idx M') (hq : vwCl[ci]? = some q) (hq1 : q.1 = mown M') (e : isO S a ci = true) (hR : Fit X M' d' k n) (c : ACv M' d' S g vs Po) (hv : vs = [.ref a]) (hw : Nat.ble (st.map Value.category).sum 8 = true) (kk : ∀ (S' : sH) (g' : GH), S'.1 = S.1 → Po S' g' → AW M X Q ad k n (conc S' g') (pc + 3) ls st) : AW M X Q ad k n (conc S g) pc ls (.ref a :: st) := by
  subst hv
  exact call_Vv (vs := []) d LC L hq hq1 e hR c rfl hw kk
theorem a_U0v {M' : Mi} {d' a idx : Nat} (ci : Nat) {q : vw_C} {vs : List Value} {Po : sH → GH → Prop} (d : decode (mcc M) pc = .ok (.invokevirtual idx, 3)) (hq : vwCl[ci]? = some q) (LC : LkC M' 0) (L : LkU (mown M) idx q.1 M' 0) (e : isO S a ci = true) (hR : Fit X M' d' k n) (c : ACv M' d' S g vs Po) (hv : vs = [.ref a]) (hw : Nat.ble (st.map Value.category).sum 8 = true) (kk : ∀ (S' : sH) (g' : GH), S'.1 = S.1 → Po S' g' → AW M X Q ad k n (conc S' g') (pc + 3) ls st) : AW M X Q ad k n (conc S g) pc ls (.ref a :: st) := by
  subst hv
  exact call_Uv (vs := []) d hq LC L e hR c rfl hw kk
theorem a_V1v {M' : Mi} {d' a idx : Nat} (ci : Nat) {q : vw_C} {v1 : Value} {vs : List Value} {Po : sH → GH → Prop} (d : decode (mcc M) pc = .ok (.invokevirtual idx, 3)) (LC : LkC M' 1) (L : LkV (mown M) idx M') (hq : vwCl[ci]? = some q) (hq1 : q.1 = mown M') (e : isO S a ci = true) (hR : Fit X M' d' k n) (c : ACv M' d' S g vs Po) (hv : vs = [.ref a, v1]) (hw : Nat.ble (st.map Value.category).sum 8 = true) (kk : ∀ (S' : sH) (g' : GH), S'.1 = S.1 → Po S' g' → AW M X Q ad k n (conc S' g') (pc + 3) ls st) : AW M X Q ad k n (conc S g) pc ls (v1 :: .ref a :: st) := by
  subst hv
  exact call_Vv (vs := [v1]) d LC L hq hq1 e hR c rfl hw kk
theorem a_U1v {M' : Mi} {d' a idx : Nat} (ci : Nat) {q : vw_C} {v1 : Value} {vs : List Value} {Po : sH → GH → Prop} (d : decode (mcc M) pc = .ok (.invokevirtual idx, 3)) (hq : vwCl[ci]? = some q) (LC : LkC M' 1) (L : LkU (mown M) idx q.1 M' 1) (e : isO S a ci = true) (hR : Fit X M' d' k n) (c : ACv M' d' S g vs Po) (hv : vs = [.ref a, v1]) (hw : Nat.ble (st.map Value.category).sum 8 = true) (kk : ∀ (S' : sH) (g' : GH), S'.1 = S.1 → Po S' g' → AW M X Q ad k n (conc S' g') (pc + 3) ls st) : AW M X Q ad k n (conc S g) pc ls (v1 :: .ref a :: st) := by
  subst hv
  exact call_Uv (vs := [v1]) d hq LC L e hR c rfl hw kk
theorem a_V2v {M' : Mi} {d' a idx : Nat} (ci : Nat) {q : vw_C} {v1 v2 : Value} {vs : List Value} {Po : sH → GH → Prop} (d : decode (mcc M) pc = .ok (.invokevirtual idx, 3)) (LC : LkC M' 2) (L : LkV (mown M) idx M') (hq : vwCl[ci]? = some q) (hq1 : q.1 = mown M') (e : isO S a ci = true) (hR : Fit X M' d' k n) (c : ACv M' d' S g vs Po) (hv : vs = [.ref a, v1, v2]) (hw : Nat.ble (st.map Value.category).sum 8 = true) (kk : ∀ (S' : sH) (g' : GH), S'.1 = S.1 → Po S' g' → AW M X Q ad k n (conc S' g') (pc + 3) ls st) : AW M X Q ad k n (conc S g) pc ls (v2 :: v1 :: .ref a :: st) := by
  subst hv
  exact call_Vv (vs := [v1, v2]) d LC L hq hq1 e hR c rfl hw kk
theorem a_U2v {M' : Mi} {d' a idx : Nat} (ci : Nat) {q : vw_C} {v1 v2 : Value} {vs : List Value} {Po : sH → GH → Prop} (d : decode (mcc M) pc = .ok (.invokevirtual idx, 3)) (hq : vwCl[ci]? = some q) (LC : LkC M' 2) (L : LkU (mown M) idx q.1 M' 2) (e : isO S a ci = true) (hR : Fit X M' d' k n) (c : ACv M' d' S g vs Po) (hv : vs = [.ref a, v1, v2]) (hw : Nat.ble (st.map Value.category).sum 8 = true) (kk : ∀ (S' : sH) (g' : GH), S'.1 = S.1 → Po S' g' → AW M X Q ad k n (conc S' g') (pc + 3) ls st) : AW M X Q ad k n (conc S g) pc ls (v2 :: v1 :: .ref a :: st) := by
  subst hv
  exact call_Uv (vs := [v1, v2]) d hq LC L e hR c rfl hw kk
theorem a_V3v {M' : Mi} {d' a idx : Nat} (ci : Nat) {q : vw_C} {v1 v2 v3 : Value} {vs : List Value} {Po : sH → GH → Prop} (d : decode (mcc M) pc = .ok (.invokevirtual idx, 3)) (LC : LkC M' 3) (L : LkV (mown M) idx M') (hq : vwCl[ci]? = some q) (hq1 : q.1 = mown M') (e : isO S a ci = true) (hR : Fit X M' d' k n) (c : ACv M' d' S g vs Po) (hv : vs = [.ref a, v1, v2, v3]) (hw : Nat.ble (st.map Value.category).sum 8 = true) (kk : ∀ (S' : sH) (g' : GH), S'.1 = S.1 → Po S' g' → AW M X Q ad k n (conc S' g') (pc + 3) ls st) : AW M X Q ad k n (conc S g) pc ls (v3 :: v2 :: v1 :: .ref a :: st) := by
  subst hv
  exact call_Vv (vs := [v1, v2, v3]) d LC L hq hq1 e hR c rfl hw kk
theorem a_U3v {M' : Mi} {d' a idx : Nat} (ci : Nat) {q : vw_C} {v1 v2 v3 : Value} {vs : List Value} {Po : sH → GH → Prop} (d : decode (mcc M) pc = .ok (.invokevirtual idx, 3)) (hq : vwCl[ci]? = some q) (LC : LkC M' 3) (L : LkU (mown M) idx q.1 M' 3) (e : isO S a ci = true) (hR : Fit X M' d' k n) (c : ACv M' d' S g vs Po) (hv : vs = [.ref a, v1, v2, v3]) (hw : Nat.ble (st.map Value.category).sum 8 = true) (kk : ∀ (S' : sH) (g' : GH), S'.1 = S.1 → Po S' g' → AW M X Q ad k n (conc S' g') (pc + 3) ls st) : AW M X Q ad k n (conc S g) pc ls (v3 :: v2 :: v1 :: .ref a :: st) := by
  subst hv
  exact call_Uv (vs := [v1, v2, v3]) d hq LC L e hR c rfl hw kk
theorem a_V4v {M' : Mi} {d' a idx : Nat} (ci : Nat) {q : vw_C} {v1 v2 v3 v4 : Value} {vs : List Value} {Po : sH → GH → Prop} (d : decode (mcc M) pc = .ok (.invokevirtual idx, 3)) (LC : LkC M' 4) (L : LkV (mown M) idx M') (hq : vwCl[ci]? = some q) (hq1 : q.1 = mown M') (e : isO S a ci = true) (hR : Fit X M' d' k n) (c : ACv M' d' S g vs Po) (hv : vs = [.ref a, v1, v2, v3, v4]) (hw : Nat.ble (st.map Value.category).sum 8 = true) (kk : ∀ (S' : sH) (g' : GH), S'.1 = S.1 → Po S' g' → AW M X Q ad k n (conc S' g') (pc + 3) ls st) : AW M X Q ad k n (conc S g) pc ls (v4 :: v3 :: v2 :: v1 :: .ref a :: st) := by
  subst hv
  exact call_Vv (vs := [v1, v2, v3, v4]) d LC L hq hq1 e hR c rfl hw kk
theorem a_U4v {M' : Mi} {d' a idx : Nat} (ci : Nat) {q : vw_C} {v1 v2 v3 v4 : Value} {vs : List Value} {Po : sH → GH → Prop} (d : decode (mcc M) pc = .ok (.invokevirtual idx, 3)) (hq : vwCl[ci]? = some q) (LC : LkC M' 4) (L : LkU (mown M) idx q.1 M' 4) (e : isO S a ci = true) (hR : Fit X M' d' k n) (c : ACv M' d' S g vs Po) (hv : vs = [.ref a, v1, v2, v3, v4]) (hw : Nat.ble (st.map Value.category).sum 8 = true) (kk : ∀ (S' : sH) (g' : GH), S'.1 = S.1 → Po S' g' → AW M X Q ad k n (conc S' g') (pc + 3) ls st) : AW M X Q ad k n (conc S g) pc ls (v4 :: v3 :: v2 :: v1 :: .ref a :: st) := by
  subst hv
  exact call_Uv (vs := [v1, v2, v3, v4]) d hq LC L e hR c rfl hw kk
theorem a_V5v {M' : Mi} {d' a idx : Nat} (ci : Nat) {q : vw_C} {v1 v2 v3 v4 v5 : Value} {vs : List Value} {Po : sH → GH → Prop} (d : decode (mcc M) pc = .ok (.invokevirtual idx, 3)) (LC : LkC M' 5) (L : LkV (mown M) idx M') (hq : vwCl[ci]? = some q) (hq1 : q.1 = mown M') (e : isO S a ci = true) (hR : Fit X M' d' k n) (c : ACv M' d' S g vs Po) (hv : vs = [.ref a, v1, v2, v3, v4, v5]) (hw : Nat.ble (st.map Value.category).sum 8 = true) (kk : ∀ (S' : sH) (g' : GH), S'.1 = S.1 → Po S' g' → AW M X Q ad k n (conc S' g') (pc + 3) ls st) : AW M X Q ad k n (conc S g) pc ls (v5 :: v4 :: v3 :: v2 :: v1 :: .ref a :: st) := by
  subst hv
  exact call_Vv (vs := [v1, v2, v3, v4, v5]) d LC L hq hq1 e hR c rfl hw kk
theorem a_U5v {M' : Mi} {d' a idx : Nat} (ci : Nat) {q : vw_C} {v1 v2 v3 v4 v5 : Value} {vs : List Value} {Po : sH → GH → Prop} (d : decode (mcc M) pc = .ok (.invokevirtual idx, 3)) (hq : vwCl[ci]? = some q) (LC : LkC M' 5) (L : LkU (mown M) idx q.1 M' 5) (e : isO S a ci = true) (hR : Fit X M' d' k n) (c : ACv M' d' S g vs Po) (hv : vs = [.ref a, v1, v2, v3, v4, v5]) (hw : Nat.ble (st.map Value.category).sum 8 = true) (kk : ∀ (S' : sH) (g' : GH), S'.1 = S.1 → Po S' g' → AW M X Q ad k n (conc S' g') (pc + 3) ls st) : AW M X Q ad k n (conc S g) pc ls (v5 :: v4 :: v3 :: v2 :: v1 :: .ref a :: st) := by
  subst hv
  exact call_Uv (vs := [v1, v2, v3, v4, v5]) d hq LC L e hR c rfl hw kk
theorem a_V6v {M' : Mi} {d' a idx : Nat} (ci : Nat) {q : vw_C} {v1 v2 v3 v4 v5 v6 : Value} {vs : List Value} {Po : sH → GH → Prop} (d : decode (mcc M) pc = .ok (.invokevirtual idx, 3)) (LC : LkC M' 6) (L : LkV (mown M) idx M') (hq : vwCl[ci]? = some q) (hq1 : q.1 = mown M') (e : isO S a ci = true) (hR : Fit X M' d' k n) (c : ACv M' d' S g vs Po) (hv : vs = [.ref a, v1, v2, v3, v4, v5, v6]) (hw : Nat.ble (st.map Value.category).sum 8 = true) (kk : ∀ (S' : sH) (g' : GH), S'.1 = S.1 → Po S' g' → AW M X Q ad k n (conc S' g') (pc + 3) ls st) : AW M X Q ad k n (conc S g) pc ls (v6 :: v5 :: v4 :: v3 :: v2 :: v1 :: .ref a :: st) := by
  subst hv
  exact call_Vv (vs := [v1, v2, v3, v4, v5, v6]) d LC L hq hq1 e hR c rfl hw kk
theorem a_U6v {M' : Mi} {d' a idx : Nat} (ci : Nat) {q : vw_C} {v1 v2 v3 v4 v5 v6 : Value} {vs : List Value} {Po : sH → GH → Prop} (d : decode (mcc M) pc = .ok (.invokevirtual idx, 3)) (hq : vwCl[ci]? = some q) (LC : LkC M' 6) (L : LkU (mown M) idx q.1 M' 6) (e : isO S a ci = true) (hR : Fit X M' d' k n) (c : ACv M' d' S g vs Po) (hv : vs = [.ref a, v1, v2, v3, v4, v5, v6]) (hw : Nat.ble (st.map Value.category).sum 8 = true) (kk : ∀ (S' : sH) (g' : GH), S'.1 = S.1 → Po S' g' → AW M X Q ad k n (conc S' g') (pc + 3) ls st) : AW M X Q ad k n (conc S g) pc ls (v6 :: v5 :: v4 :: v3 :: v2 :: v1 :: .ref a :: st) := by
  subst hv
  exact call_Uv (vs := [v1, v2, v3, v4, v5, v6]) d hq LC L e hR c rfl hw kk
theorem a_S0v {M' : Mi} {d' idx : Nat} {vs : List Value} {Po : sH → GH → Prop} (d : decode (mcc M) pc = .ok (.invokestatic idx, 3)) (LC : LkC M' 0) (L : LkS (mown M) idx M' ∨ LkN (mown M) idx M') (hR : Fit X M' d' k n) (c : ACv M' d' S g vs Po) (hv : vs = []) (hw : Nat.ble (st.map Value.category).sum 8 = true) (kk : ∀ (S' : sH) (g' : GH), S'.1 = S.1 → Po S' g' → AW M X Q ad k n (conc S' g') (pc + 3) ls st) : AW M X Q ad k n (conc S g) pc ls st := by
  subst hv
  exact call_Sv (vs := []) d LC L hR c rfl hw kk
theorem a_S1v {M' : Mi} {d' idx : Nat} {v1 : Value} {vs : List Value} {Po : sH → GH → Prop} (d : decode (mcc M) pc = .ok (.invokestatic idx, 3)) (LC : LkC M' 1) (L : LkS (mown M) idx M' ∨ LkN (mown M) idx M') (hR : Fit X M' d' k n) (c : ACv M' d' S g vs Po) (hv : vs = [v1]) (hw : Nat.ble (st.map Value.category).sum 8 = true) (kk : ∀ (S' : sH) (g' : GH), S'.1 = S.1 → Po S' g' → AW M X Q ad k n (conc S' g') (pc + 3) ls st) : AW M X Q ad k n (conc S g) pc ls (v1 :: st) := by
  subst hv
  exact call_Sv (vs := [v1]) d LC L hR c rfl hw kk
theorem a_S2v {M' : Mi} {d' idx : Nat} {v1 v2 : Value} {vs : List Value} {Po : sH → GH → Prop} (d : decode (mcc M) pc = .ok (.invokestatic idx, 3)) (LC : LkC M' 2) (L : LkS (mown M) idx M' ∨ LkN (mown M) idx M') (hR : Fit X M' d' k n) (c : ACv M' d' S g vs Po) (hv : vs = [v1, v2]) (hw : Nat.ble (st.map Value.category).sum 8 = true) (kk : ∀ (S' : sH) (g' : GH), S'.1 = S.1 → Po S' g' → AW M X Q ad k n (conc S' g') (pc + 3) ls st) : AW M X Q ad k n (conc S g) pc ls (v2 :: v1 :: st) := by
  subst hv
  exact call_Sv (vs := [v1, v2]) d LC L hR c rfl hw kk
theorem a_S3v {M' : Mi} {d' idx : Nat} {v1 v2 v3 : Value} {vs : List Value} {Po : sH → GH → Prop} (d : decode (mcc M) pc = .ok (.invokestatic idx, 3)) (LC : LkC M' 3) (L : LkS (mown M) idx M' ∨ LkN (mown M) idx M') (hR : Fit X M' d' k n) (c : ACv M' d' S g vs Po) (hv : vs = [v1, v2, v3]) (hw : Nat.ble (st.map Value.category).sum 8 = true) (kk : ∀ (S' : sH) (g' : GH), S'.1 = S.1 → Po S' g' → AW M X Q ad k n (conc S' g') (pc + 3) ls st) : AW M X Q ad k n (conc S g) pc ls (v3 :: v2 :: v1 :: st) := by
  subst hv
  exact call_Sv (vs := [v1, v2, v3]) d LC L hR c rfl hw kk
theorem a_S4v {M' : Mi} {d' idx : Nat} {v1 v2 v3 v4 : Value} {vs : List Value} {Po : sH → GH → Prop} (d : decode (mcc M) pc = .ok (.invokestatic idx, 3)) (LC : LkC M' 4) (L : LkS (mown M) idx M' ∨ LkN (mown M) idx M') (hR : Fit X M' d' k n) (c : ACv M' d' S g vs Po) (hv : vs = [v1, v2, v3, v4]) (hw : Nat.ble (st.map Value.category).sum 8 = true) (kk : ∀ (S' : sH) (g' : GH), S'.1 = S.1 → Po S' g' → AW M X Q ad k n (conc S' g') (pc + 3) ls st) : AW M X Q ad k n (conc S g) pc ls (v4 :: v3 :: v2 :: v1 :: st) := by
  subst hv
  exact call_Sv (vs := [v1, v2, v3, v4]) d LC L hR c rfl hw kk
theorem a_S5v {M' : Mi} {d' idx : Nat} {v1 v2 v3 v4 v5 : Value} {vs : List Value} {Po : sH → GH → Prop} (d : decode (mcc M) pc = .ok (.invokestatic idx, 3)) (LC : LkC M' 5) (L : LkS (mown M) idx M' ∨ LkN (mown M) idx M') (hR : Fit X M' d' k n) (c : ACv M' d' S g vs Po) (hv : vs = [v1, v2, v3, v4, v5]) (hw : Nat.ble (st.map Value.category).sum 8 = true) (kk : ∀ (S' : sH) (g' : GH), S'.1 = S.1 → Po S' g' → AW M X Q ad k n (conc S' g') (pc + 3) ls st) : AW M X Q ad k n (conc S g) pc ls (v5 :: v4 :: v3 :: v2 :: v1 :: st) := by
  subst hv
  exact call_Sv (vs := [v1, v2, v3, v4, v5]) d LC L hR c rfl hw kk
theorem a_S6v {M' : Mi} {d' idx : Nat} {v1 v2 v3 v4 v5 v6 : Value} {vs : List Value} {Po : sH → GH → Prop} (d : decode (mcc M) pc = .ok (.invokestatic idx, 3)) (LC : LkC M' 6) (L : LkS (mown M) idx M' ∨ LkN (mown M) idx M') (hR : Fit X M' d' k n) (c : ACv M' d' S g vs Po) (hv : vs = [v1, v2, v3, v4, v5, v6]) (hw : Nat.ble (st.map Value.category).sum 8 = true) (kk : ∀ (S' : sH) (g' : GH), S'.1 = S.1 → Po S' g' → AW M X Q ad k n (conc S' g') (pc + 3) ls st) : AW M X Q ad k n (conc S g) pc ls (v6 :: v5 :: v4 :: v3 :: v2 :: v1 :: st) := by
  subst hv
  exact call_Sv (vs := [v1, v2, v3, v4, v5, v6]) d LC L hR c rfl hw kk
theorem a_S7v {M' : Mi} {d' idx : Nat} {v1 v2 v3 v4 v5 v6 v7 : Value} {vs : List Value} {Po : sH → GH → Prop} (d : decode (mcc M) pc = .ok (.invokestatic idx, 3)) (LC : LkC M' 7) (L : LkS (mown M) idx M' ∨ LkN (mown M) idx M') (hR : Fit X M' d' k n) (c : ACv M' d' S g vs Po) (hv : vs = [v1, v2, v3, v4, v5, v6, v7]) (hw : Nat.ble (st.map Value.category).sum 8 = true) (kk : ∀ (S' : sH) (g' : GH), S'.1 = S.1 → Po S' g' → AW M X Q ad k n (conc S' g') (pc + 3) ls st) : AW M X Q ad k n (conc S g) pc ls (v7 :: v6 :: v5 :: v4 :: v3 :: v2 :: v1 :: st) := by
  subst hv
  exact call_Sv (vs := [v1, v2, v3, v4, v5, v6, v7]) d LC L hR c rfl hw kk
end A6
theorem ACi.of {M : Mi} {dd nn : Nat} {S : sH} {g : GH} {vs : List Value} {Po : Int32 → sH → GH → Prop} (LC : LkC M nn) (hret : mret M = some .int) (hl : Nat.ble (lg_sl vs).length (mnL M) = true)
    (body : ∀ (X : Cx) (Q : State → Prop) (ad : Nat → Nat), xR X = rmD dd → (∀ (S' : sH) (g' : GH) (pc : Nat) (ls : List (Option Value)) (v : Int32) , decode (mcc M) pc = .ok (.ireturn, 1) → S'.1 = S.1 → Po v S' g' → AW M X Q ad 0 0 (conc S' g') pc ls [.int v]) → AW M X Q ad 0 0 (conc S g) 0 (sen (mnL M) vs) []) : ACi M dd S g vs Po := by
  intro l D dA ad sz
  refine Met.ofW (cc := mcc M) (maxL := mnL M) (ret := mret M) LC.2.2.2 rfl ?_
  intro p e s m args below meth c s₁ B hml hv
  obtain ⟨rfl, hsz, hP, hK, hD0⟩ := hv
  subst hsz
  have hts := atoms_spec (ws := mws M) B.pre
  have hD := hD0.self (sz := s.heap.size)
  have hA : ∀ q : Nat, s.heap.size ≤ q → va_A (sw dA ad (conc S g)) s.heap.size q := fun q h => Or.inr h
  have C : XOk M (p, l, e, rmD dd, s, m, (vs.map (sv ad)).toArray, below, meth, c, D, dA, va_A (sw dA ad (conc S g)) s.heap.size, s.heap) := ⟨B.exec, B.bytes, hml, findClass_of_methodNamed B.named, fun w hw => hts w (List.mem_cons_of_mem _ hw), B.notSynchronized, (name_of_methodNamed B.named B.method).1, B.returns, hK, hA⟩
  rw [lg_entry_eq]
  have hr := B.returns
  rw [hret] at hr
  have hb2 := body (p, l, e, rmD dd, s, m, (vs.map (sv ad)).toArray, below, meth, c, D, dA, va_A (sw dA ad (conc S g)) s.heap.size, s.heap) (MQ below (va_Qi (fun r (u : sH × GH) => Po r u.1 u.2) (Bd D dA ad S g s.heap.size) (va_A (sw dA ad (conc S g)) s.heap.size)) (vs.map (sv ad)).toArray s 0 0 (va_A (sw dA ad (conc S g)) s.heap.size)) ad rfl (by
    intro S' g' pc ls v d hS' hp C H locs lc r
    exact W.iret (v := v) C.1 C.2.1 hr (fun t ht hW => ⟨⟨v, (S', g'), rfl, hp, hS', by rw [ht]; exact r.1, r.2.1⟩, r.2.2.1.F ht⟩) r.2.2.1.2.2 d C.2.2.2.2.2.1)
  exact hb2 C s.heap [] _ ⟨hP, hD, va_S.rf, sen_has ad vs (Nat.le_of_ble_eq_true hl)⟩
theorem ACz.of {M : Mi} {dd nn : Nat} {S : sH} {g : GH} {vs : List Value} {Po : Int32 → sH → GH → Prop} (LC : LkC M nn) (hret : mret M = some .boolean) (hl : Nat.ble (lg_sl vs).length (mnL M) = true)
    (body : ∀ (X : Cx) (Q : State → Prop) (ad : Nat → Nat), xR X = rmD dd → (∀ (S' : sH) (g' : GH) (pc : Nat) (ls : List (Option Value)) (v : Int32) , decode (mcc M) pc = .ok (.ireturn, 1) → S'.1 = S.1 → v = 0 ∨ v = 1 → Po v S' g' → AW M X Q ad 0 0 (conc S' g') pc ls [.int v]) → AW M X Q ad 0 0 (conc S g) 0 (sen (mnL M) vs) []) : ACi M dd S g vs Po := by
  intro l D dA ad sz
  refine Met.ofW (cc := mcc M) (maxL := mnL M) (ret := mret M) LC.2.2.2 rfl ?_
  intro p e s m args below meth c s₁ B hml hv
  obtain ⟨rfl, hsz, hP, hK, hD0⟩ := hv
  subst hsz
  have hts := atoms_spec (ws := mws M) B.pre
  have hD := hD0.self (sz := s.heap.size)
  have hA : ∀ q : Nat, s.heap.size ≤ q → va_A (sw dA ad (conc S g)) s.heap.size q := fun q h => Or.inr h
  have C : XOk M (p, l, e, rmD dd, s, m, (vs.map (sv ad)).toArray, below, meth, c, D, dA, va_A (sw dA ad (conc S g)) s.heap.size, s.heap) := ⟨B.exec, B.bytes, hml, findClass_of_methodNamed B.named, fun w hw => hts w (List.mem_cons_of_mem _ hw), B.notSynchronized, (name_of_methodNamed B.named B.method).1, B.returns, hK, hA⟩
  rw [lg_entry_eq]
  have hr := B.returns
  rw [hret] at hr
  have hb2 := body (p, l, e, rmD dd, s, m, (vs.map (sv ad)).toArray, below, meth, c, D, dA, va_A (sw dA ad (conc S g)) s.heap.size, s.heap) (MQ below (va_Qi (fun r (u : sH × GH) => Po r u.1 u.2) (Bd D dA ad S g s.heap.size) (va_A (sw dA ad (conc S g)) s.heap.size)) (vs.map (sv ad)).toArray s 0 0 (va_A (sw dA ad (conc S g)) s.heap.size)) ad rfl (by
    intro S' g' pc ls v d hS' hz hp C H locs lc r
    exact W.zret (v := v) C.1 C.2.1 hr (by rcases hz with rfl | rfl <;> rfl) (fun t ht hW => ⟨⟨v, (S', g'), rfl, hp, hS', by rw [ht]; exact r.1, r.2.1⟩, r.2.2.1.F ht⟩) r.2.2.1.2.2 d C.2.2.2.2.2.1)
  exact hb2 C s.heap [] _ ⟨hP, hD, va_S.rf, sen_has ad vs (Nat.le_of_ble_eq_true hl)⟩
theorem ACl.of {M : Mi} {dd nn : Nat} {S : sH} {g : GH} {vs : List Value} {Po : Int64 → sH → GH → Prop} (LC : LkC M nn) (hret : mret M = some .long) (hl : Nat.ble (lg_sl vs).length (mnL M) = true)
    (body : ∀ (X : Cx) (Q : State → Prop) (ad : Nat → Nat), xR X = rmD dd → (∀ (S' : sH) (g' : GH) (pc : Nat) (ls : List (Option Value)) (v : Int64) , decode (mcc M) pc = .ok (.lreturn, 1) → S'.1 = S.1 → Po v S' g' → AW M X Q ad 0 0 (conc S' g') pc ls [.long v]) → AW M X Q ad 0 0 (conc S g) 0 (sen (mnL M) vs) []) : ACl M dd S g vs Po := by
  intro l D dA ad sz
  refine Met.ofW (cc := mcc M) (maxL := mnL M) (ret := mret M) LC.2.2.2 rfl ?_
  intro p e s m args below meth c s₁ B hml hv
  obtain ⟨rfl, hsz, hP, hK, hD0⟩ := hv
  subst hsz
  have hts := atoms_spec (ws := mws M) B.pre
  have hD := hD0.self (sz := s.heap.size)
  have hA : ∀ q : Nat, s.heap.size ≤ q → va_A (sw dA ad (conc S g)) s.heap.size q := fun q h => Or.inr h
  have C : XOk M (p, l, e, rmD dd, s, m, (vs.map (sv ad)).toArray, below, meth, c, D, dA, va_A (sw dA ad (conc S g)) s.heap.size, s.heap) := ⟨B.exec, B.bytes, hml, findClass_of_methodNamed B.named, fun w hw => hts w (List.mem_cons_of_mem _ hw), B.notSynchronized, (name_of_methodNamed B.named B.method).1, B.returns, hK, hA⟩
  rw [lg_entry_eq]
  have hr := B.returns
  rw [hret] at hr
  have hb2 := body (p, l, e, rmD dd, s, m, (vs.map (sv ad)).toArray, below, meth, c, D, dA, va_A (sw dA ad (conc S g)) s.heap.size, s.heap) (MQ below (va_Ql (fun r (u : sH × GH) => Po r u.1 u.2) (Bd D dA ad S g s.heap.size) (va_A (sw dA ad (conc S g)) s.heap.size)) (vs.map (sv ad)).toArray s 0 0 (va_A (sw dA ad (conc S g)) s.heap.size)) ad rfl (by
    intro S' g' pc ls v d hS' hp C H locs lc r
    exact W.lret (v := v) C.1 C.2.1 hr (fun t ht hW => ⟨⟨v, (S', g'), rfl, hp, hS', by rw [ht]; exact r.1, r.2.1⟩, r.2.2.1.F ht⟩) r.2.2.1.2.2 d C.2.2.2.2.2.1)
  exact hb2 C s.heap [] _ ⟨hP, hD, va_S.rf, sen_has ad vs (Nat.le_of_ble_eq_true hl)⟩
theorem ACv.of {M : Mi} {dd nn : Nat} {S : sH} {g : GH} {vs : List Value} {Po : sH → GH → Prop} (LC : LkC M nn) (hret : mret M = none) (hl : Nat.ble (lg_sl vs).length (mnL M) = true)
    (body : ∀ (X : Cx) (Q : State → Prop) (ad : Nat → Nat), xR X = rmD dd → (∀ (S' : sH) (g' : GH) (pc : Nat) (ls : List (Option Value)) , decode (mcc M) pc = .ok (.return_, 1) → S'.1 = S.1 → Po S' g' → AW M X Q ad 0 0 (conc S' g') pc ls []) → AW M X Q ad 0 0 (conc S g) 0 (sen (mnL M) vs) []) : ACv M dd S g vs Po := by
  intro l D dA ad sz
  refine Met.ofW (cc := mcc M) (maxL := mnL M) (ret := mret M) LC.2.2.2 rfl ?_
  intro p e s m args below meth c s₁ B hml hv
  obtain ⟨rfl, hsz, hP, hK, hD0⟩ := hv
  subst hsz
  have hts := atoms_spec (ws := mws M) B.pre
  have hD := hD0.self (sz := s.heap.size)
  have hA : ∀ q : Nat, s.heap.size ≤ q → va_A (sw dA ad (conc S g)) s.heap.size q := fun q h => Or.inr h
  have C : XOk M (p, l, e, rmD dd, s, m, (vs.map (sv ad)).toArray, below, meth, c, D, dA, va_A (sw dA ad (conc S g)) s.heap.size, s.heap) := ⟨B.exec, B.bytes, hml, findClass_of_methodNamed B.named, fun w hw => hts w (List.mem_cons_of_mem _ hw), B.notSynchronized, (name_of_methodNamed B.named B.method).1, B.returns, hK, hA⟩
  rw [lg_entry_eq]
  have hr := B.returns
  rw [hret] at hr
  have hb2 := body (p, l, e, rmD dd, s, m, (vs.map (sv ad)).toArray, below, meth, c, D, dA, va_A (sw dA ad (conc S g)) s.heap.size, s.heap) (MQ below (va_Qv (fun (u : sH × GH) => Po u.1 u.2) (Bd D dA ad S g s.heap.size) (va_A (sw dA ad (conc S g)) s.heap.size)) (vs.map (sv ad)).toArray s 0 0 (va_A (sw dA ad (conc S g)) s.heap.size)) ad rfl (by
    intro S' g' pc ls d hS' hp C H locs lc r
    exact W.vret C.1 C.2.1 hr (fun t ht hW => ⟨⟨(S', g'), rfl, hp, hS', by rw [ht]; exact r.1, r.2.1⟩, r.2.2.1.F ht⟩) r.2.2.1.2.2 d C.2.2.2.2.2.1)
  exact hb2 C s.heap [] _ ⟨hP, hD, va_S.rf, sen_has ad vs (Nat.le_of_ble_eq_true hl)⟩
end
