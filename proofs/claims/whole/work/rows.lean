section
-- ===== PART A: goes FIRST, ahead of the names: the tables' words, and 'selects' of the private methods out of them =====
/-- a private method of a class that the tables say can be made, by its rows of tables_1 -/
def lw_okq (q : MethodName × Nat) : Prop := (q.1.cls ≠ "java/lang/invoke/MethodHandle" ∧ q.1.cls ≠ "java/lang/invoke/VarHandle") ∧ Cond.instantiable q.1.cls q.2 ∈ tables_1 ∧ Cond.privateMethod q.1 ∈ tables_1 ∧ Cond.instanceMethod q.1 ∈ tables_1
theorem lw_p0 : lw_okq (⟨"OrderedDisc", "refuse", "(I)I"⟩, 10) := ⟨⟨by decide +kernel, by decide +kernel⟩, List.mem_of_getElem? (i := 23) (by decide +kernel), List.mem_of_getElem? (i := 354) (by decide +kernel), List.mem_of_getElem? (i := 355) (by decide +kernel)⟩
theorem lw_p1 : lw_okq (⟨"OrderedDisc$States", "gather", "(LOrderedDisc$Disc;I)V"⟩, 14) := ⟨⟨by decide +kernel, by decide +kernel⟩, List.mem_of_getElem? (i := 98) (by decide +kernel), List.mem_of_getElem? (i := 405) (by decide +kernel), List.mem_of_getElem? (i := 406) (by decide +kernel)⟩
theorem lw_p2 : lw_okq (⟨"OrderedDisc$States", "allow", "(II)V"⟩, 14) := ⟨⟨by decide +kernel, by decide +kernel⟩, List.mem_of_getElem? (i := 98) (by decide +kernel), List.mem_of_getElem? (i := 412) (by decide +kernel), List.mem_of_getElem? (i := 413) (by decide +kernel)⟩
theorem lw_p3 : lw_okq (⟨"OrderedDisc$States", "countAlone", "()V"⟩, 14) := ⟨⟨by decide +kernel, by decide +kernel⟩, List.mem_of_getElem? (i := 98) (by decide +kernel), List.mem_of_getElem? (i := 416) (by decide +kernel), List.mem_of_getElem? (i := 417) (by decide +kernel)⟩
theorem lw_p4 : lw_okq (⟨"OrderedDisc$States", "choicesOf", "(II)I"⟩, 14) := ⟨⟨by decide +kernel, by decide +kernel⟩, List.mem_of_getElem? (i := 98) (by decide +kernel), List.mem_of_getElem? (i := 420) (by decide +kernel), List.mem_of_getElem? (i := 421) (by decide +kernel)⟩
theorem lw_p5 : lw_okq (⟨"OrderedDisc$States", "countFrom", "(II)I"⟩, 14) := ⟨⟨by decide +kernel, by decide +kernel⟩, List.mem_of_getElem? (i := 98) (by decide +kernel), List.mem_of_getElem? (i := 424) (by decide +kernel), List.mem_of_getElem? (i := 425) (by decide +kernel)⟩
theorem lw_p6 : lw_okq (⟨"OrderedDisc$States", "advance", "()V"⟩, 14) := ⟨⟨by decide +kernel, by decide +kernel⟩, List.mem_of_getElem? (i := 98) (by decide +kernel), List.mem_of_getElem? (i := 442) (by decide +kernel), List.mem_of_getElem? (i := 443) (by decide +kernel)⟩
theorem lw_p7 : lw_okq (⟨"OrderedDisc$States", "step", "(I)Z"⟩, 14) := ⟨⟨by decide +kernel, by decide +kernel⟩, List.mem_of_getElem? (i := 98) (by decide +kernel), List.mem_of_getElem? (i := 446) (by decide +kernel), List.mem_of_getElem? (i := 447) (by decide +kernel)⟩
theorem lw_p8 : lw_okq (⟨"OrderedDisc$States", "pick", "(II)V"⟩, 14) := ⟨⟨by decide +kernel, by decide +kernel⟩, List.mem_of_getElem? (i := 98) (by decide +kernel), List.mem_of_getElem? (i := 450) (by decide +kernel), List.mem_of_getElem? (i := 451) (by decide +kernel)⟩
theorem lw_p9 : lw_okq (⟨"OrderedDisc$States", "descend", "(I)V"⟩, 14) := ⟨⟨by decide +kernel, by decide +kernel⟩, List.mem_of_getElem? (i := 98) (by decide +kernel), List.mem_of_getElem? (i := 454) (by decide +kernel), List.mem_of_getElem? (i := 455) (by decide +kernel)⟩
theorem lw_p10 : lw_okq (⟨"OrderedDisc", "isKind", "(I)Z"⟩, 10) := ⟨⟨by decide +kernel, by decide +kernel⟩, List.mem_of_getElem? (i := 23) (by decide +kernel), List.mem_of_getElem? (i := 463) (by decide +kernel), List.mem_of_getElem? (i := 464) (by decide +kernel)⟩
theorem lw_p11 : lw_okq (⟨"OrderedDisc", "hasStore", "()Z"⟩, 10) := ⟨⟨by decide +kernel, by decide +kernel⟩, List.mem_of_getElem? (i := 23) (by decide +kernel), List.mem_of_getElem? (i := 502) (by decide +kernel), List.mem_of_getElem? (i := 503) (by decide +kernel)⟩
theorem lw_p12 : lw_okq (⟨"OrderedDisc", "carryOut", "()I"⟩, 10) := ⟨⟨by decide +kernel, by decide +kernel⟩, List.mem_of_getElem? (i := 23) (by decide +kernel), List.mem_of_getElem? (i := 579) (by decide +kernel), List.mem_of_getElem? (i := 580) (by decide +kernel)⟩
theorem lw_p13 : lw_okq (⟨"OrderedDisc", "addAct", "(IIIJ)I"⟩, 10) := ⟨⟨by decide +kernel, by decide +kernel⟩, List.mem_of_getElem? (i := 23) (by decide +kernel), List.mem_of_getElem? (i := 664) (by decide +kernel), List.mem_of_getElem? (i := 665) (by decide +kernel)⟩
theorem lw_p14 : lw_okq (⟨"OrderedDisc$Passage", "lookAround", "()Z"⟩, 14) := ⟨⟨by decide +kernel, by decide +kernel⟩, List.mem_of_getElem? (i := 207) (by decide +kernel), List.mem_of_getElem? (i := 708) (by decide +kernel), List.mem_of_getElem? (i := 709) (by decide +kernel)⟩
theorem lw_p15 : lw_okq (⟨"OrderedDisc$Passage", "riseFrom", "([I)V"⟩, 14) := ⟨⟨by decide +kernel, by decide +kernel⟩, List.mem_of_getElem? (i := 207) (by decide +kernel), List.mem_of_getElem? (i := 714) (by decide +kernel), List.mem_of_getElem? (i := 715) (by decide +kernel)⟩
def lw_privs_1 : List (MethodName × Nat) := [(⟨"OrderedDisc", "refuse", "(I)I"⟩, 10), (⟨"OrderedDisc$States", "gather", "(LOrderedDisc$Disc;I)V"⟩, 14), (⟨"OrderedDisc$States", "allow", "(II)V"⟩, 14), (⟨"OrderedDisc$States", "countAlone", "()V"⟩, 14), (⟨"OrderedDisc$States", "choicesOf", "(II)I"⟩, 14), (⟨"OrderedDisc$States", "countFrom", "(II)I"⟩, 14), (⟨"OrderedDisc$States", "advance", "()V"⟩, 14), (⟨"OrderedDisc$States", "step", "(I)Z"⟩, 14), (⟨"OrderedDisc$States", "pick", "(II)V"⟩, 14), (⟨"OrderedDisc$States", "descend", "(I)V"⟩, 14), (⟨"OrderedDisc", "isKind", "(I)Z"⟩, 10), (⟨"OrderedDisc", "hasStore", "()Z"⟩, 10), (⟨"OrderedDisc", "carryOut", "()I"⟩, 10), (⟨"OrderedDisc", "addAct", "(IIIJ)I"⟩, 10), (⟨"OrderedDisc$Passage", "lookAround", "()Z"⟩, 14), (⟨"OrderedDisc$Passage", "riseFrom", "([I)V"⟩, 14)]
theorem lw_r1 : ∀ q ∈ lw_privs_1, lw_okq q := List.forall_mem_cons.mpr ⟨lw_p0, List.forall_mem_cons.mpr ⟨lw_p1, List.forall_mem_cons.mpr ⟨lw_p2, List.forall_mem_cons.mpr ⟨lw_p3, List.forall_mem_cons.mpr ⟨lw_p4, List.forall_mem_cons.mpr ⟨lw_p5, List.forall_mem_cons.mpr ⟨lw_p6, List.forall_mem_cons.mpr ⟨lw_p7, List.forall_mem_cons.mpr ⟨lw_p8, List.forall_mem_cons.mpr ⟨lw_p9, List.forall_mem_cons.mpr ⟨lw_p10, List.forall_mem_cons.mpr ⟨lw_p11, List.forall_mem_cons.mpr ⟨lw_p12, List.forall_mem_cons.mpr ⟨lw_p13, List.forall_mem_cons.mpr ⟨lw_p14, List.forall_mem_cons.mpr ⟨lw_p15, fun _ h => absurd h List.not_mem_nil⟩⟩⟩⟩⟩⟩⟩⟩⟩⟩⟩⟩⟩⟩⟩⟩
theorem lw_p16 : lw_okq (⟨"OrderedDisc$Passage", "isRight", "()Z"⟩, 14) := ⟨⟨by decide +kernel, by decide +kernel⟩, List.mem_of_getElem? (i := 207) (by decide +kernel), List.mem_of_getElem? (i := 727) (by decide +kernel), List.mem_of_getElem? (i := 728) (by decide +kernel)⟩
theorem lw_p17 : lw_okq (⟨"OrderedDisc$Passage", "keepBad", "(I)V"⟩, 14) := ⟨⟨by decide +kernel, by decide +kernel⟩, List.mem_of_getElem? (i := 207) (by decide +kernel), List.mem_of_getElem? (i := 731) (by decide +kernel), List.mem_of_getElem? (i := 732) (by decide +kernel)⟩
theorem lw_p18 : lw_okq (⟨"OrderedDisc$Passage", "makeSure", "()Z"⟩, 14) := ⟨⟨by decide +kernel, by decide +kernel⟩, List.mem_of_getElem? (i := 207) (by decide +kernel), List.mem_of_getElem? (i := 736) (by decide +kernel), List.mem_of_getElem? (i := 737) (by decide +kernel)⟩
theorem lw_p19 : lw_okq (⟨"OrderedDisc$Passage", "change", "(LOrderedDisc$Script;I)Z"⟩, 14) := ⟨⟨by decide +kernel, by decide +kernel⟩, List.mem_of_getElem? (i := 207) (by decide +kernel), List.mem_of_getElem? (i := 741) (by decide +kernel), List.mem_of_getElem? (i := 742) (by decide +kernel)⟩
theorem lw_p20 : lw_okq (⟨"java/lang/Throwable", "fillInStackTrace", "(I)Ljava/lang/Throwable;"⟩, 6) := ⟨⟨by decide +kernel, by decide +kernel⟩, List.mem_of_getElem? (i := 833) (by decide +kernel), List.mem_of_getElem? (i := 831) (by decide +kernel), List.mem_of_getElem? (i := 832) (by decide +kernel)⟩
theorem lw_p21 : lw_okq (⟨"OrderedDiscModel", "refuse", "(I)I"⟩, 38) := ⟨⟨by decide +kernel, by decide +kernel⟩, List.mem_of_getElem? (i := 904) (by decide +kernel), List.mem_of_getElem? (i := 1038) (by decide +kernel), List.mem_of_getElem? (i := 1039) (by decide +kernel)⟩
theorem lw_p22 : lw_okq (⟨"OrderedDiscModel", "push", "(IIII)Z"⟩, 38) := ⟨⟨by decide +kernel, by decide +kernel⟩, List.mem_of_getElem? (i := 904) (by decide +kernel), List.mem_of_getElem? (i := 1042) (by decide +kernel), List.mem_of_getElem? (i := 1043) (by decide +kernel)⟩
theorem lw_p23 : lw_okq (⟨"OrderedDiscModel", "flushOf", "(I)I"⟩, 38) := ⟨⟨by decide +kernel, by decide +kernel⟩, List.mem_of_getElem? (i := 904) (by decide +kernel), List.mem_of_getElem? (i := 1054) (by decide +kernel), List.mem_of_getElem? (i := 1055) (by decide +kernel)⟩
theorem lw_p24 : lw_okq (⟨"OrderedDiscModel", "readOf", "(III)I"⟩, 38) := ⟨⟨by decide +kernel, by decide +kernel⟩, List.mem_of_getElem? (i := 904) (by decide +kernel), List.mem_of_getElem? (i := 1065) (by decide +kernel), List.mem_of_getElem? (i := 1066) (by decide +kernel)⟩
theorem lw_p25 : lw_okq (⟨"OrderedDiscModel", "writeEpoch", "(II)I"⟩, 38) := ⟨⟨by decide +kernel, by decide +kernel⟩, List.mem_of_getElem? (i := 904) (by decide +kernel), List.mem_of_getElem? (i := 1077) (by decide +kernel), List.mem_of_getElem? (i := 1078) (by decide +kernel)⟩
theorem lw_p26 : lw_okq (⟨"OrderedDiscModel", "findStates", "(I)Z"⟩, 38) := ⟨⟨by decide +kernel, by decide +kernel⟩, List.mem_of_getElem? (i := 904) (by decide +kernel), List.mem_of_getElem? (i := 1085) (by decide +kernel), List.mem_of_getElem? (i := 1086) (by decide +kernel)⟩
theorem lw_p27 : lw_okq (⟨"OrderedDiscModel", "epochOf", "(II)I"⟩, 38) := ⟨⟨by decide +kernel, by decide +kernel⟩, List.mem_of_getElem? (i := 904) (by decide +kernel), List.mem_of_getElem? (i := 1089) (by decide +kernel), List.mem_of_getElem? (i := 1090) (by decide +kernel)⟩
theorem lw_p28 : lw_okq (⟨"OrderedDiscModel", "onlyBase", "()V"⟩, 38) := ⟨⟨by decide +kernel, by decide +kernel⟩, List.mem_of_getElem? (i := 904) (by decide +kernel), List.mem_of_getElem? (i := 1093) (by decide +kernel), List.mem_of_getElem? (i := 1094) (by decide +kernel)⟩
theorem lw_p29 : lw_okq (⟨"OrderedDiscModel", "mayBe", "(II)V"⟩, 38) := ⟨⟨by decide +kernel, by decide +kernel⟩, List.mem_of_getElem? (i := 904) (by decide +kernel), List.mem_of_getElem? (i := 1097) (by decide +kernel), List.mem_of_getElem? (i := 1098) (by decide +kernel)⟩
theorem lw_p30 : lw_okq (⟨"OrderedDiscModel", "keepAll", "()Z"⟩, 38) := ⟨⟨by decide +kernel, by decide +kernel⟩, List.mem_of_getElem? (i := 904) (by decide +kernel), List.mem_of_getElem? (i := 1101) (by decide +kernel), List.mem_of_getElem? (i := 1102) (by decide +kernel)⟩
theorem lw_p31 : lw_okq (⟨"OrderedDiscModel", "keepState", "()Z"⟩, 38) := ⟨⟨by decide +kernel, by decide +kernel⟩, List.mem_of_getElem? (i := 904) (by decide +kernel), List.mem_of_getElem? (i := 1105) (by decide +kernel), List.mem_of_getElem? (i := 1106) (by decide +kernel)⟩
def lw_privs_2 : List (MethodName × Nat) := [(⟨"OrderedDisc$Passage", "isRight", "()Z"⟩, 14), (⟨"OrderedDisc$Passage", "keepBad", "(I)V"⟩, 14), (⟨"OrderedDisc$Passage", "makeSure", "()Z"⟩, 14), (⟨"OrderedDisc$Passage", "change", "(LOrderedDisc$Script;I)Z"⟩, 14), (⟨"java/lang/Throwable", "fillInStackTrace", "(I)Ljava/lang/Throwable;"⟩, 6), (⟨"OrderedDiscModel", "refuse", "(I)I"⟩, 38), (⟨"OrderedDiscModel", "push", "(IIII)Z"⟩, 38), (⟨"OrderedDiscModel", "flushOf", "(I)I"⟩, 38), (⟨"OrderedDiscModel", "readOf", "(III)I"⟩, 38), (⟨"OrderedDiscModel", "writeEpoch", "(II)I"⟩, 38), (⟨"OrderedDiscModel", "findStates", "(I)Z"⟩, 38), (⟨"OrderedDiscModel", "epochOf", "(II)I"⟩, 38), (⟨"OrderedDiscModel", "onlyBase", "()V"⟩, 38), (⟨"OrderedDiscModel", "mayBe", "(II)V"⟩, 38), (⟨"OrderedDiscModel", "keepAll", "()Z"⟩, 38), (⟨"OrderedDiscModel", "keepState", "()Z"⟩, 38)]
theorem lw_r2 : ∀ q ∈ lw_privs_2, lw_okq q := List.forall_mem_cons.mpr ⟨lw_p16, List.forall_mem_cons.mpr ⟨lw_p17, List.forall_mem_cons.mpr ⟨lw_p18, List.forall_mem_cons.mpr ⟨lw_p19, List.forall_mem_cons.mpr ⟨lw_p20, List.forall_mem_cons.mpr ⟨lw_p21, List.forall_mem_cons.mpr ⟨lw_p22, List.forall_mem_cons.mpr ⟨lw_p23, List.forall_mem_cons.mpr ⟨lw_p24, List.forall_mem_cons.mpr ⟨lw_p25, List.forall_mem_cons.mpr ⟨lw_p26, List.forall_mem_cons.mpr ⟨lw_p27, List.forall_mem_cons.mpr ⟨lw_p28, List.forall_mem_cons.mpr ⟨lw_p29, List.forall_mem_cons.mpr ⟨lw_p30, List.forall_mem_cons.mpr ⟨lw_p31, fun _ h => absurd h List.not_mem_nil⟩⟩⟩⟩⟩⟩⟩⟩⟩⟩⟩⟩⟩⟩⟩⟩
theorem lw_p32 : lw_okq (⟨"OrderedDiscModel", "compare", "(I)I"⟩, 38) := ⟨⟨by decide +kernel, by decide +kernel⟩, List.mem_of_getElem? (i := 904) (by decide +kernel), List.mem_of_getElem? (i := 1109) (by decide +kernel), List.mem_of_getElem? (i := 1110) (by decide +kernel)⟩
theorem lw_p33 : lw_okq (⟨"OrderedDiscModel", "format", "(II)V"⟩, 38) := ⟨⟨by decide +kernel, by decide +kernel⟩, List.mem_of_getElem? (i := 904) (by decide +kernel), List.mem_of_getElem? (i := 1125) (by decide +kernel), List.mem_of_getElem? (i := 1126) (by decide +kernel)⟩
theorem lw_p34 : lw_okq (⟨"OrderedDiscModel", "planChange", "(IIIJIJ)V"⟩, 38) := ⟨⟨by decide +kernel, by decide +kernel⟩, List.mem_of_getElem? (i := 904) (by decide +kernel), List.mem_of_getElem? (i := 1136) (by decide +kernel), List.mem_of_getElem? (i := 1137) (by decide +kernel)⟩
theorem lw_p35 : lw_okq (⟨"OrderedDiscModel", "plan", "(III)V"⟩, 38) := ⟨⟨by decide +kernel, by decide +kernel⟩, List.mem_of_getElem? (i := 904) (by decide +kernel), List.mem_of_getElem? (i := 1143) (by decide +kernel), List.mem_of_getElem? (i := 1144) (by decide +kernel)⟩
theorem lw_p36 : lw_okq (⟨"OrderedDiscModel", "planFence", "(II)V"⟩, 38) := ⟨⟨by decide +kernel, by decide +kernel⟩, List.mem_of_getElem? (i := 904) (by decide +kernel), List.mem_of_getElem? (i := 1147) (by decide +kernel), List.mem_of_getElem? (i := 1148) (by decide +kernel)⟩
theorem lw_p37 : lw_okq (⟨"OrderedDiscModel", "planEnd", "(I)V"⟩, 38) := ⟨⟨by decide +kernel, by decide +kernel⟩, List.mem_of_getElem? (i := 904) (by decide +kernel), List.mem_of_getElem? (i := 1154) (by decide +kernel), List.mem_of_getElem? (i := 1155) (by decide +kernel)⟩
theorem lw_p38 : lw_okq (⟨"OrderedDiscModel", "version", "(I)I"⟩, 38) := ⟨⟨by decide +kernel, by decide +kernel⟩, List.mem_of_getElem? (i := 904) (by decide +kernel), List.mem_of_getElem? (i := 1158) (by decide +kernel), List.mem_of_getElem? (i := 1159) (by decide +kernel)⟩
theorem lw_p39 : lw_okq (⟨"OrderedDiscModel", "root", "(II)I"⟩, 38) := ⟨⟨by decide +kernel, by decide +kernel⟩, List.mem_of_getElem? (i := 904) (by decide +kernel), List.mem_of_getElem? (i := 1162) (by decide +kernel), List.mem_of_getElem? (i := 1163) (by decide +kernel)⟩
theorem lw_p40 : lw_okq (⟨"OrderedDiscModel", "keyOf", "(III)J"⟩, 38) := ⟨⟨by decide +kernel, by decide +kernel⟩, List.mem_of_getElem? (i := 904) (by decide +kernel), List.mem_of_getElem? (i := 1166) (by decide +kernel), List.mem_of_getElem? (i := 1167) (by decide +kernel)⟩
theorem lw_p41 : lw_okq (⟨"OrderedDiscModel", "takePlan", "()I"⟩, 38) := ⟨⟨by decide +kernel, by decide +kernel⟩, List.mem_of_getElem? (i := 904) (by decide +kernel), List.mem_of_getElem? (i := 1177) (by decide +kernel), List.mem_of_getElem? (i := 1178) (by decide +kernel)⟩
theorem lw_p42 : lw_okq (⟨"OrderedDiscModel", "planRise", "(II)V"⟩, 38) := ⟨⟨by decide +kernel, by decide +kernel⟩, List.mem_of_getElem? (i := 904) (by decide +kernel), List.mem_of_getElem? (i := 1193) (by decide +kernel), List.mem_of_getElem? (i := 1194) (by decide +kernel)⟩
theorem lw_p43 : lw_okq (⟨"OrderedDiscModel", "add", "(IIIJ)I"⟩, 38) := ⟨⟨by decide +kernel, by decide +kernel⟩, List.mem_of_getElem? (i := 904) (by decide +kernel), List.mem_of_getElem? (i := 1205) (by decide +kernel), List.mem_of_getElem? (i := 1206) (by decide +kernel)⟩
theorem lw_p44 : lw_okq (⟨"OrderedDiscModel", "goThrough", "(I)Z"⟩, 38) := ⟨⟨by decide +kernel, by decide +kernel⟩, List.mem_of_getElem? (i := 904) (by decide +kernel), List.mem_of_getElem? (i := 1225) (by decide +kernel), List.mem_of_getElem? (i := 1226) (by decide +kernel)⟩
theorem lw_p45 : lw_okq (⟨"OrderedDiscModel", "findDue", "()V"⟩, 38) := ⟨⟨by decide +kernel, by decide +kernel⟩, List.mem_of_getElem? (i := 904) (by decide +kernel), List.mem_of_getElem? (i := 1229) (by decide +kernel), List.mem_of_getElem? (i := 1230) (by decide +kernel)⟩
theorem lw_p46 : lw_okq (⟨"OrderedDiscModel", "moment", "(I)Z"⟩, 38) := ⟨⟨by decide +kernel, by decide +kernel⟩, List.mem_of_getElem? (i := 904) (by decide +kernel), List.mem_of_getElem? (i := 1233) (by decide +kernel), List.mem_of_getElem? (i := 1234) (by decide +kernel)⟩
theorem lw_p47 : lw_okq (⟨"OrderedDiscModel", "isRight", "()Z"⟩, 38) := ⟨⟨by decide +kernel, by decide +kernel⟩, List.mem_of_getElem? (i := 904) (by decide +kernel), List.mem_of_getElem? (i := 1237) (by decide +kernel), List.mem_of_getElem? (i := 1238) (by decide +kernel)⟩
def lw_privs_3 : List (MethodName × Nat) := [(⟨"OrderedDiscModel", "compare", "(I)I"⟩, 38), (⟨"OrderedDiscModel", "format", "(II)V"⟩, 38), (⟨"OrderedDiscModel", "planChange", "(IIIJIJ)V"⟩, 38), (⟨"OrderedDiscModel", "plan", "(III)V"⟩, 38), (⟨"OrderedDiscModel", "planFence", "(II)V"⟩, 38), (⟨"OrderedDiscModel", "planEnd", "(I)V"⟩, 38), (⟨"OrderedDiscModel", "version", "(I)I"⟩, 38), (⟨"OrderedDiscModel", "root", "(II)I"⟩, 38), (⟨"OrderedDiscModel", "keyOf", "(III)J"⟩, 38), (⟨"OrderedDiscModel", "takePlan", "()I"⟩, 38), (⟨"OrderedDiscModel", "planRise", "(II)V"⟩, 38), (⟨"OrderedDiscModel", "add", "(IIIJ)I"⟩, 38), (⟨"OrderedDiscModel", "goThrough", "(I)Z"⟩, 38), (⟨"OrderedDiscModel", "findDue", "()V"⟩, 38), (⟨"OrderedDiscModel", "moment", "(I)Z"⟩, 38), (⟨"OrderedDiscModel", "isRight", "()Z"⟩, 38)]
theorem lw_r3 : ∀ q ∈ lw_privs_3, lw_okq q := List.forall_mem_cons.mpr ⟨lw_p32, List.forall_mem_cons.mpr ⟨lw_p33, List.forall_mem_cons.mpr ⟨lw_p34, List.forall_mem_cons.mpr ⟨lw_p35, List.forall_mem_cons.mpr ⟨lw_p36, List.forall_mem_cons.mpr ⟨lw_p37, List.forall_mem_cons.mpr ⟨lw_p38, List.forall_mem_cons.mpr ⟨lw_p39, List.forall_mem_cons.mpr ⟨lw_p40, List.forall_mem_cons.mpr ⟨lw_p41, List.forall_mem_cons.mpr ⟨lw_p42, List.forall_mem_cons.mpr ⟨lw_p43, List.forall_mem_cons.mpr ⟨lw_p44, List.forall_mem_cons.mpr ⟨lw_p45, List.forall_mem_cons.mpr ⟨lw_p46, List.forall_mem_cons.mpr ⟨lw_p47, fun _ h => absurd h List.not_mem_nil⟩⟩⟩⟩⟩⟩⟩⟩⟩⟩⟩⟩⟩⟩⟩⟩
theorem lw_p48 : lw_okq (⟨"OrderedDiscModel", "goThroughAct", "(II)Z"⟩, 38) := ⟨⟨by decide +kernel, by decide +kernel⟩, List.mem_of_getElem? (i := 904) (by decide +kernel), List.mem_of_getElem? (i := 1241) (by decide +kernel), List.mem_of_getElem? (i := 1242) (by decide +kernel)⟩
def lw_privs_4 : List (MethodName × Nat) := [(⟨"OrderedDiscModel", "goThroughAct", "(II)Z"⟩, 38)]
theorem lw_r4 : ∀ q ∈ lw_privs_4, lw_okq q := List.forall_mem_cons.mpr ⟨lw_p48, fun _ h => absurd h List.not_mem_nil⟩
def lw_privs : List (MethodName × Nat) := lw_privs_1 ++ (lw_privs_2 ++ (lw_privs_3 ++ (lw_privs_4)))
def lw_tbl : List Cond := k2_sels lw_privs ++ tables_1
theorem lw_privs_ok : ∀ q ∈ lw_privs, lw_okq q := by
  show ∀ q ∈ lw_privs_1 ++ (lw_privs_2 ++ (lw_privs_3 ++ (lw_privs_4))), lw_okq q
  exact List.forall_mem_append.mpr ⟨lw_r1, List.forall_mem_append.mpr ⟨lw_r2, List.forall_mem_append.mpr ⟨lw_r3, lw_r4⟩⟩⟩
def va_AOA (ty : FieldType) (U : State) : Prop := (Cond.arrayOver (.array ty)).before #[] U = true
theorem va_AOA.use {ty : FieldType} {A : Array Value} {U : State} (h : va_AOA ty U) : (Cond.arrayOver (.array ty)).before A U = true := h
/-! ===== BEGIN words of one list among another's, by their places ===== -/
theorem goodIn_r {big : List Cond} (ws : List Cond) (ps : List Nat) (hp : ws = ps.filterMap (fun i => big[i]?)) (h : ws.all goodWord = true) : GoodIn big ws := by
  intro w hw
  have h1 := List.all_eq_true.mp h w hw
  rw [hp] at hw
  obtain ⟨i, -, hi⟩ := List.mem_filterMap.mp hw
  have hm : w ∈ big := by first | exact List.mem_of_getElem? hi | exact List.getElem?_mem hi
  exact ⟨hm, good_of_word h1⟩
theorem goodIn_app {big a b : List Cond} (ha : GoodIn big a) (hb : GoodIn big b) : GoodIn big (a ++ b) := fun w h => (List.mem_append.mp h).elim (ha w) (hb w)
theorem goodIn_ca {big a b : List Cond} {c : Cond} (ha : GoodIn big (c :: a)) (hb : GoodIn big b) : GoodIn big (c :: (a ++ b)) := fun w h => (List.mem_cons.mp h).elim (fun e => ha w (List.mem_cons.mpr (Or.inl e))) (fun h => (List.mem_append.mp h).elim (fun h => ha w (List.mem_cons.mpr (Or.inr h))) (hb w))
theorem goodIn_sub {big ws : List Cond} (hm : ∀ w ∈ ws, w ∈ big) (h : ws.all goodWord = true) : GoodIn big ws := fun w hw => ⟨hm w hw, good_of_word (List.all_eq_true.mp h w hw)⟩
/-! ===== END ===== -/

/-! ===== BEGIN new T[n][m]: the outer array a place, the inner ones among the pooled ===== -/
/-- f, but v at every address of l -/
def vr_up {α : Type} (f : Nat → α) (l : List Nat) (v : α) : Nat → α := fun a => if a ∈ l then v else f a
theorem vr_up_in {α : Type} {f : Nat → α} {l : List Nat} {v : α} {a : Nat} (h : a ∈ l) : vr_up f l v a = v := if_pos h
theorem vr_up_ne {α : Type} {f : Nat → α} {l : List Nat} {v : α} {a : Nat} (h : a ∉ l) : vr_up f l v a = f a := if_neg h
theorem vr_rows {L l : List Nat} {f : Nat → va_E} {e : va_E} (h : ∀ a, a ∈ l → a ∉ L) : va_pl L f ++ l.map (fun a => (a, e)) = va_pl (L ++ l) (vr_up f l e) := by
  unfold va_pl
  rw [List.map_append]
  congr 1
  · apply List.map_congr_left
    intro a ha
    rw [vr_up_ne (fun q => h a q ha)]
  · apply List.map_congr_left
    intro a ha
    rw [vr_up_in ha]
theorem vr_lay {X rows : va_W} {x : Nat × va_E} {pl : va_W} {D : va_G} {cl : List vw_C} {H : Heap} (hP : va_P D cl (((X ++ pl) ++ [x]) ++ rows) H) : va_P D cl ((X ++ [x]) ++ (pl ++ rows)) H := by
  rw [List.append_assoc (X ++ pl)] at hP
  have h := va_P.swap hP
  rw [← List.append_assoc X] at h
  have h2 := va_P.swap h
  rw [List.append_assoc (X ++ [x])] at h2
  exact h2
theorem vr_layD {X rows : va_W} {x : Nat × va_E} {pl : va_W} {A : Nat → Prop} (hD : va_D A (((X ++ pl) ++ [x]) ++ rows)) : va_D A ((X ++ [x]) ++ (pl ++ rows)) := by
  rw [List.append_assoc (X ++ pl)] at hD
  have h := va_D.swap hD
  rw [← List.append_assoc X] at h
  have h2 := va_D.swap h
  rw [List.append_assoc (X ++ [x])] at h2
  exact h2
theorem vr_outer (c : ClassId) (N h0 : Nat) : ∀ i : Nat, Jvm.Free.Multi.outerC c N h0 i = arrV c N (fun j => va_rf (if j < i then some (h0 + 1 + j) else none))
  | 0 => by
    show ({ cls := c, slots := Array.replicate N .null, vm := .none } : Cell) = _
    rw [arrV_new]
    refine congrArg (arrV c N) (funext fun j => ?_)
    simp [va_rf]
  | i + 1 => by
    show (Jvm.Free.Multi.outerC c N h0 i).setSlot i (.ref (h0 + 1 + i)) = _
    rw [vr_outer c N h0 i, arrV_store]
    refine congrArg (arrV c N) (funext fun j => ?_)
    by_cases e : j = i
    · subst e
      simp [updV, va_rf]
    · by_cases h : j < i
      · simp [updV, e, h, Nat.lt_succ_of_lt h]
      · simp [updV, e, h, show ¬ j < i + 1 by omega]
section VGM
variable {p : Program} {l : Launch} {e : Env} {R : Room} {s : State} {m : MethodId} {args : Array Value} {below : List Frame} {meth : Method} {c : Code} {H : Heap} {locs : List Loc} {cells slots : Nat} {Q : State → Prop}
variable {cc : ByteArray} {pc : Nat} {ls : Array Slot} {rest : List Value} {D : va_G} {cl : List vw_C} {A : Nat → Prop} {a : Nat} {tys : List (ClassId × FieldType)} {ws : va_W} {H0 : Heap}
theorem va_mna {X : va_W} {L : List Nat} {f : Nat → va_E} {cc : ByteArray} (hexec : p.tables.exec = Jvm.exec) (hb : c.code = cc) {own : String} {index : Nat} {ty : FieldType} {cy : ClassId} (hown : s.vm.findClass own = some m.cls) (hclink : (Cond.classLink own index ("[" ++ (FieldType.array ty).toString)).before args s = true) (hover : va_AOA ty s) (harr : (Cond.arrayClass ty).before args s = true) (hcy : s.vm.findClass (FieldType.array ty).toString = some cy)
    (hK : va_K D cl tys s) (hP : va_P D cl (X ++ va_pl L f) H) (hD : va_D A (X ++ va_pl L f)) (hS : va_S A H0 H locs) (hA : ∀ q, H0.size ≤ q → A q) {n k : Int32} {N' K' : Nat} {z : vp_A} (hn : ¬ n < 0) (hk : ¬ k < 0) (hN : n.toNatClampNeg = N') (hM : k.toNatClampNeg = K')
    (hb1 : N' * 4 ≤ 536870912) (hb2 : K' * componentBytes ty ≤ 536870912) (hb3 : K' ≤ 536870912) (hdf : fits ty (defaultValue ty) = true) (hdd : (defaultValue ty).isDefault = true) (hcells : cells + (1 + N') ≤ R.cells) (hslots : slots + (N' + N' * K') ≤ R.slots) (hz : ∀ c : ClassId, Jvm.Free.Multi.innerC c K' (defaultValue ty) = vp_cell c z) (hdg : decode cc pc = .ok (.multianewarray index 2, 4))
    (kk : ∀ (q : Nat) (r : Nat → Nat) (cA : ClassId) (H1 : Heap), (∀ i j : Nat, i < N' → j < N' → r i = r j → i = j) → (∀ i : Nat, i < N' → r i ∉ L) → va_K D cl (tys ++ [(cA, .array ty)]) s →
      va_P D cl ((X ++ [(q, .inl (cA, N', .inr (.inr (.inr (.inr (fun i => if i < N' then some (r i) else none))))))]) ++ va_pl (L ++ (List.range N').map r) (vr_up f ((List.range N').map r) (.inl (cy, z)))) H1 → va_D A ((X ++ [(q, .inl (cA, N', .inr (.inr (.inr (.inr (fun i => if i < N' then some (r i) else none))))))]) ++ va_pl (L ++ (List.range N').map r) (vr_up f ((List.range N').map r) (.inl (cy, z)))) → va_S A H0 H1 locs →
      W p l e R s m args below meth c H1 locs (cells + 1 + N') (slots + N' + N' * K') Q (F0 m (pc + 4) ls (.ref q :: rest))) : W p l e R s m args below meth c H locs cells slots Q (F0 m pc ls (.int k :: .int n :: rest)) := by
  subst hN
  subst hM
  intro T hT Xs
  obtain ⟨vm₁, cA, comp, -, fA, fC, hO, -, X', step⟩ := Xs.multianewarray2F hexec hown hclink (va_AOA.use hover) harr (g := F0 m pc ls (.int k :: .int n :: rest)) rfl (by rw [hb]; exact hdg) rfl hn hk hb1 hb2 hb3 hdf hdd hcells hslots
  have ec : some cy = some comp := hcy.symm.trans fC
  cases ec
  generalize hF : Jvm.Free.Multi.fill (T.setVm vm₁) cA cy n.toNatClampNeg k.toNatClampNeg (defaultValue ty) n.toNatClampNeg = F at X' step
  have hTh : (T.setVm vm₁).heap = H := hT
  obtain ⟨f1, f2, -, -⟩ := Jvm.Free.Multi.fill_facts (T.setVm vm₁) cA cy n.toNatClampNeg k.toNatClampNeg (defaultValue ty) n.toNatClampNeg
  rw [hF, hTh] at f1 f2
  have hold : ∀ x : Nat, x < H.size → F.heap[x]? = H[x]? := fun x hx => by
    have := Jvm.Free.Multi.fill_old (T.setVm vm₁) cA cy n.toNatClampNeg k.toNatClampNeg (defaultValue ty) (a := x) (by rw [hTh]; exact hx) n.toNatClampNeg
    rw [hF, hTh] at this
    exact this
  have hrow : ∀ j : Nat, j < n.toNatClampNeg → F.heap[H.size + 1 + j]? = some (vp_cell cy z) := fun j hj => by
    have := Jvm.Free.Multi.fill_inner (T.setVm vm₁) cA cy n.toNatClampNeg k.toNatClampNeg (defaultValue ty) n.toNatClampNeg j hj
    rw [hF, hTh, hz] at this
    exact this
  have hout : Jvm.Free.Multi.outerC cA n.toNatClampNeg H.size n.toNatClampNeg = vp_cell cA (n.toNatClampNeg, .inr (.inr (.inr (.inr (fun i => if i < n.toNatClampNeg then some (H.size + 1 + i) else none))))) := by
    rw [vp_cell_q]
    exact vr_outer cA n.toNatClampNeg H.size n.toNatClampNeg
  rw [hout] at f2
  have hlt : ∀ a, a ∈ L → a < H.size := fun a ha => by
    obtain ⟨k9, hk9⟩ := va_pl_get (X := X) (f := f) ha
    exact (hP k9 _ hk9).lt
  have hnl : ∀ i : Nat, i < n.toNatClampNeg → H.size + 1 + i ∉ L := fun i _ h => by
    have := hlt _ h
    omega
  have hnm : ∀ a, a ∈ (List.range n.toNatClampNeg).map (fun i => H.size + 1 + i) → a ∉ L := fun a ha h => by
    obtain ⟨i, -, rfl⟩ := List.mem_map.mp ha
    have := hlt _ h
    omega
  have hP0 : va_P D cl (X ++ va_pl L f) F.heap := hP.kept (fun k9 x hx => hold x.1 ((hP k9 x hx).lt))
  have hP1 : va_P D cl ((X ++ va_pl L f) ++ [(H.size, .inl (cA, n.toNatClampNeg, .inr (.inr (.inr (.inr (fun i => if i < n.toNatClampNeg then some (H.size + 1 + i) else none))))))]) F.heap := hP0.app (fun k9 x hx => by
    have h0 : k9 < 1 := (List.getElem?_eq_some_iff.mp hx).1
    rw [show k9 = 0 by omega] at hx
    cases hx
    exact f2)
  have hP2 : va_P D cl (((X ++ va_pl L f) ++ [(H.size, .inl (cA, n.toNatClampNeg, .inr (.inr (.inr (.inr (fun i => if i < n.toNatClampNeg then some (H.size + 1 + i) else none))))))]) ++ ((List.range n.toNatClampNeg).map (fun i => H.size + 1 + i)).map (fun a => (a, .inl (cy, z)))) F.heap := hP1.app (fun k9 x hx => by
    obtain ⟨a, ha, rfl⟩ := List.mem_map.mp (List.mem_of_getElem? hx)
    obtain ⟨i, hi, rfl⟩ := List.mem_map.mp ha
    exact hrow i (List.mem_range.mp hi))
  have hD2 : va_D A (((X ++ va_pl L f) ++ [(H.size, .inl (cA, n.toNatClampNeg, .inr (.inr (.inr (.inr (fun i => if i < n.toNatClampNeg then some (H.size + 1 + i) else none))))))]) ++ ((List.range n.toNatClampNeg).map (fun i => H.size + 1 + i)).map (fun a => (a, .inl (cy, z)))) := by
    have hD1 := hD.push (e := .inl (cA, n.toNatClampNeg, .inr (.inr (.inr (.inr (fun i => if i < n.toNatClampNeg then some (H.size + 1 + i) else none)))))) hP rfl (hA _ hS.1)
    generalize hW1 : (X ++ va_pl L f) ++ [(H.size, .inl (cA, n.toNatClampNeg, .inr (.inr (.inr (.inr (fun i => if i < n.toNatClampNeg then some (H.size + 1 + i) else none))))))] = W1 at hD1 hP1 ⊢
    have hle : ∀ (k9 : Nat) (x : Nat × va_E), W1[k9]? = some x → x.1 ≤ H.size := fun k9 x hx => by
      rw [← hW1] at hx
      by_cases hl : k9 < (X ++ va_pl L f).length
      · rw [List.getElem?_append_left hl] at hx
        exact Nat.le_of_lt ((hP k9 x hx).lt)
      · rw [List.getElem?_append_right (by omega)] at hx
        have h0 : k9 - (X ++ va_pl L f).length < 1 := (List.getElem?_eq_some_iff.mp hx).1
        rw [show k9 - (X ++ va_pl L f).length = 0 by omega] at hx
        cases hx
        exact Nat.le_refl _
    have hr : ∀ (k9 : Nat) (x : Nat × va_E), (((List.range n.toNatClampNeg).map (fun i => H.size + 1 + i)).map (fun a => ((a, .inl (cy, z)) : Nat × va_E)))[k9]? = some x → x.1 = H.size + 1 + k9 := fun k9 x hx => by
      rw [List.getElem?_map, List.getElem?_map] at hx
      by_cases h9 : k9 < n.toNatClampNeg
      · rw [List.getElem?_range h9] at hx
        cases hx
        rfl
      · have hn0 : (List.range n.toNatClampNeg)[k9]? = none := List.getElem?_eq_none (by rw [List.length_range]; omega)
        rw [hn0] at hx
        cases hx
    refine ⟨fun i j x y hi hj hxy => ?_, fun k9 x hx => ?_⟩
    · by_cases h1 : i < W1.length <;> by_cases h2 : j < W1.length
      · rw [List.getElem?_append_left h1] at hi
        rw [List.getElem?_append_left h2] at hj
        exact hD1.1 i j x y hi hj hxy
      · rw [List.getElem?_append_left h1] at hi
        rw [List.getElem?_append_right (by omega)] at hj
        have := hle _ _ hi
        have := hr _ _ hj
        omega
      · rw [List.getElem?_append_right (by omega)] at hi
        rw [List.getElem?_append_left h2] at hj
        have := hle _ _ hj
        have := hr _ _ hi
        omega
      · rw [List.getElem?_append_right (by omega)] at hi hj
        have := hr _ _ hi
        have := hr _ _ hj
        omega
    · by_cases h1 : k9 < W1.length
      · rw [List.getElem?_append_left h1] at hx
        exact hD1.2 k9 x hx
      · rw [List.getElem?_append_right (by omega)] at hx
        have := hr _ _ hx
        exact hA _ (by have := hS.1; omega)
  have hAr : ArrOfT s cA (.array ty) := fun N9 z9 => by
    obtain ⟨-, k9, hk9, cm9, hkk9⟩ := (hO 0 0 0).1
    exact ⟨(fun q hq => by cases hq), k9, hk9, cm9, hkk9⟩
  have hK2 : va_K D cl (tys ++ [(cA, .array ty)]) s := ⟨hK.1, fun k9 x hx => by
    by_cases hl : k9 < tys.length
    · rw [List.getElem?_append_left hl] at hx
      exact hK.2 k9 x hx
    · rw [List.getElem?_append_right (by omega)] at hx
      have h0 : k9 - tys.length < 1 := (List.getElem?_eq_some_iff.mp hx).1
      rw [show k9 - tys.length = 0 by omega] at hx
      cases hx
      exact ⟨hAr, fA⟩⟩
  obtain ⟨t, a1, b1⟩ := kk H.size (fun i => H.size + 1 + i) cA F.heap (fun i j _ _ h => by have h9 : H.size + 1 + i = H.size + 1 + j := h; omega) hnl hK2 (by rw [← vr_rows hnm]; exact vr_lay hP2) (by rw [← vr_rows hnm]; exact vr_layD hD2) ⟨by rw [f1]; have := hS.1; omega, fun x h1 h2 => (hold x (Nat.lt_of_lt_of_le h1 hS.1)).trans (hS.2.1 x h1 h2), hS.2.2⟩ F rfl X'
  refine ⟨t, step t ?_, b1⟩
  have e : T.heap.size = H.size := by rw [hT]
  rw [e]
  exact a1
end VGM
/-! ===== END ===== -/
end
section
def RX0 : String := "OrderedDisc$Disc"
def TX0 : u_T := fun k => match k with
  | 0 => ("OrderedDisc$Disc", "plate", "[I", true)
  | 1 => ("OrderedDisc$Disc", "now", "[I", true)
  | 2 => ("OrderedDisc$Disc", "sectors", "[I", true)
  | 3 => ("OrderedDisc$Disc", "firsts", "[I", true)
  | 4 => ("OrderedDisc$Disc", "seconds", "[I", true)
  | 5 => ("OrderedDisc$Disc", "epochOf", "[I", true)
  | 6 => ("OrderedDisc$Disc", "entries", "I", false)
  | 7 => ("OrderedDisc$Disc", "writes", "I", false)
  | 8 => ("OrderedDisc$Disc", "epochs", "I", false)
  | 9 => ("OrderedDisc$Disc", "fenced", "Z", false)
  | 10 => ("OrderedDisc$Disc", "touched", "I", false)
  | 11 => ("OrderedDisc$Disc", "writesEver", "I", false)
  | _ => ("OrderedDisc$Disc", "edits", "I", false)
def tyX0 : Nat → FieldType := fun k => match k with
  | 0 => .array .int
  | 1 => .array .int
  | 2 => .array .int
  | 3 => .array .int
  | 4 => .array .int
  | 5 => .array .int
  | 6 => .int
  | 7 => .int
  | 8 => .int
  | 9 => .boolean
  | 10 => .int
  | 11 => .int
  | _ => .int
theorem nmX0 : ∀ a, a < 13 → ∀ b, b < 13 → a ≠ b → (TX0 a).2.1 ≠ (TX0 b).2.1 := by decide +kernel
theorem tyX0_ok : ∀ k, k < 13 → parseFieldDescriptor (TX0 k).2.2.1 = some (tyX0 k) := by decide +kernel
abbrev cX0_init : ByteArray := prog_2_method_1_code
def yX0_init : MethodName := ⟨RX0, "<init>", "()V"⟩
abbrev cX0_hasRoom : ByteArray := prog_2_method_2_code
def yX0_hasRoom : MethodName := ⟨RX0, "hasRoom", "(I)Z"⟩
abbrev cX0_enqueueWrite : ByteArray := prog_2_method_3_code
def yX0_enqueueWrite : MethodName := ⟨RX0, "enqueueWrite", "(III)V"⟩
abbrev cX0_enqueueFence : ByteArray := prog_2_method_4_code
def yX0_enqueueFence : MethodName := ⟨RX0, "enqueueFence", "()V"⟩
abbrev cX0_enqueuePlanned : ByteArray := prog_2_method_5_code
def yX0_enqueuePlanned : MethodName := ⟨RX0, "enqueuePlanned", "(LOrderedDisc$Plan;I)V"⟩
abbrev cX0_settle : ByteArray := prog_2_method_6_code
def yX0_settle : MethodName := ⟨RX0, "settle", "()V"⟩
abbrev cX0_format : ByteArray := prog_2_method_7_code
def yX0_format : MethodName := ⟨RX0, "format", "(LOrderedDisc$Kind;)V"⟩
abbrev cX0_comeUpWith : ByteArray := prog_2_method_8_code
def yX0_comeUpWith : MethodName := ⟨RX0, "comeUpWith", "([I)V"⟩
def RX1 : String := "OrderedDisc$Kind"
def TX1 : u_T := fun k => match k with
  | _ => ("", "", "", false)
def tyX1 : Nat → FieldType := fun k => match k with
  | _ => .int
theorem nmX1 : ∀ a, a < 0 → ∀ b, b < 0 → a ≠ b → (TX1 a).2.1 ≠ (TX1 b).2.1 := by decide +kernel
theorem tyX1_ok : ∀ k, k < 0 → parseFieldDescriptor (TX1 k).2.2.1 = some (tyX1 k) := by decide +kernel
abbrev cX1_init : ByteArray := prog_3_method_1_code
def yX1_init : MethodName := ⟨RX1, "<init>", "()V"⟩
abbrev cX1_planRising : ByteArray := prog_3_method_6_code
def yX1_planRising : MethodName := ⟨RX1, "planRising", "([ILOrderedDisc$Plan;)V"⟩
abbrev cX1_layOut : ByteArray := prog_3_method_7_code
def yX1_layOut : MethodName := ⟨RX1, "layOut", "([I)V"⟩
abbrev cX1_version : ByteArray := prog_3_method_8_code
def yX1_version : MethodName := ⟨RX1, "version", "([I)I"⟩
abbrev cX1_planPut : ByteArray := prog_3_method_9_code
def yX1_planPut : MethodName := ⟨RX1, "planPut", "([IIJLOrderedDisc$Plan;)V"⟩
abbrev cX1_planMove : ByteArray := prog_3_method_10_code
def yX1_planMove : MethodName := ⟨RX1, "planMove", "([IIILOrderedDisc$Plan;)V"⟩
abbrev cX1_valueOf : ByteArray := prog_3_method_11_code
def yX1_valueOf : MethodName := ⟨RX1, "valueOf", "([II)J"⟩
abbrev cX1_valueAt : ByteArray := prog_3_method_12_code
def yX1_valueAt : MethodName := ⟨RX1, "valueAt", "([III)J"⟩
def RX2 : String := "OrderedDisc$Logged"
def TX2 : u_T := fun k => match k with
  | _ => ("", "", "", false)
def tyX2 : Nat → FieldType := fun k => match k with
  | _ => .int
theorem nmX2 : ∀ a, a < 0 → ∀ b, b < 0 → a ≠ b → (TX2 a).2.1 ≠ (TX2 b).2.1 := by decide +kernel
theorem tyX2_ok : ∀ k, k < 0 → parseFieldDescriptor (TX2 k).2.2.1 = some (tyX2 k) := by decide +kernel
abbrev cX2_init : ByteArray := prog_4_method_1_code
def yX2_init : MethodName := ⟨RX2, "<init>", "()V"⟩
abbrev cX2_fences : ByteArray := prog_4_method_2_code
def yX2_fences : MethodName := ⟨RX2, "fences", "()I"⟩
abbrev cX2_homeOfKeys : ByteArray := prog_4_method_3_code
def yX2_homeOfKeys : MethodName := ⟨RX2, "homeOfKeys", "([I)I"⟩
abbrev cX2_allIsWell : ByteArray := prog_4_method_4_code
def yX2_allIsWell : MethodName := ⟨RX2, "allIsWell", "([I)Z"⟩
abbrev cX2_planChange : ByteArray := prog_4_method_5_code
def yX2_planChange : MethodName := ⟨RX2, "planChange", "([IIJIJLOrderedDisc$Plan;)V"⟩
abbrev cX2_planRising : ByteArray := prog_4_method_6_code
def yX2_planRising : MethodName := ⟨RX2, "planRising", "([ILOrderedDisc$Plan;)V"⟩
abbrev cX2_planUnmark : ByteArray := prog_4_method_7_code
def yX2_planUnmark : MethodName := ⟨RX2, "planUnmark", "(LOrderedDisc$Plan;)V"⟩
abbrev cX2_isLogWhole : ByteArray := prog_4_method_8_code
def yX2_isLogWhole : MethodName := ⟨RX2, "isLogWhole", "([I)Z"⟩
abbrev cX2_sum : ByteArray := prog_4_method_9_code
def yX2_sum : MethodName := ⟨RX2, "sum", "(IIIIIII)I"⟩
def RX3 : String := "OrderedDisc$Passage"
def TX3 : u_T := fun k => match k with
  | 0 => ("OrderedDisc$Passage", "disc", "LOrderedDisc$Disc;", true)
  | 1 => ("OrderedDisc$Passage", "states", "LOrderedDisc$States;", true)
  | 2 => ("OrderedDisc$Passage", "acting", "LOrderedDisc$Plan;", true)
  | 3 => ("OrderedDisc$Passage", "rising", "LOrderedDisc$Plan;", true)
  | 4 => ("OrderedDisc$Passage", "due", "[[I", true)
  | 5 => ("OrderedDisc$Passage", "risen", "[I", true)
  | 6 => ("OrderedDisc$Passage", "cameOut", "[I", true)
  | 7 => ("OrderedDisc$Passage", "kind", "LOrderedDisc$Kind;", false)
  | 8 => ("OrderedDisc$Passage", "kept", "LOrderedDisc$Report;", false)
  | 9 => ("OrderedDisc$Passage", "report", "LOrderedDisc$Report;", false)
  | 10 => ("OrderedDisc$Passage", "spared", "I", false)
  | 11 => ("OrderedDisc$Passage", "begun", "I", false)
  | 12 => ("OrderedDisc$Passage", "sure", "I", false)
  | _ => ("OrderedDisc$Passage", "noBad", "Z", false)
def tyX3 : Nat → FieldType := fun k => match k with
  | 0 => .object "OrderedDisc$Disc"
  | 1 => .object "OrderedDisc$States"
  | 2 => .object "OrderedDisc$Plan"
  | 3 => .object "OrderedDisc$Plan"
  | 4 => .array (.array .int)
  | 5 => .array .int
  | 6 => .array .int
  | 7 => .object "OrderedDisc$Kind"
  | 8 => .object "OrderedDisc$Report"
  | 9 => .object "OrderedDisc$Report"
  | 10 => .int
  | 11 => .int
  | 12 => .int
  | _ => .boolean
theorem nmX3 : ∀ a, a < 14 → ∀ b, b < 14 → a ≠ b → (TX3 a).2.1 ≠ (TX3 b).2.1 := by decide +kernel
theorem tyX3_ok : ∀ k, k < 14 → parseFieldDescriptor (TX3 k).2.2.1 = some (tyX3 k) := by decide +kernel
abbrev cX3_init : ByteArray := prog_5_method_1_code
def yX3_init : MethodName := ⟨RX3, "<init>", "()V"⟩
abbrev cX3_walk : ByteArray := prog_5_method_2_code
def yX3_walk : MethodName := ⟨RX3, "walk", "(LOrderedDisc$Kind;ILOrderedDisc$Script;Z)Z"⟩
abbrev cX3_keepReport : ByteArray := prog_5_method_3_code
def yX3_keepReport : MethodName := ⟨RX3, "keepReport", "()V"⟩
abbrev cX3_makeSure : ByteArray := prog_5_method_4_code
def yX3_makeSure : MethodName := ⟨RX3, "makeSure", "()Z"⟩
abbrev cX3_change : ByteArray := prog_5_method_5_code
def yX3_change : MethodName := ⟨RX3, "change", "(LOrderedDisc$Script;I)Z"⟩
abbrev cX3_lookAround : ByteArray := prog_5_method_6_code
def yX3_lookAround : MethodName := ⟨RX3, "lookAround", "()Z"⟩
abbrev cX3_riseFrom : ByteArray := prog_5_method_7_code
def yX3_riseFrom : MethodName := ⟨RX3, "riseFrom", "([I)V"⟩
abbrev cX3_isRight : ByteArray := prog_5_method_8_code
def yX3_isRight : MethodName := ⟨RX3, "isRight", "()Z"⟩
abbrev cX3_keepBad : ByteArray := prog_5_method_9_code
def yX3_keepBad : MethodName := ⟨RX3, "keepBad", "(I)V"⟩
def RX4 : String := "OrderedDisc$Plain"
def TX4 : u_T := fun k => match k with
  | _ => ("", "", "", false)
def tyX4 : Nat → FieldType := fun k => match k with
  | _ => .int
theorem nmX4 : ∀ a, a < 0 → ∀ b, b < 0 → a ≠ b → (TX4 a).2.1 ≠ (TX4 b).2.1 := by decide +kernel
theorem tyX4_ok : ∀ k, k < 0 → parseFieldDescriptor (TX4 k).2.2.1 = some (tyX4 k) := by decide +kernel
abbrev cX4_init : ByteArray := prog_6_method_1_code
def yX4_init : MethodName := ⟨RX4, "<init>", "()V"⟩
abbrev cX4_fences : ByteArray := prog_6_method_2_code
def yX4_fences : MethodName := ⟨RX4, "fences", "()I"⟩
abbrev cX4_homeOfKeys : ByteArray := prog_6_method_3_code
def yX4_homeOfKeys : MethodName := ⟨RX4, "homeOfKeys", "([I)I"⟩
abbrev cX4_allIsWell : ByteArray := prog_6_method_4_code
def yX4_allIsWell : MethodName := ⟨RX4, "allIsWell", "([I)Z"⟩
abbrev cX4_planChange : ByteArray := prog_6_method_5_code
def yX4_planChange : MethodName := ⟨RX4, "planChange", "([IIJIJLOrderedDisc$Plan;)V"⟩
def RX5 : String := "OrderedDisc$Plan"
def TX5 : u_T := fun k => match k with
  | 0 => ("OrderedDisc$Plan", "sectors", "[I", true)
  | 1 => ("OrderedDisc$Plan", "firsts", "[I", true)
  | 2 => ("OrderedDisc$Plan", "seconds", "[I", true)
  | 3 => ("OrderedDisc$Plan", "size", "I", false)
  | _ => ("OrderedDisc$Plan", "sparedFences", "I", false)
def tyX5 : Nat → FieldType := fun k => match k with
  | 0 => .array .int
  | 1 => .array .int
  | 2 => .array .int
  | 3 => .int
  | _ => .int
theorem nmX5 : ∀ a, a < 5 → ∀ b, b < 5 → a ≠ b → (TX5 a).2.1 ≠ (TX5 b).2.1 := by decide +kernel
theorem tyX5_ok : ∀ k, k < 5 → parseFieldDescriptor (TX5 k).2.2.1 = some (tyX5 k) := by decide +kernel
abbrev cX5_init : ByteArray := prog_7_method_1_code
def yX5_init : MethodName := ⟨RX5, "<init>", "()V"⟩
abbrev cX5_begin : ByteArray := prog_7_method_2_code
def yX5_begin : MethodName := ⟨RX5, "begin", "(I)V"⟩
abbrev cX5_planWrite : ByteArray := prog_7_method_3_code
def yX5_planWrite : MethodName := ⟨RX5, "planWrite", "(III)V"⟩
abbrev cX5_planFence : ByteArray := prog_7_method_4_code
def yX5_planFence : MethodName := ⟨RX5, "planFence", "(I)V"⟩
abbrev cX5_isFence : ByteArray := prog_7_method_5_code
def yX5_isFence : MethodName := ⟨RX5, "isFence", "(I)Z"⟩
abbrev cX5_writeInto : ByteArray := prog_7_method_6_code
def yX5_writeInto : MethodName := ⟨RX5, "writeInto", "([I)V"⟩
def RX6 : String := "OrderedDisc$Report"
def TX6 : u_T := fun k => match k with
  | 0 => ("OrderedDisc$Report", "tally", "[I", true)
  | 1 => ("OrderedDisc$Report", "bad", "[I", true)
  | _ => ("OrderedDisc$Report", "rows", "I", false)
def tyX6 : Nat → FieldType := fun k => match k with
  | 0 => .array .int
  | 1 => .array .int
  | _ => .int
theorem nmX6 : ∀ a, a < 3 → ∀ b, b < 3 → a ≠ b → (TX6 a).2.1 ≠ (TX6 b).2.1 := by decide +kernel
theorem tyX6_ok : ∀ k, k < 3 → parseFieldDescriptor (TX6 k).2.2.1 = some (tyX6 k) := by decide +kernel
abbrev cX6_init : ByteArray := prog_8_method_1_code
def yX6_init : MethodName := ⟨RX6, "<init>", "()V"⟩
abbrev cX6_begin : ByteArray := prog_8_method_2_code
def yX6_begin : MethodName := ⟨RX6, "begin", "()V"⟩
def RX7 : String := "OrderedDisc$Script"
def TX7 : u_T := fun k => match k with
  | 0 => ("OrderedDisc$Script", "what", "[I", true)
  | 1 => ("OrderedDisc$Script", "keys", "[I", true)
  | 2 => ("OrderedDisc$Script", "others", "[I", true)
  | 3 => ("OrderedDisc$Script", "values", "[J", true)
  | _ => ("OrderedDisc$Script", "acts", "I", false)
def tyX7 : Nat → FieldType := fun k => match k with
  | 0 => .array .int
  | 1 => .array .int
  | 2 => .array .int
  | 3 => .array .long
  | _ => .int
theorem nmX7 : ∀ a, a < 5 → ∀ b, b < 5 → a ≠ b → (TX7 a).2.1 ≠ (TX7 b).2.1 := by decide +kernel
theorem tyX7_ok : ∀ k, k < 5 → parseFieldDescriptor (TX7 k).2.2.1 = some (tyX7 k) := by decide +kernel
abbrev cX7_init : ByteArray := prog_9_method_1_code
def yX7_init : MethodName := ⟨RX7, "<init>", "()V"⟩
abbrev cX7_append : ByteArray := prog_9_method_2_code
def yX7_append : MethodName := ⟨RX7, "append", "(IIIJ)V"⟩
abbrev cX7_foresee : ByteArray := prog_9_method_3_code
def yX7_foresee : MethodName := ⟨RX7, "foresee", "([[I)V"⟩
def RX8 : String := "OrderedDisc$Shadow"
def TX8 : u_T := fun k => match k with
  | _ => ("", "", "", false)
def tyX8 : Nat → FieldType := fun k => match k with
  | _ => .int
theorem nmX8 : ∀ a, a < 0 → ∀ b, b < 0 → a ≠ b → (TX8 a).2.1 ≠ (TX8 b).2.1 := by decide +kernel
theorem tyX8_ok : ∀ k, k < 0 → parseFieldDescriptor (TX8 k).2.2.1 = some (tyX8 k) := by decide +kernel
abbrev cX8_init : ByteArray := prog_10_method_1_code
def yX8_init : MethodName := ⟨RX8, "<init>", "()V"⟩
abbrev cX8_fences : ByteArray := prog_10_method_2_code
def yX8_fences : MethodName := ⟨RX8, "fences", "()I"⟩
abbrev cX8_homeOfKeys : ByteArray := prog_10_method_3_code
def yX8_homeOfKeys : MethodName := ⟨RX8, "homeOfKeys", "([I)I"⟩
abbrev cX8_allIsWell : ByteArray := prog_10_method_4_code
def yX8_allIsWell : MethodName := ⟨RX8, "allIsWell", "([I)Z"⟩
abbrev cX8_planChange : ByteArray := prog_10_method_5_code
def yX8_planChange : MethodName := ⟨RX8, "planChange", "([IIJIJLOrderedDisc$Plan;)V"⟩
abbrev cX8_layOut : ByteArray := prog_10_method_6_code
def yX8_layOut : MethodName := ⟨RX8, "layOut", "([I)V"⟩
abbrev cX8_version : ByteArray := prog_10_method_7_code
def yX8_version : MethodName := ⟨RX8, "version", "([I)I"⟩
abbrev cX8_homeWith : ByteArray := prog_10_method_8_code
def yX8_homeWith : MethodName := ⟨RX8, "homeWith", "(I)I"⟩
abbrev cX8_isOdd : ByteArray := prog_10_method_9_code
def yX8_isOdd : MethodName := ⟨RX8, "isOdd", "(I)Z"⟩
abbrev cX8_seal : ByteArray := prog_10_method_10_code
def yX8_seal : MethodName := ⟨RX8, "seal", "(I)I"⟩
def RX9 : String := "OrderedDisc$States"
def TX9 : u_T := fun k => match k with
  | 0 => ("OrderedDisc$States", "content", "[I", true)
  | 1 => ("OrderedDisc$States", "open", "[I", true)
  | 2 => ("OrderedDisc$States", "start", "[I", true)
  | 3 => ("OrderedDisc$States", "ints", "[I", true)
  | 4 => ("OrderedDisc$States", "leavers", "[I", true)
  | 5 => ("OrderedDisc$States", "alone", "[I", true)
  | 6 => ("OrderedDisc$States", "picked", "[I", true)
  | 7 => ("OrderedDisc$States", "common", "[I", true)
  | 8 => ("OrderedDisc$States", "levels", "I", false)
  | 9 => ("OrderedDisc$States", "end", "I", false)
  | 10 => ("OrderedDisc$States", "epochs", "I", false)
  | 11 => ("OrderedDisc$States", "count", "I", false)
  | 12 => ("OrderedDisc$States", "place", "I", false)
  | _ => ("OrderedDisc$States", "seenEdits", "I", false)
def tyX9 : Nat → FieldType := fun k => match k with
  | 0 => .array .int
  | 1 => .array .int
  | 2 => .array .int
  | 3 => .array .int
  | 4 => .array .int
  | 5 => .array .int
  | 6 => .array .int
  | 7 => .array .int
  | 8 => .int
  | 9 => .int
  | 10 => .int
  | 11 => .int
  | 12 => .int
  | _ => .int
theorem nmX9 : ∀ a, a < 14 → ∀ b, b < 14 → a ≠ b → (TX9 a).2.1 ≠ (TX9 b).2.1 := by decide +kernel
theorem tyX9_ok : ∀ k, k < 14 → parseFieldDescriptor (TX9 k).2.2.1 = some (tyX9 k) := by decide +kernel
abbrev cX9_init : ByteArray := prog_11_method_1_code
def yX9_init : MethodName := ⟨RX9, "<init>", "()V"⟩
abbrev cX9_refresh : ByteArray := prog_11_method_2_code
def yX9_refresh : MethodName := ⟨RX9, "refresh", "(LOrderedDisc$Disc;)V"⟩
abbrev cX9_gather : ByteArray := prog_11_method_3_code
def yX9_gather : MethodName := ⟨RX9, "gather", "(LOrderedDisc$Disc;I)V"⟩
abbrev cX9_allow : ByteArray := prog_11_method_4_code
def yX9_allow : MethodName := ⟨RX9, "allow", "(II)V"⟩
abbrev cX9_span : ByteArray := prog_11_method_5_code
def yX9_span : MethodName := ⟨RX9, "span", "(II)I"⟩
abbrev cX9_countAlone : ByteArray := prog_11_method_6_code
def yX9_countAlone : MethodName := ⟨RX9, "countAlone", "()V"⟩
abbrev cX9_choicesOf : ByteArray := prog_11_method_7_code
def yX9_choicesOf : MethodName := ⟨RX9, "choicesOf", "(II)I"⟩
abbrev cX9_countFrom : ByteArray := prog_11_method_8_code
def yX9_countFrom : MethodName := ⟨RX9, "countFrom", "(II)I"⟩
abbrev cX9_seek : ByteArray := prog_11_method_9_code
def yX9_seek : MethodName := ⟨RX9, "seek", "(I)V"⟩
abbrev cX9_advance : ByteArray := prog_11_method_10_code
def yX9_advance : MethodName := ⟨RX9, "advance", "()V"⟩
abbrev cX9_step : ByteArray := prog_11_method_11_code
def yX9_step : MethodName := ⟨RX9, "step", "(I)Z"⟩
abbrev cX9_descend : ByteArray := prog_11_method_12_code
def yX9_descend : MethodName := ⟨RX9, "descend", "(I)V"⟩
abbrev cX9_pick : ByteArray := prog_11_method_13_code
def yX9_pick : MethodName := ⟨RX9, "pick", "(II)V"⟩
def RX10 : String := "OrderedDisc"
def TX10 : u_T := fun k => match k with
  | 0 => ("OrderedDisc", "disc", "LOrderedDisc$Disc;", true)
  | 1 => ("OrderedDisc", "fallen", "LOrderedDisc$States;", true)
  | 2 => ("OrderedDisc", "plan", "LOrderedDisc$Plan;", true)
  | 3 => ("OrderedDisc", "script", "LOrderedDisc$Script;", true)
  | 4 => ("OrderedDisc", "passage", "LOrderedDisc$Passage;", true)
  | 5 => ("OrderedDisc", "kinds", "[LOrderedDisc$Kind;", true)
  | 6 => ("OrderedDisc", "spared", "[I", true)
  | 7 => ("OrderedDisc", "refusals", "[I", true)
  | 8 => ("OrderedDisc", "storeKind", "I", false)
  | _ => ("OrderedDisc", "falls", "I", false)
def tyX10 : Nat → FieldType := fun k => match k with
  | 0 => .object "OrderedDisc$Disc"
  | 1 => .object "OrderedDisc$States"
  | 2 => .object "OrderedDisc$Plan"
  | 3 => .object "OrderedDisc$Script"
  | 4 => .object "OrderedDisc$Passage"
  | 5 => .array (.object "OrderedDisc$Kind")
  | 6 => .array .int
  | 7 => .array .int
  | 8 => .int
  | _ => .int
theorem nmX10 : ∀ a, a < 10 → ∀ b, b < 10 → a ≠ b → (TX10 a).2.1 ≠ (TX10 b).2.1 := by decide +kernel
theorem tyX10_ok : ∀ k, k < 10 → parseFieldDescriptor (TX10 k).2.2.1 = some (tyX10 k) := by decide +kernel
abbrev cX10_init : ByteArray := prog_1_method_1_code
def yX10_init : MethodName := ⟨RX10, "<init>", "()V"⟩
abbrev cX10_write : ByteArray := prog_1_method_2_code
def yX10_write : MethodName := ⟨RX10, "write", "(III)I"⟩
abbrev cX10_fence : ByteArray := prog_1_method_3_code
def yX10_fence : MethodName := ⟨RX10, "fence", "()I"⟩
abbrev cX10_flush : ByteArray := prog_1_method_4_code
def yX10_flush : MethodName := ⟨RX10, "flush", "()I"⟩
abbrev cX10_read : ByteArray := prog_1_method_5_code
def yX10_read : MethodName := ⟨RX10, "read", "(II)I"⟩
abbrev cX10_plate : ByteArray := prog_1_method_6_code
def yX10_plate : MethodName := ⟨RX10, "plate", "(II)I"⟩
abbrev cX10_entry : ByteArray := prog_1_method_7_code
def yX10_entry : MethodName := ⟨RX10, "entry", "(II)I"⟩
abbrev cX10_states : ByteArray := prog_1_method_8_code
def yX10_states : MethodName := ⟨RX10, "states", "()I"⟩
abbrev cX10_state : ByteArray := prog_1_method_9_code
def yX10_state : MethodName := ⟨RX10, "state", "(III)I"⟩
abbrev cX10_fall : ByteArray := prog_1_method_10_code
def yX10_fall : MethodName := ⟨RX10, "fall", "(I)I"⟩
abbrev cX10_store : ByteArray := prog_1_method_11_code
def yX10_store : MethodName := ⟨RX10, "store", "(I)I"⟩
abbrev cX10_put : ByteArray := prog_1_method_12_code
def yX10_put : MethodName := ⟨RX10, "put", "(IJ)I"⟩
abbrev cX10_move : ByteArray := prog_1_method_13_code
def yX10_move : MethodName := ⟨RX10, "move", "(II)I"⟩
abbrev cX10_get : ByteArray := prog_1_method_14_code
def yX10_get : MethodName := ⟨RX10, "get", "(I)J"⟩
abbrev cX10_rise : ByteArray := prog_1_method_15_code
def yX10_rise : MethodName := ⟨RX10, "rise", "()I"⟩
abbrev cX10_isSound : ByteArray := prog_1_method_16_code
def yX10_isSound : MethodName := ⟨RX10, "isSound", "()Z"⟩
abbrev cX10_addPut : ByteArray := prog_1_method_17_code
def yX10_addPut : MethodName := ⟨RX10, "addPut", "(IJ)I"⟩
abbrev cX10_addMove : ByteArray := prog_1_method_18_code
def yX10_addMove : MethodName := ⟨RX10, "addMove", "(II)I"⟩
abbrev cX10_addSure : ByteArray := prog_1_method_19_code
def yX10_addSure : MethodName := ⟨RX10, "addSure", "()I"⟩
abbrev cX10_clear : ByteArray := prog_1_method_20_code
def yX10_clear : MethodName := ⟨RX10, "clear", "()I"⟩
abbrev cX10_through : ByteArray := prog_1_method_21_code
def yX10_through : MethodName := ⟨RX10, "through", "(I)I"⟩
abbrev cX10_gone : ByteArray := prog_1_method_22_code
def yX10_gone : MethodName := ⟨RX10, "gone", "(I)I"⟩
abbrev cX10_bad : ByteArray := prog_1_method_23_code
def yX10_bad : MethodName := ⟨RX10, "bad", "(II)I"⟩
abbrev cX10_spare : ByteArray := prog_1_method_24_code
def yX10_spare : MethodName := ⟨RX10, "spare", "(IIZ)Z"⟩
abbrev cX10_least : ByteArray := prog_1_method_25_code
def yX10_least : MethodName := ⟨RX10, "least", "(I)I"⟩
abbrev cX10_digest : ByteArray := prog_1_method_26_code
def yX10_digest : MethodName := ⟨RX10, "digest", "(I)I"⟩
abbrev cX10_status : ByteArray := prog_1_method_27_code
def yX10_status : MethodName := ⟨RX10, "status", "(I)I"⟩
abbrev cX10_refuse : ByteArray := prog_1_method_28_code
def yX10_refuse : MethodName := ⟨RX10, "refuse", "(I)I"⟩
abbrev cX10_carryOut : ByteArray := prog_1_method_29_code
def yX10_carryOut : MethodName := ⟨RX10, "carryOut", "()I"⟩
abbrev cX10_addAct : ByteArray := prog_1_method_30_code
def yX10_addAct : MethodName := ⟨RX10, "addAct", "(IIIJ)I"⟩
abbrev cX10_hasStore : ByteArray := prog_1_method_31_code
def yX10_hasStore : MethodName := ⟨RX10, "hasStore", "()Z"⟩
abbrev cX10_isKind : ByteArray := prog_1_method_32_code
def yX10_isKind : MethodName := ⟨RX10, "isKind", "(I)Z"⟩
abbrev cX10_isSector : ByteArray := prog_1_method_33_code
def yX10_isSector : MethodName := ⟨RX10, "isSector", "(I)Z"⟩
abbrev cX10_isPart : ByteArray := prog_1_method_34_code
def yX10_isPart : MethodName := ⟨RX10, "isPart", "(II)Z"⟩
abbrev cX10_isKey : ByteArray := prog_1_method_35_code
def yX10_isKey : MethodName := ⟨RX10, "isKey", "(I)Z"⟩
abbrev cX10_areTwoKeys : ByteArray := prog_1_method_36_code
def yX10_areTwoKeys : MethodName := ⟨RX10, "areTwoKeys", "(II)Z"⟩
abbrev cX10_high : ByteArray := prog_1_method_37_code
def yX10_high : MethodName := ⟨RX10, "high", "(J)I"⟩
abbrev cX10_low : ByteArray := prog_1_method_38_code
def yX10_low : MethodName := ⟨RX10, "low", "(J)I"⟩
def RX11 : String := "OrderedDiscModel"
def TX11 : u_T := fun k => match k with
  | 0 => ("OrderedDiscModel", "thrown", "I", false)
  | 1 => ("OrderedDiscModel", "plate", "[I", true)
  | 2 => ("OrderedDiscModel", "sector", "[I", true)
  | 3 => ("OrderedDiscModel", "one", "[I", true)
  | 4 => ("OrderedDiscModel", "two", "[I", true)
  | 5 => ("OrderedDiscModel", "many", "[I", true)
  | 6 => ("OrderedDiscModel", "kind", "I", false)
  | 7 => ("OrderedDiscModel", "spared", "[Z", true)
  | 8 => ("OrderedDiscModel", "writes", "I", false)
  | 9 => ("OrderedDiscModel", "falls", "I", false)
  | 10 => ("OrderedDiscModel", "refused", "[I", true)
  | 11 => ("OrderedDiscModel", "stateMany", "I", false)
  | 12 => ("OrderedDiscModel", "states", "[I", true)
  | 13 => ("OrderedDiscModel", "ordered", "[I", true)
  | 14 => ("OrderedDiscModel", "base", "[I", true)
  | 15 => ("OrderedDiscModel", "choices", "[I", true)
  | 16 => ("OrderedDiscModel", "choiceMany", "[I", true)
  | 17 => ("OrderedDiscModel", "choiceNow", "[I", true)
  | 18 => ("OrderedDiscModel", "planSector", "[I", true)
  | 19 => ("OrderedDiscModel", "planOne", "[I", true)
  | 20 => ("OrderedDiscModel", "planTwo", "[I", true)
  | 21 => ("OrderedDiscModel", "planned", "I", false)
  | 22 => ("OrderedDiscModel", "acts", "I", false)
  | 23 => ("OrderedDiscModel", "act", "[I", true)
  | 24 => ("OrderedDiscModel", "actKey", "[I", true)
  | 25 => ("OrderedDiscModel", "actOther", "[I", true)
  | 26 => ("OrderedDiscModel", "actValue", "[J", true)
  | 27 => ("OrderedDiscModel", "due", "[J", true)
  | 28 => ("OrderedDiscModel", "going", "[I", true)
  | 29 => ("OrderedDiscModel", "gone", "[I", true)
  | 30 => ("OrderedDiscModel", "goingBad", "[I", true)
  | 31 => ("OrderedDiscModel", "goneBad", "[I", true)
  | 32 => ("OrderedDiscModel", "sure", "I", false)
  | 33 => ("OrderedDiscModel", "begun", "I", false)
  | 34 => ("OrderedDiscModel", "came", "[J", true)
  | 35 => ("OrderedDiscModel", "heldSector", "[I", true)
  | 36 => ("OrderedDiscModel", "heldOne", "[I", true)
  | _ => ("OrderedDiscModel", "heldTwo", "[I", true)
def tyX11 : Nat → FieldType := fun k => match k with
  | 0 => .int
  | 1 => .array .int
  | 2 => .array .int
  | 3 => .array .int
  | 4 => .array .int
  | 5 => .array .int
  | 6 => .int
  | 7 => .array .boolean
  | 8 => .int
  | 9 => .int
  | 10 => .array .int
  | 11 => .int
  | 12 => .array .int
  | 13 => .array .int
  | 14 => .array .int
  | 15 => .array .int
  | 16 => .array .int
  | 17 => .array .int
  | 18 => .array .int
  | 19 => .array .int
  | 20 => .array .int
  | 21 => .int
  | 22 => .int
  | 23 => .array .int
  | 24 => .array .int
  | 25 => .array .int
  | 26 => .array .long
  | 27 => .array .long
  | 28 => .array .int
  | 29 => .array .int
  | 30 => .array .int
  | 31 => .array .int
  | 32 => .int
  | 33 => .int
  | 34 => .array .long
  | 35 => .array .int
  | 36 => .array .int
  | _ => .array .int
theorem nmX11 : ∀ a, a < 38 → ∀ b, b < 38 → a ≠ b → (TX11 a).2.1 ≠ (TX11 b).2.1 := by decide +kernel
theorem tyX11_ok : ∀ k, k < 38 → parseFieldDescriptor (TX11 k).2.2.1 = some (tyX11 k) := by decide +kernel
abbrev cX11_init : ByteArray := prog_13_method_1_code
def yX11_init : MethodName := ⟨RX11, "<init>", "()V"⟩
abbrev cX11_thrown : ByteArray := prog_13_method_2_code
def yX11_thrown : MethodName := ⟨RX11, "thrown", "()I"⟩
abbrev cX11_in : ByteArray := prog_13_method_3_code
def yX11_in : MethodName := ⟨RX11, "in", "(III)Z"⟩
abbrev cX11_refuse : ByteArray := prog_13_method_4_code
def yX11_refuse : MethodName := ⟨RX11, "refuse", "(I)I"⟩
abbrev cX11_readOf : ByteArray := prog_13_method_5_code
def yX11_readOf : MethodName := ⟨RX11, "readOf", "(III)I"⟩
abbrev cX11_push : ByteArray := prog_13_method_6_code
def yX11_push : MethodName := ⟨RX11, "push", "(IIII)Z"⟩
abbrev cX11_flushOf : ByteArray := prog_13_method_7_code
def yX11_flushOf : MethodName := ⟨RX11, "flushOf", "(I)I"⟩
abbrev cX11_write : ByteArray := prog_13_method_8_code
def yX11_write : MethodName := ⟨RX11, "write", "(III)I"⟩
abbrev cX11_fence : ByteArray := prog_13_method_9_code
def yX11_fence : MethodName := ⟨RX11, "fence", "()I"⟩
abbrev cX11_flush : ByteArray := prog_13_method_10_code
def yX11_flush : MethodName := ⟨RX11, "flush", "()I"⟩
abbrev cX11_isPart : ByteArray := prog_13_method_11_code
def yX11_isPart : MethodName := ⟨RX11, "isPart", "(II)Z"⟩
abbrev cX11_read : ByteArray := prog_13_method_12_code
def yX11_read : MethodName := ⟨RX11, "read", "(II)I"⟩
abbrev cX11_plate : ByteArray := prog_13_method_13_code
def yX11_plate : MethodName := ⟨RX11, "plate", "(II)I"⟩
abbrev cX11_epochOf : ByteArray := prog_13_method_14_code
def yX11_epochOf : MethodName := ⟨RX11, "epochOf", "(II)I"⟩
abbrev cX11_entry : ByteArray := prog_13_method_15_code
def yX11_entry : MethodName := ⟨RX11, "entry", "(II)I"⟩
abbrev cX11_writeEpoch : ByteArray := prog_13_method_16_code
def yX11_writeEpoch : MethodName := ⟨RX11, "writeEpoch", "(II)I"⟩
abbrev cX11_mayBe : ByteArray := prog_13_method_17_code
def yX11_mayBe : MethodName := ⟨RX11, "mayBe", "(II)V"⟩
abbrev cX11_compare : ByteArray := prog_13_method_18_code
def yX11_compare : MethodName := ⟨RX11, "compare", "(I)I"⟩
abbrev cX11_keepState : ByteArray := prog_13_method_19_code
def yX11_keepState : MethodName := ⟨RX11, "keepState", "()Z"⟩
abbrev cX11_keepAll : ByteArray := prog_13_method_20_code
def yX11_keepAll : MethodName := ⟨RX11, "keepAll", "()Z"⟩
abbrev cX11_onlyBase : ByteArray := prog_13_method_21_code
def yX11_onlyBase : MethodName := ⟨RX11, "onlyBase", "()V"⟩
abbrev cX11_findStates : ByteArray := prog_13_method_22_code
def yX11_findStates : MethodName := ⟨RX11, "findStates", "(I)Z"⟩
abbrev cX11_states : ByteArray := prog_13_method_23_code
def yX11_states : MethodName := ⟨RX11, "states", "()I"⟩
abbrev cX11_state : ByteArray := prog_13_method_24_code
def yX11_state : MethodName := ⟨RX11, "state", "(III)I"⟩
abbrev cX11_fall : ByteArray := prog_13_method_25_code
def yX11_fall : MethodName := ⟨RX11, "fall", "(I)I"⟩
abbrev cX11_fencesOf : ByteArray := prog_13_method_26_code
def yX11_fencesOf : MethodName := ⟨RX11, "fencesOf", "(I)I"⟩
abbrev cX11_format : ByteArray := prog_13_method_27_code
def yX11_format : MethodName := ⟨RX11, "format", "(II)V"⟩
abbrev cX11_store : ByteArray := prog_13_method_28_code
def yX11_store : MethodName := ⟨RX11, "store", "(I)I"⟩
abbrev cX11_high : ByteArray := prog_13_method_29_code
def yX11_high : MethodName := ⟨RX11, "high", "(J)I"⟩
abbrev cX11_joined : ByteArray := prog_13_method_30_code
def yX11_joined : MethodName := ⟨RX11, "joined", "(II)J"⟩
abbrev cX11_root : ByteArray := prog_13_method_31_code
def yX11_root : MethodName := ⟨RX11, "root", "(II)I"⟩
abbrev cX11_version : ByteArray := prog_13_method_32_code
def yX11_version : MethodName := ⟨RX11, "version", "(I)I"⟩
abbrev cX11_placeOf : ByteArray := prog_13_method_33_code
def yX11_placeOf : MethodName := ⟨RX11, "placeOf", "(II)I"⟩
abbrev cX11_keyOf : ByteArray := prog_13_method_34_code
def yX11_keyOf : MethodName := ⟨RX11, "keyOf", "(III)J"⟩
abbrev cX11_sum : ByteArray := prog_13_method_35_code
def yX11_sum : MethodName := ⟨RX11, "sum", "(IIIIIII)I"⟩
abbrev cX11_plan : ByteArray := prog_13_method_36_code
def yX11_plan : MethodName := ⟨RX11, "plan", "(III)V"⟩
abbrev cX11_planFence : ByteArray := prog_13_method_37_code
def yX11_planFence : MethodName := ⟨RX11, "planFence", "(II)V"⟩
abbrev cX11_planEnd : ByteArray := prog_13_method_38_code
def yX11_planEnd : MethodName := ⟨RX11, "planEnd", "(I)V"⟩
abbrev cX11_planChange : ByteArray := prog_13_method_39_code
def yX11_planChange : MethodName := ⟨RX11, "planChange", "(IIIJIJ)V"⟩
abbrev cX11_planRise : ByteArray := prog_13_method_40_code
def yX11_planRise : MethodName := ⟨RX11, "planRise", "(II)V"⟩
abbrev cX11_takePlan : ByteArray := prog_13_method_41_code
def yX11_takePlan : MethodName := ⟨RX11, "takePlan", "()I"⟩
abbrev cX11_put : ByteArray := prog_13_method_42_code
def yX11_put : MethodName := ⟨RX11, "put", "(IJ)I"⟩
abbrev cX11_move : ByteArray := prog_13_method_43_code
def yX11_move : MethodName := ⟨RX11, "move", "(II)I"⟩
abbrev cX11_get : ByteArray := prog_13_method_44_code
def yX11_get : MethodName := ⟨RX11, "get", "(I)J"⟩
abbrev cX11_rise : ByteArray := prog_13_method_45_code
def yX11_rise : MethodName := ⟨RX11, "rise", "()I"⟩
abbrev cX11_isSound : ByteArray := prog_13_method_46_code
def yX11_isSound : MethodName := ⟨RX11, "isSound", "()Z"⟩
abbrev cX11_add : ByteArray := prog_13_method_47_code
def yX11_add : MethodName := ⟨RX11, "add", "(IIIJ)I"⟩
abbrev cX11_addPut : ByteArray := prog_13_method_48_code
def yX11_addPut : MethodName := ⟨RX11, "addPut", "(IJ)I"⟩
abbrev cX11_addMove : ByteArray := prog_13_method_49_code
def yX11_addMove : MethodName := ⟨RX11, "addMove", "(II)I"⟩
abbrev cX11_addSure : ByteArray := prog_13_method_50_code
def yX11_addSure : MethodName := ⟨RX11, "addSure", "()I"⟩
abbrev cX11_clear : ByteArray := prog_13_method_51_code
def yX11_clear : MethodName := ⟨RX11, "clear", "()I"⟩
abbrev cX11_findDue : ByteArray := prog_13_method_52_code
def yX11_findDue : MethodName := ⟨RX11, "findDue", "()V"⟩
abbrev cX11_isRight : ByteArray := prog_13_method_53_code
def yX11_isRight : MethodName := ⟨RX11, "isRight", "()Z"⟩
abbrev cX11_moment : ByteArray := prog_13_method_54_code
def yX11_moment : MethodName := ⟨RX11, "moment", "(I)Z"⟩
abbrev cX11_goThroughAct : ByteArray := prog_13_method_55_code
def yX11_goThroughAct : MethodName := ⟨RX11, "goThroughAct", "(II)Z"⟩
abbrev cX11_goThrough : ByteArray := prog_13_method_56_code
def yX11_goThrough : MethodName := ⟨RX11, "goThrough", "(I)Z"⟩
abbrev cX11_through : ByteArray := prog_13_method_57_code
def yX11_through : MethodName := ⟨RX11, "through", "(I)I"⟩
abbrev cX11_gone : ByteArray := prog_13_method_58_code
def yX11_gone : MethodName := ⟨RX11, "gone", "(I)I"⟩
abbrev cX11_bad : ByteArray := prog_13_method_59_code
def yX11_bad : MethodName := ⟨RX11, "bad", "(II)I"⟩
abbrev cX11_spare : ByteArray := prog_13_method_60_code
def yX11_spare : MethodName := ⟨RX11, "spare", "(IIZ)Z"⟩
abbrev cX11_least : ByteArray := prog_13_method_61_code
def yX11_least : MethodName := ⟨RX11, "least", "(I)I"⟩
abbrev cX11_digest : ByteArray := prog_13_method_62_code
def yX11_digest : MethodName := ⟨RX11, "digest", "(I)I"⟩
abbrev cX11_status : ByteArray := prog_13_method_63_code
def yX11_status : MethodName := ⟨RX11, "status", "(I)I"⟩
def RJ6 : String := "java/lang/Integer"
def TJ6 : u_T := fun k => match k with
  | _ => ("", "", "", false)
def tyJ6 : Nat → FieldType := fun k => match k with
  | _ => .int
theorem nmJ6 : ∀ a, a < 0 → ∀ b, b < 0 → a ≠ b → (TJ6 a).2.1 ≠ (TJ6 b).2.1 := by decide +kernel
theorem tyJ6_ok : ∀ k, k < 0 → parseFieldDescriptor (TJ6 k).2.2.1 = some (tyJ6 k) := by decide +kernel
abbrev cJ6_bitCount_0f7a4 : ByteArray := prog_17_method_49_code
def yJ6_bitCount_0f7a4 : MethodName := ⟨RJ6, "bitCount", "(I)I"⟩
def RJ9 : String := "java/lang/Math"
def TJ9 : u_T := fun k => match k with
  | _ => ("", "", "", false)
def tyJ9 : Nat → FieldType := fun k => match k with
  | _ => .int
theorem nmJ9 : ∀ a, a < 0 → ∀ b, b < 0 → a ≠ b → (TJ9 a).2.1 ≠ (TJ9 b).2.1 := by decide +kernel
theorem tyJ9_ok : ∀ k, k < 0 → parseFieldDescriptor (TJ9 k).2.2.1 = some (tyJ9 k) := by decide +kernel
abbrev cJ9_max_7cf53 : ByteArray := prog_18_method_65_code
def yJ9_max_7cf53 : MethodName := ⟨RJ9, "max", "(II)I"⟩
abbrev cJ9_min_7cf53 : ByteArray := prog_18_method_69_code
def yJ9_min_7cf53 : MethodName := ⟨RJ9, "min", "(II)I"⟩
def RJ0 : String := "java/lang/String"
def TJ0 : u_T := fun k => match k with
  | _ => ("", "", "", false)
def tyJ0 : Nat → FieldType := fun k => match k with
  | _ => .int
theorem nmJ0 : ∀ a, a < 0 → ∀ b, b < 0 → a ≠ b → (TJ0 a).2.1 ≠ (TJ0 b).2.1 := by decide +kernel
theorem tyJ0_ok : ∀ k, k < 0 → parseFieldDescriptor (TJ0 k).2.2.1 = some (tyJ0 k) := by decide +kernel
def RJ10 : String := "java/lang/System"
def TJ10 : u_T := fun k => match k with
  | _ => ("", "", "", false)
def tyJ10 : Nat → FieldType := fun k => match k with
  | _ => .int
theorem nmJ10 : ∀ a, a < 0 → ∀ b, b < 0 → a ≠ b → (TJ10 a).2.1 ≠ (TJ10 b).2.1 := by decide +kernel
theorem tyJ10_ok : ∀ k, k < 0 → parseFieldDescriptor (TJ10 k).2.2.1 = some (tyJ10 k) := by decide +kernel
def RJ7 : String := "java/util/Arrays"
def TJ7 : u_T := fun k => match k with
  | _ => ("", "", "", false)
def tyJ7 : Nat → FieldType := fun k => match k with
  | _ => .int
theorem nmJ7 : ∀ a, a < 0 → ∀ b, b < 0 → a ≠ b → (TJ7 a).2.1 ≠ (TJ7 b).2.1 := by decide +kernel
theorem tyJ7_ok : ∀ k, k < 0 → parseFieldDescriptor (TJ7 k).2.2.1 = some (tyJ7 k) := by decide +kernel
abbrev cJ7_fill_53178 : ByteArray := prog_23_method_103_code
def yJ7_fill_53178 : MethodName := ⟨RJ7, "fill", "([II)V"⟩
def RL : String := "OrderedDiscLaw"
abbrev cL_read : ByteArray := method_3_code
def yL_read : MethodName := ⟨RL, "read", "(LOrderedDisc;II[J)I"⟩
abbrev cL_plate : ByteArray := method_4_code
def yL_plate : MethodName := ⟨RL, "plate", "(LOrderedDisc;II[J)I"⟩
abbrev cL_state : ByteArray := method_5_code
def yL_state : MethodName := ⟨RL, "state", "(LOrderedDisc;III[J)I"⟩
abbrev cL_get : ByteArray := method_6_code
def yL_get : MethodName := ⟨RL, "get", "(LOrderedDisc;I[J)I"⟩
abbrev cL_law : ByteArray := code
def yL_law : MethodName := ⟨RL, "law", "([I)Z"⟩
abbrev vwCl : List vw_C := [(RX0, TX0, 13), (RX2, TX2, 0), (RX3, TX3, 14), (RX4, TX4, 0), (RX5, TX5, 5), (RX6, TX6, 3), (RX7, TX7, 5), (RX8, TX8, 0), (RX9, TX9, 14), (RX10, TX10, 10), (RX11, TX11, 38)]
end
section
/-! ABSTRACT HEAPS: a cell is known by its place (0, 1, ..); ad gives a place its address -/
abbrev sE : Type := (Nat × vp_A) ⊕ (Nat × List Value)
abbrev sH : Type := Nat × (Nat → sE)
def sv (ad : Nat → Nat) (v : Value) : Value := match v with
  | .ref k => .ref (ad k)
  | v => v
def sa (ad : Nat → Nat) (a : vp_A) : vp_A := match a with
  | (n, .inr (.inr (.inr (.inr f)))) => (n, .inr (.inr (.inr (.inr (fun j => (f j).map ad)))))
  | a => a
def se (dA : Nat → ClassId) (ad : Nat → Nat) (c : sE) : va_E := match c with
  | .inl x => .inl (dA x.1, sa ad x.2)
  | .inr x => .inr (x.1, x.2.map (sv ad))
def sw (dA : Nat → ClassId) (ad : Nat → Nat) (h : sH) : va_W := (List.range h.1).map (fun k => (ad k, se dA ad (h.2 k)))
theorem sw_at {dA : Nat → ClassId} {ad : Nat → Nat} {h : sH} {a : Nat} (ha : a < h.1) : (sw dA ad h)[a]? = some (ad a, se dA ad (h.2 a)) := by
  simp [sw, ha]
theorem sw_set {dA : Nat → ClassId} {ad : Nat → Nat} {h : sH} {a : Nat} {c : sE} (ha : a < h.1) : (sw dA ad h).set a (ad a, se dA ad c) = sw dA ad (h.1, va_up h.2 a c) := by
  apply List.ext_getElem?
  intro i
  by_cases hi : i < h.1
  · by_cases e : i = a
    · subst e
      rw [List.getElem?_set_self (by simpa [sw] using ha), sw_at (h := (h.1, va_up h.2 i c)) ha]
      simp [va_up]
    · rw [List.getElem?_set_ne (fun q => e q.symm), sw_at hi, sw_at (h := (h.1, va_up h.2 a c)) hi]
      simp [va_up, e]
  · rw [List.getElem?_eq_none (by simp [sw]; omega), List.getElem?_eq_none (by simp [sw]; omega)]
theorem sv_map_set {ad : Nat → Nat} {fs : List Value} {k : Nat} {v : Value} : (fs.map (sv ad)).set k (sv ad v) = (fs.set k v).map (sv ad) := by
  rw [List.map_set]
theorem sv_at {ad : Nat → Nat} {fs : List Value} {k : Nat} {v : Value} (h : fs[k]? = some v) : (fs.map (sv ad))[k]? = some (sv ad v) := by
  rw [List.getElem?_map, h]; rfl
/-! locals -/
def slF (ad : Nat → Nat) : Nat → List (Option Value) → List (Nat × Value)
  | _, [] => []
  | i, none :: r => slF ad (i + 1) r
  | i, some v :: r => (i, sv ad v) :: slF ad (i + 1) r
theorem slF_mem {ad : Nat → Nat} {q : Nat × Value} : ∀ (ls : List (Option Value)) (i : Nat), q ∈ slF ad i ls ↔ ∃ (j : Nat) (v : Value), ls[j]? = some (some v) ∧ q = (i + j, sv ad v)
  | [], i => by simp [slF]
  | none :: r, i => by
    rw [slF, slF_mem r (i + 1)]
    constructor
    · rintro ⟨j, v, h1, h2⟩
      exact ⟨j + 1, v, by simpa using h1, by rw [h2]; congr 1; omega⟩
    · rintro ⟨j, v, h1, h2⟩
      cases j with
      | zero => simp at h1
      | succ j => exact ⟨j, v, by simpa using h1, by rw [h2]; congr 1; omega⟩
  | some w :: r, i => by
    rw [slF, List.mem_cons, slF_mem r (i + 1)]
    constructor
    · rintro (h | ⟨j, v, h1, h2⟩)
      · exact ⟨0, w, by simp, by rw [h]; rfl⟩
      · exact ⟨j + 1, v, by simpa using h1, by rw [h2]; congr 1; omega⟩
    · rintro ⟨j, v, h1, h2⟩
      cases j with
      | zero =>
        simp at h1
        subst h1
        exact Or.inl h2
      | succ j => exact Or.inr ⟨j, v, by simpa using h1, by rw [h2]; congr 1; omega⟩
def sl (ad : Nat → Nat) (ls : List (Option Value)) : List (Nat × Value) := slF ad 0 ls
theorem sl_mem {ad : Nat → Nat} {ls : List (Option Value)} {q : Nat × Value} : q ∈ sl ad ls ↔ ∃ v : Value, ls[q.1]? = some (some v) ∧ q.2 = sv ad v := by
  rw [sl, slF_mem]
  constructor
  · rintro ⟨j, v, h1, rfl⟩
    exact ⟨v, by simpa using h1, rfl⟩
  · rintro ⟨v, h1, h2⟩
    exact ⟨q.1, v, h1, by rw [← h2]; simp⟩
theorem sl_at {ad : Nat → Nat} {ls : List (Option Value)} {lc : Array Slot} {nL i : Nat} {v : Value} (h : lv_has lc nL (sl ad ls)) (hi : ls[i]? = some (some v)) : lc[i]? = some (.val (sv ad v)) := h.2.2 (i, sv ad v) (sl_mem.mpr ⟨v, hi, rfl⟩)
theorem sl_at1 {ad : Nat → Nat} {ls : List (Option Value)} {lc : Array Slot} {nL i : Nat} {v : Value} (h : lv_has lc nL (sl ad ls)) (hi : ls[i]? = some (some v)) : ∃ k : Nat, (sl ad ls)[k]? = some (i, sv ad v) := List.getElem?_of_mem (sl_mem.mpr ⟨v, hi, rfl⟩)
theorem sv_cat (ad : Nat → Nat) (v : Value) : (sv ad v).category = v.category := by cases v <;> rfl
/-- a slot of a long whose second half is overwritten -/
def clr (ls : List (Option Value)) (i : Nat) : List (Option Value) := match i with
  | 0 => ls
  | i + 1 => match ls[i]? with
    | some (some v) => if v.category = 2 then ls.set i none else ls
    | _ => ls
theorem clr_at {ls : List (Option Value)} {i j : Nat} {v : Value} (h : (clr ls i)[j]? = some (some v)) : ls[j]? = some (some v) ∧ ¬ (j + 1 = i ∧ v.category = 2) := by
  cases i with
  | zero => exact ⟨h, by omega⟩
  | succ i =>
    simp only [clr] at h
    split at h
    · rename_i w hw
      split at h
      · by_cases e : i = j
        · subst e
          have hl : i < ls.length := (List.getElem?_eq_some_iff.mp hw).1
          rw [List.getElem?_set_self hl] at h
          cases h
        · rw [List.getElem?_set_ne e] at h
          exact ⟨h, by omega⟩
      · rename_i hc
        refine ⟨h, fun q => ?_⟩
        have e : j = i := by omega
        subst e
        rw [hw] at h
        cases h
        exact hc q.2
    · rename_i hn
      refine ⟨h, fun q => ?_⟩
      have e : j = i := by omega
      subst e
      exact hn v h
def st1 (ls : List (Option Value)) (i : Nat) (v : Value) : List (Option Value) := (clr ls i).set i (some v)
def st2 (ls : List (Option Value)) (i : Nat) (v : Value) : List (Option Value) := ((clr ls i).set i (some v)).set (i + 1) none
theorem st1_sub {ad : Nat → Nat} {ls : List (Option Value)} {i : Nat} {v : Value} {q : Nat × Value} (h : q ∈ sl ad (st1 ls i v)) : q ∈ (i, sv ad v) :: (sl ad ls).filter (fun q => !(q.1 == i) && !(q.1 + 1 == i && q.2.category == 2)) := by
  obtain ⟨w, h1, h2⟩ := sl_mem.mp h
  by_cases e : i = q.1
  · rw [st1, ← e] at h1
    have hl : i < (clr ls i).length := by
      have := (List.getElem?_eq_some_iff.mp h1).1
      simpa using this
    rw [List.getElem?_set_self hl] at h1
    cases h1
    rw [List.mem_cons]
    left
    rw [← h2, e]
  · rw [st1, List.getElem?_set_ne e] at h1
    obtain ⟨h3, h4⟩ := clr_at h1
    refine List.mem_cons_of_mem _ (List.mem_filter.mpr ⟨sl_mem.mpr ⟨w, h3, h2⟩, ?_⟩)
    have e' : ¬ q.1 = i := fun z => e z.symm
    rw [h2, sv_cat]
    simp only [Bool.and_eq_true, Bool.not_eq_true', beq_eq_false_iff_ne, ne_eq, Bool.and_eq_false_iff]
    refine ⟨e', ?_⟩
    by_cases z : q.1 + 1 = i
    · exact Or.inr (fun c => h4 ⟨z, c⟩)
    · exact Or.inl z
theorem st2_sub {ad : Nat → Nat} {ls : List (Option Value)} {i : Nat} {v : Value} {q : Nat × Value} (h : q ∈ sl ad (st2 ls i v)) : q ∈ (i, sv ad v) :: (sl ad ls).filter (fun q => !(q.1 == i) && (!(q.1 == i + 1) && !(q.1 + 1 == i && q.2.category == 2))) := by
  obtain ⟨w, h1, h2⟩ := sl_mem.mp h
  by_cases e2 : i + 1 = q.1
  · rw [st2, ← e2] at h1
    have hl : i + 1 < ((clr ls i).set i (some v)).length := by
      have := (List.getElem?_eq_some_iff.mp h1).1
      simpa using this
    rw [List.getElem?_set_self hl] at h1
    cases h1
  · rw [st2, List.getElem?_set_ne e2] at h1
    by_cases e : i = q.1
    · rw [← e] at h1
      have hl : i < (clr ls i).length := by
        have := (List.getElem?_eq_some_iff.mp h1).1
        simpa using this
      rw [List.getElem?_set_self hl] at h1
      cases h1
      rw [List.mem_cons]
      left
      rw [← h2, e]
    · rw [List.getElem?_set_ne e] at h1
      obtain ⟨h3, h4⟩ := clr_at h1
      refine List.mem_cons_of_mem _ (List.mem_filter.mpr ⟨sl_mem.mpr ⟨w, h3, h2⟩, ?_⟩)
      have e' : ¬ q.1 = i := fun z => e z.symm
      have e2' : ¬ q.1 = i + 1 := fun z => e2 z.symm
      rw [h2, sv_cat]
      simp only [Bool.and_eq_true, Bool.not_eq_true', beq_eq_false_iff_ne, ne_eq, Bool.and_eq_false_iff]
      refine ⟨e', e2', ?_⟩
      by_cases z : q.1 + 1 = i
      · exact Or.inr (fun c => h4 ⟨z, c⟩)
      · exact Or.inl z
theorem lv_less {lc : Array Slot} {nL : Nat} {l l' : List (Nat × Value)} (h : lv_has lc nL l) (hs : ∀ q ∈ l', q ∈ l) : lv_has lc nL l' := ⟨h.1, h.2.1, fun q hq => h.2.2 q (hs q hq)⟩
/-- the locals at a method's entry -/
def sen (n : Nat) (vs : List Value) : List (Option Value) := (vs.flatMap fun v => if v.category = 2 then [some v, none] else [some v]) ++ List.replicate (n - (vs.flatMap fun v => if v.category = 2 then [some v, none] else [some v]).length) none
/-! the words: all that are kept, and those of nests -/
def gW : List Cond := lw_tbl.filter goodWord
def isN (w : Cond) : Bool := match w with
  | .methodLinkNest .. => true
  | .declares .. => true
  | _ => false
def nW : List Cond := lw_tbl.filter isN
theorem gW_in {w : Cond} (i : Nat) (h : lw_tbl[i]? = some w) (hg : goodWord w = true) : w ∈ gW := List.mem_filter.mpr ⟨List.mem_of_getElem? h, hg⟩
theorem nW_in {w : Cond} (i : Nat) (h : lw_tbl[i]? = some w) (hg : isN w = true) : w ∈ nW := List.mem_filter.mpr ⟨List.mem_of_getElem? h, hg⟩
theorem gW_good : GoodIn gW gW := fun w h => ⟨h, good_of_word (List.mem_filter.mp h).2⟩
theorem gW_cons {c : Cond} (h : c ∈ gW) : GoodIn gW (c :: gW) := fun w hw => (List.mem_cons.mp hw).elim (fun e => gW_good w (e ▸ h)) (fun z => gW_good w z)
theorem arrayOver_specA {args : Array Value} {first s : State} {o : Option Outcome} {idx : List Nat} {t : FieldType} (h : (Cond.arrayOver (.array t)).holds args first o s idx = true) :
    ∃ comp c k, s.vm.findClass (FieldType.array t).toString = some comp ∧ (s.vm.classes.findIdx? fun x => match x.kind with | .array component _ => component == comp | _ => false) = some c ∧ s.vm.classes[c]? = some k ∧ k.kind = .array comp (.array t) ∧
      s.vm.findClass ("[" ++ (FieldType.array t).toString) = some c := by
  simp only [Cond.holds, Cond.value, beq_iff_eq] at h
  cases hc : s.vm.findClass (FieldType.array t).toString with
  | none => simp [hc] at h
  | some comp =>
    simp only [hc, Option.bind_some, Option.bind_eq_some_iff, Option.map_eq_some_iff] at h
    obtain ⟨c, hi, k, hk, hb⟩ := h
    obtain ⟨hlt, hp, -⟩ := Array.findIdx?_eq_some_iff_getElem.mp hi
    have hkk : s.vm.classes[c] = k := (Array.getElem?_eq_some_iff.mp hk).2
    rw [hkk] at hp
    cases hkind : k.kind with
    | array component ty =>
      rw [hkind] at hb hp
      simp at hb hp
      exact ⟨comp, c, k, rfl, hi, hk, by rw [hkind, hp, hb.1], hb.2⟩
    | _ => rw [hkind] at hb; simp at hb
theorem va_AOA.moved {ty : FieldType} {u U : State} (hvm : u.vm.Alike U.vm) (h : va_AOA ty u) : va_AOA ty U := by
  obtain ⟨comp, c, k, h1, h2, h3, h4, h5⟩ := arrayOver_specA h
  obtain ⟨k', hk', he⟩ := hvm.2.2 _ _ h3
  have hi : (U.vm.classes.findIdx? fun (x : Class) => match x.kind with | .array component _ => component == comp | _ => false) = some c := by
    refine (va_idx_bare U.vm comp).symm.trans ?_
    first | rw [hvm.bare_eq] | rw [← hvm.bare_eq]
    exact (va_idx_bare u.vm comp).trans h2
  have hkind : k'.kind = .array comp (.array ty) := by rw [he]; exact h4
  have f1 : U.vm.findClass (FieldType.array ty).toString = some comp := by rw [hvm.findClass]; exact h1
  have f2 : U.vm.findClass ("[" ++ (FieldType.array ty).toString) = some c := by rw [hvm.findClass]; exact h5
  unfold va_AOA Cond.before Cond.holds
  simp only [Cond.value]
  rw [f1, Option.bind_some]
  refine (congrArg (fun o : Option Nat => (o.bind (fun c => (U.vm.classes[c]?).map fun (k : Class) => match k.kind with | .array _ ty' => decide (ty' = FieldType.array ty) && decide (U.vm.findClass ("[" ++ (FieldType.array ty).toString) = some c) | _ => false) == some true)) hi).trans ?_
  simp [hk', hkind, f2]
def sT (dA : Nat → ClassId) : List (ClassId × FieldType) := [(dA 0, .int), (dA 1, .long), (dA 2, .boolean), (dA 3, .object "OrderedDisc$Kind"), (dA 4, .array .int)]
/-- what is known of the classes -/
def Kn (D : va_G) (dA : Nat → ClassId) (U : State) : Prop := va_K D vwCl (sT dA) U ∧ (∀ w ∈ nW, va_Nw w U) ∧ va_AO "OrderedDisc$Kind" U ∧ va_AOA .int U
theorem nW_warm {w : Cond} {s U : State} (hw : isN w = true) (hW : s.WarmedH U.vm) (h : va_Nw w s) : va_Nw w U := by
  cases w with
  | methodLinkNest => exact va_Nw.warmM hW h
  | declares => exact va_Nw.warmD hW h
  | _ => cases hw
theorem nW_same {w : Cond} {s U : State} (hw : isN w = true) (hv : s.vm = U.vm) (h : va_Nw w s) : va_Nw w U := by
  cases w with
  | methodLinkNest => exact va_Nw.same rfl hv h
  | declares => exact va_Nw.same rfl hv h
  | _ => cases hw
theorem Kn.warm {D : va_G} {dA : Nat → ClassId} {s U : State} (hW : s.WarmedH U.vm) (h : Kn D dA s) : Kn D dA U :=
  ⟨va_K.moved hW.alike h.1, fun w hw => nW_warm (List.mem_filter.mp hw).2 hW (h.2.1 w hw), va_AO.moved hW.alike h.2.2.1, va_AOA.moved hW.alike h.2.2.2⟩
theorem Kn.same {D : va_G} {dA : Nat → ClassId} {s U : State} (hv : s.vm = U.vm) (h : Kn D dA s) : Kn D dA U := by
  have ha : s.vm.Alike U.vm := by rw [hv]; exact Vm.Alike.refl U.vm
  exact ⟨va_K.moved ha h.1, fun w hw => nW_same (List.mem_filter.mp hw).2 hv (h.2.1 w hw), va_AO.moved ha h.2.2.1, va_AOA.moved ha h.2.2.2⟩
/-! a method: its class, name, descriptor, code, locals, answer -/
abbrev Mi : Type := String × String × String × ByteArray × Nat × Option FieldType
abbrev mown (M : Mi) : String := M.1
abbrev mnm (M : Mi) : String := M.2.1
abbrev mds (M : Mi) : String := M.2.2.1
abbrev mcc (M : Mi) : ByteArray := M.2.2.2.1
abbrev mnL (M : Mi) : Nat := M.2.2.2.2.1
abbrev mret (M : Mi) : Option FieldType := M.2.2.2.2.2
abbrev my (M : Mi) : MethodName := ⟨M.1, M.2.1, M.2.2.1⟩
def mws (M : Mi) : List Cond := Cond.code (my M) (mcc M) (mnL M) (mret M) :: gW
/-! a run of it -/
abbrev Cx : Type := Program × Launch × Env × Room × State × MethodId × Array Value × List Frame × Method × Code × va_G × (Nat → ClassId) × (Nat → Prop) × Heap
abbrev xp (X : Cx) : Program := X.1
abbrev xl (X : Cx) : Launch := X.2.1
abbrev xe (X : Cx) : Env := X.2.2.1
abbrev xR (X : Cx) : Room := X.2.2.2.1
abbrev xs (X : Cx) : State := X.2.2.2.2.1
abbrev xm (X : Cx) : MethodId := X.2.2.2.2.2.1
abbrev xa (X : Cx) : Array Value := X.2.2.2.2.2.2.1
abbrev xb (X : Cx) : List Frame := X.2.2.2.2.2.2.2.1
abbrev xme (X : Cx) : Method := X.2.2.2.2.2.2.2.2.1
abbrev xc (X : Cx) : Code := X.2.2.2.2.2.2.2.2.2.1
abbrev xD (X : Cx) : va_G := X.2.2.2.2.2.2.2.2.2.2.1
abbrev xdA (X : Cx) : Nat → ClassId := X.2.2.2.2.2.2.2.2.2.2.2.1
abbrev xA (X : Cx) : Nat → Prop := X.2.2.2.2.2.2.2.2.2.2.2.2.1
abbrev xH (X : Cx) : Heap := X.2.2.2.2.2.2.2.2.2.2.2.2.2
def XOk (M : Mi) (X : Cx) : Prop := (xp X).tables.exec = Jvm.exec ∧ (xc X).code = mcc M ∧ (xc X).maxLocals = mnL M ∧ (xs X).vm.findClass (mown M) = some (xm X).cls ∧ (∀ w ∈ gW, w.before (xa X) (xs X) = true) ∧ (xme X).locks = false ∧ (xme X).name = mnm M ∧ (xme X).sig.returnType = mret M ∧ Kn (xD X) (xdA X) (xs X) ∧ ∀ q, (xH X).size ≤ q → xA X q
def Rl (M : Mi) (X : Cx) (ad : Nat → Nat) (h : sH) (ls : List (Option Value)) (H : Heap) (locs : List Loc) (lc : Array Slot) : Prop :=
  va_P (xD X) vwCl (sw (xdA X) ad h) H ∧ va_D (xA X) (sw (xdA X) ad h) ∧ va_S (xA X) (xH X) H locs ∧ lv_has lc (mnL M) (sl ad ls)
/-- the machine, at pc with these locals and this stack over this heap, comes to a state with Q -/
def AW (M : Mi) (X : Cx) (Q : State → Prop) (ad : Nat → Nat) (k n : Nat) (h : sH) (pc : Nat) (ls : List (Option Value)) (st : List Value) : Prop :=
  XOk M X → ∀ (H : Heap) (locs : List Loc) (lc : Array Slot), Rl M X ad h ls H locs lc → W (xp X) (xl X) (xe X) (xR X) (xs X) (xm X) (xa X) (xb X) (xme X) (xc X) H locs k n Q (F0 (xm X) pc lc (st.map (sv ad)))
end
section
section A4
variable {M : Mi} {X : Cx} {Q : State → Prop} {ad : Nat → Nat} {k n : Nat} {h : sH} {pc : Nat} {ls : List (Option Value)} {st : List Value}
theorem a_iconst (v : Int32) {c : Int} (d : decode (mcc M) pc = .ok (.iconst c, 1)) (hv : Int32.ofInt c = v) (kk : AW M X Q ad k n h (pc + 1) ls (.int v :: st)) : AW M X Q ad k n h pc ls st := fun C H locs lc r => lv_iconst C.1 C.2.1 d hv (kk C H locs lc r)
theorem a_bipush (v : Int32) {c : Int} (d : decode (mcc M) pc = .ok (.bipush c, 2)) (hv : (Int8.ofInt c).toInt32 = v) (kk : AW M X Q ad k n h (pc + 2) ls (.int v :: st)) : AW M X Q ad k n h pc ls st := fun C H locs lc r => lv_bipush C.1 C.2.1 d hv (kk C H locs lc r)
theorem a_sipush (v : Int32) {c : Int} (d : decode (mcc M) pc = .ok (.sipush c, 3)) (hv : (Int16.ofInt c).toInt32 = v) (kk : AW M X Q ad k n h (pc + 3) ls (.int v :: st)) : AW M X Q ad k n h pc ls st := fun C H locs lc r => lv_sipush C.1 C.2.1 d hv (kk C H locs lc r)
theorem a_lconst (v : Int64) {c : Fin 2} (d : decode (mcc M) pc = .ok (.lconst c, 1)) (hv : Int64.ofNat (c : Nat) = v) (kk : AW M X Q ad k n h (pc + 1) ls (.long v :: st)) : AW M X Q ad k n h pc ls st := fun C H locs lc r => lv_lconst C.1 C.2.1 d hv (kk C H locs lc r)
theorem a_ldc (v : Int32) {i : Nat} (d : decode (mcc M) pc = .ok (.ldc i, 2)) (hw : Cond.constant (mown M) i v ∈ gW) (kk : AW M X Q ad k n h (pc + 2) ls (.int v :: st)) : AW M X Q ad k n h pc ls st := fun C H locs lc r => lv_ldc C.1 C.2.1 C.2.2.2.1 (C.2.2.2.2.1 _ hw) d (kk C H locs lc r)
theorem a_ldc2 (v : Int64) {i : Nat} (d : decode (mcc M) pc = .ok (.ldc2_w i, 3)) (hw : Cond.constantLong (mown M) i v ∈ gW) (kk : AW M X Q ad k n h (pc + 3) ls (.long v :: st)) : AW M X Q ad k n h pc ls st := fun C H locs lc r => lv_ldc2 C.1 C.2.1 C.2.2.2.1 (C.2.2.2.2.1 _ hw) d (kk C H locs lc r)
theorem a_iload {i : Nat} {v : Int32} (d : decode (mcc M) pc = .ok (.iload i, 2)) (hl : ls[i]? = some (some (.int v))) (kk : AW M X Q ad k n h (pc + 2) ls (.int v :: st)) : AW M X Q ad k n h pc ls st := fun C H locs lc r => lv_iload C.1 C.2.1 d (sl_at r.2.2.2 hl) (kk C H locs lc r)
theorem a_iload_n {i : Fin 4} {v : Int32} (d : decode (mcc M) pc = .ok (.iload_n i, 1)) (hl : ls[(i : Nat)]? = some (some (.int v))) (kk : AW M X Q ad k n h (pc + 1) ls (.int v :: st)) : AW M X Q ad k n h pc ls st := fun C H locs lc r => lv_iload_n C.1 C.2.1 d rfl (sl_at r.2.2.2 hl) (kk C H locs lc r)
theorem a_lload {i : Nat} {v : Int64} (d : decode (mcc M) pc = .ok (.lload i, 2)) (hl : ls[i]? = some (some (.long v))) (kk : AW M X Q ad k n h (pc + 2) ls (.long v :: st)) : AW M X Q ad k n h pc ls st := fun C H locs lc r => lv_lload C.1 C.2.1 d (sl_at r.2.2.2 hl) (kk C H locs lc r)
theorem a_lload_n {i : Fin 4} {v : Int64} (d : decode (mcc M) pc = .ok (.lload_n i, 1)) (hl : ls[(i : Nat)]? = some (some (.long v))) (kk : AW M X Q ad k n h (pc + 1) ls (.long v :: st)) : AW M X Q ad k n h pc ls st := fun C H locs lc r => lv_lload_n C.1 C.2.1 d rfl (sl_at r.2.2.2 hl) (kk C H locs lc r)
theorem a_aload {i : Nat} {v : Nat} (d : decode (mcc M) pc = .ok (.aload i, 2)) (hl : ls[i]? = some (some (.ref v))) (kk : AW M X Q ad k n h (pc + 2) ls (.ref v :: st)) : AW M X Q ad k n h pc ls st := fun C H locs lc r => lv_aload C.1 C.2.1 d (sl_at r.2.2.2 hl) (kk C H locs lc r)
theorem a_aload_n {i : Fin 4} {v : Nat} (d : decode (mcc M) pc = .ok (.aload_n i, 1)) (hl : ls[(i : Nat)]? = some (some (.ref v))) (kk : AW M X Q ad k n h (pc + 1) ls (.ref v :: st)) : AW M X Q ad k n h pc ls st := fun C H locs lc r => lv_aload_n C.1 C.2.1 d rfl (sl_at r.2.2.2 hl) (kk C H locs lc r)
theorem a_istore {i : Nat} {v : Int32} {ls' : List (Option Value)} (d : decode (mcc M) pc = .ok (.istore i, 2)) (hi : i < mnL M) (e : st1 ls i (.int v) = ls') (kk : AW M X Q ad k n h (pc + 2) ls' st) : AW M X Q ad k n h pc ls (.int v :: st) := by
  subst e
  exact fun C H locs lc r => lv_istore C.1 C.2.1 d r.2.2.2 hi rfl (fun lc' hl => kk C H locs lc' ⟨r.1, r.2.1, r.2.2.1, lv_less hl (fun q hq => st1_sub hq)⟩)
theorem a_istore_n {i : Fin 4} {v : Int32} {ls' : List (Option Value)} (d : decode (mcc M) pc = .ok (.istore_n i, 1)) (hi : (i : Nat) < mnL M) (e : st1 ls (i : Nat) (.int v) = ls') (kk : AW M X Q ad k n h (pc + 1) ls' st) : AW M X Q ad k n h pc ls (.int v :: st) := by
  subst e
  exact fun C H locs lc r => lv_istore_n C.1 C.2.1 d rfl r.2.2.2 hi rfl (fun lc' hl => kk C H locs lc' ⟨r.1, r.2.1, r.2.2.1, lv_less hl (fun q hq => st1_sub hq)⟩)
theorem a_astore {i : Nat} {v : Nat} {ls' : List (Option Value)} (d : decode (mcc M) pc = .ok (.astore i, 2)) (hi : i < mnL M) (e : st1 ls i (.ref v) = ls') (kk : AW M X Q ad k n h (pc + 2) ls' st) : AW M X Q ad k n h pc ls (.ref v :: st) := by
  subst e
  exact fun C H locs lc r => lv_astore C.1 C.2.1 d r.2.2.2 hi rfl (fun lc' hl => kk C H locs lc' ⟨r.1, r.2.1, r.2.2.1, lv_less hl (fun q hq => st1_sub hq)⟩)
theorem a_astore_n {i : Fin 4} {v : Nat} {ls' : List (Option Value)} (d : decode (mcc M) pc = .ok (.astore_n i, 1)) (hi : (i : Nat) < mnL M) (e : st1 ls (i : Nat) (.ref v) = ls') (kk : AW M X Q ad k n h (pc + 1) ls' st) : AW M X Q ad k n h pc ls (.ref v :: st) := by
  subst e
  exact fun C H locs lc r => lv_astore_n C.1 C.2.1 d rfl r.2.2.2 hi rfl (fun lc' hl => kk C H locs lc' ⟨r.1, r.2.1, r.2.2.1, lv_less hl (fun q hq => st1_sub hq)⟩)
theorem a_lstore {i : Nat} {v : Int64} {ls' : List (Option Value)} (d : decode (mcc M) pc = .ok (.lstore i, 2)) (hi : i + 1 < mnL M) (e : st2 ls i (.long v) = ls') (kk : AW M X Q ad k n h (pc + 2) ls' st) : AW M X Q ad k n h pc ls (.long v :: st) := by
  subst e
  exact fun C H locs lc r => lv_lstore C.1 C.2.1 d r.2.2.2 hi rfl (fun lc' hl => kk C H locs lc' ⟨r.1, r.2.1, r.2.2.1, lv_less hl (fun q hq => st2_sub hq)⟩)
theorem a_lstore_n {i : Fin 4} {v : Int64} {ls' : List (Option Value)} (d : decode (mcc M) pc = .ok (.lstore_n i, 1)) (hi : (i : Nat) + 1 < mnL M) (e : st2 ls (i : Nat) (.long v) = ls') (kk : AW M X Q ad k n h (pc + 1) ls' st) : AW M X Q ad k n h pc ls (.long v :: st) := by
  subst e
  exact fun C H locs lc r => lv_lstore_n C.1 C.2.1 d rfl r.2.2.2 hi rfl (fun lc' hl => kk C H locs lc' ⟨r.1, r.2.1, r.2.2.1, lv_less hl (fun q hq => st2_sub hq)⟩)
theorem a_iinc {i : Nat} {c : Int} (w : Int32) {v : Int32} {ls' : List (Option Value)} (d : decode (mcc M) pc = .ok (.iinc i c, 3)) (hw : Int32.ofInt c = w) (hl : ls[i]? = some (some (.int v))) (hi : i < mnL M) (e : st1 ls i (.int (v + w)) = ls') (kk : AW M X Q ad k n h (pc + 3) ls' st) : AW M X Q ad k n h pc ls st := by
  subst e
  subst hw
  intro C H locs lc r
  obtain ⟨q, hq⟩ := sl_at1 r.2.2.2 hl
  exact lv_iinc C.1 C.2.1 d r.2.2.2 hq rfl hi rfl (fun lc' hl => kk C H locs lc' ⟨r.1, r.2.1, r.2.2.1, lv_less hl (fun q hq => st1_sub hq)⟩)
theorem a_iadd {x y : Int32} (d : decode (mcc M) pc = .ok (.iadd, 1)) (kk : AW M X Q ad k n h (pc + 1) ls (.int (x + y) :: st)) : AW M X Q ad k n h pc ls (.int y :: .int x :: st) := fun C H locs lc r => lv_iadd C.1 C.2.1 d  (kk C H locs lc r)
theorem a_isub {x y : Int32} (d : decode (mcc M) pc = .ok (.isub, 1)) (kk : AW M X Q ad k n h (pc + 1) ls (.int (x - y) :: st)) : AW M X Q ad k n h pc ls (.int y :: .int x :: st) := fun C H locs lc r => lv_isub C.1 C.2.1 d  (kk C H locs lc r)
theorem a_imul {x y : Int32} (d : decode (mcc M) pc = .ok (.imul, 1)) (kk : AW M X Q ad k n h (pc + 1) ls (.int (x * y) :: st)) : AW M X Q ad k n h pc ls (.int y :: .int x :: st) := fun C H locs lc r => lv_imul C.1 C.2.1 d  (kk C H locs lc r)
theorem a_iand {x y : Int32} (d : decode (mcc M) pc = .ok (.iand, 1)) (kk : AW M X Q ad k n h (pc + 1) ls (.int (x &&& y) :: st)) : AW M X Q ad k n h pc ls (.int y :: .int x :: st) := fun C H locs lc r => lv_iand C.1 C.2.1 d  (kk C H locs lc r)
theorem a_ior {x y : Int32} (d : decode (mcc M) pc = .ok (.ior, 1)) (kk : AW M X Q ad k n h (pc + 1) ls (.int (x ||| y) :: st)) : AW M X Q ad k n h pc ls (.int y :: .int x :: st) := fun C H locs lc r => lv_ior C.1 C.2.1 d  (kk C H locs lc r)
theorem a_ixor {x y : Int32} (d : decode (mcc M) pc = .ok (.ixor, 1)) (kk : AW M X Q ad k n h (pc + 1) ls (.int (x ^^^ y) :: st)) : AW M X Q ad k n h pc ls (.int y :: .int x :: st) := fun C H locs lc r => lv_ixor C.1 C.2.1 d  (kk C H locs lc r)
theorem a_ishl {x y : Int32} (d : decode (mcc M) pc = .ok (.ishl, 1)) (kk : AW M X Q ad k n h (pc + 1) ls (.int (x <<< (y &&& 31)) :: st)) : AW M X Q ad k n h pc ls (.int y :: .int x :: st) := fun C H locs lc r => lv_ishl C.1 C.2.1 d  (kk C H locs lc r)
theorem a_ishr {x y : Int32} (d : decode (mcc M) pc = .ok (.ishr, 1)) (kk : AW M X Q ad k n h (pc + 1) ls (.int (x >>> (y &&& 31)) :: st)) : AW M X Q ad k n h pc ls (.int y :: .int x :: st) := fun C H locs lc r => lv_ishr C.1 C.2.1 d  (kk C H locs lc r)
theorem a_idiv {x y : Int32} (d : decode (mcc M) pc = .ok (.idiv, 1)) (hy : ¬ y = 0) (kk : AW M X Q ad k n h (pc + 1) ls (.int (x / y) :: st)) : AW M X Q ad k n h pc ls (.int y :: .int x :: st) := fun C H locs lc r => lv_idiv C.1 C.2.1 d hy (kk C H locs lc r)
theorem a_irem {x y : Int32} (d : decode (mcc M) pc = .ok (.irem, 1)) (hy : ¬ y = 0) (kk : AW M X Q ad k n h (pc + 1) ls (.int (x - x / y * y) :: st)) : AW M X Q ad k n h pc ls (.int y :: .int x :: st) := fun C H locs lc r => lv_irem C.1 C.2.1 d hy (kk C H locs lc r)
theorem a_iushr {x y : Int32} (d : decode (mcc M) pc = .ok (.iushr, 1)) (kk : AW M X Q ad k n h (pc + 1) ls (.int (x.toUInt32 >>> (y.toUInt32 &&& Int32.toUInt32 31)).toInt32 :: st)) : AW M X Q ad k n h pc ls (.int y :: .int x :: st) := fun C H locs lc r => lv_iushr C.1 C.2.1 d rfl (kk C H locs lc r)
theorem a_ineg {x : Int32} (d : decode (mcc M) pc = .ok (.ineg, 1)) (kk : AW M X Q ad k n h (pc + 1) ls (.int (-x) :: st)) : AW M X Q ad k n h pc ls (.int x :: st) := fun C H locs lc r => lv_ineg C.1 C.2.1 d  (kk C H locs lc r)
theorem a_i2l {x : Int32} (d : decode (mcc M) pc = .ok (.i2l, 1)) (kk : AW M X Q ad k n h (pc + 1) ls (.long x.toInt64 :: st)) : AW M X Q ad k n h pc ls (.int x :: st) := fun C H locs lc r => lv_i2l C.1 C.2.1 d rfl (kk C H locs lc r)
theorem a_l2i {x : Int64} (d : decode (mcc M) pc = .ok (.l2i, 1)) (kk : AW M X Q ad k n h (pc + 1) ls (.int x.toInt32 :: st)) : AW M X Q ad k n h pc ls (.long x :: st) := fun C H locs lc r => lv_l2i C.1 C.2.1 d rfl (kk C H locs lc r)
theorem a_land {x y : Int64} (d : decode (mcc M) pc = .ok (.land, 1)) (kk : AW M X Q ad k n h (pc + 1) ls (.long (x &&& y) :: st)) : AW M X Q ad k n h pc ls (.long y :: .long x :: st) := fun C H locs lc r => lv_land C.1 C.2.1 d  (kk C H locs lc r)
theorem a_lor {x y : Int64} (d : decode (mcc M) pc = .ok (.lor, 1)) (kk : AW M X Q ad k n h (pc + 1) ls (.long (x ||| y) :: st)) : AW M X Q ad k n h pc ls (.long y :: .long x :: st) := fun C H locs lc r => lv_lor C.1 C.2.1 d  (kk C H locs lc r)
theorem a_lshl {x : Int64} {y : Int32} (d : decode (mcc M) pc = .ok (.lshl, 1)) (kk : AW M X Q ad k n h (pc + 1) ls (.long (x <<< (y.toInt64 &&& 63)) :: st)) : AW M X Q ad k n h pc ls (.int y :: .long x :: st) := fun C H locs lc r => lv_lshl C.1 C.2.1 d rfl (kk C H locs lc r)
theorem a_lshr {x : Int64} {y : Int32} (d : decode (mcc M) pc = .ok (.lshr, 1)) (kk : AW M X Q ad k n h (pc + 1) ls (.long (x >>> (y.toInt64 &&& 63)) :: st)) : AW M X Q ad k n h pc ls (.int y :: .long x :: st) := fun C H locs lc r => lv_lshr C.1 C.2.1 d rfl (kk C H locs lc r)
theorem a_lcmp {x y : Int64} (d : decode (mcc M) pc = .ok (.lcmp, 1)) (kk : AW M X Q ad k n h (pc + 1) ls (.int (lg_cmp x y) :: st)) : AW M X Q ad k n h pc ls (.long y :: .long x :: st) := fun C H locs lc r => W.lcmp C.1 C.2.1 d  (kk C H locs lc r)
theorem a_dup {v : Value} (d : decode (mcc M) pc = .ok (.dup, 1)) (hv : v.category = 1) (kk : AW M X Q ad k n h (pc + 1) ls (v :: v :: st)) : AW M X Q ad k n h pc ls (v :: st) := fun C H locs lc r => lv_dup C.1 C.2.1 d ((sv_cat ad v).trans hv) (kk C H locs lc r)
theorem a_pop {v : Value} (d : decode (mcc M) pc = .ok (.pop, 1)) (hv : v.category = 1) (kk : AW M X Q ad k n h (pc + 1) ls st) : AW M X Q ad k n h pc ls (v :: st) := fun C H locs lc r => lv_pop C.1 C.2.1 d ((sv_cat ad v).trans hv) (kk C H locs lc r)
theorem a_dup2 {v w : Value} (d : decode (mcc M) pc = .ok (.dup2, 1)) (hv : v.category = 1) (hw : w.category = 1) (kk : AW M X Q ad k n h (pc + 1) ls (v :: w :: v :: w :: st)) : AW M X Q ad k n h pc ls (v :: w :: st) := fun C H locs lc r => lv_dup2_11 C.1 C.2.1 d ((sv_cat ad v).trans hv) ((sv_cat ad w).trans hw) (kk C H locs lc r)
theorem a_icmp_eq {x y : Int32} {off : Int} (tgt : Nat) (d : decode (mcc M) pc = .ok (.if_icmp .eq off, 3)) (ht : (pc : Int) + off = (tgt : Int)) (kt : x = y → AW M X Q ad k n h tgt ls st) (kf : ¬ x = y → AW M X Q ad k n h (pc + 3) ls st) : AW M X Q ad k n h pc ls (.int y :: .int x :: st) := fun C H locs lc r => lv_icmp_eq C.1 C.2.1 d ht (fun z => kt z C H locs lc r) (fun z => kf z C H locs lc r)
theorem a_if_eq {x : Int32} {off : Int} (tgt : Nat) (d : decode (mcc M) pc = .ok (.ifCond .eq off, 3)) (ht : (pc : Int) + off = (tgt : Int)) (kt : x = 0 → AW M X Q ad k n h tgt ls st) (kf : ¬ x = 0 → AW M X Q ad k n h (pc + 3) ls st) : AW M X Q ad k n h pc ls (.int x :: st) := fun C H locs lc r => lv_if_eq C.1 C.2.1 d ht (fun z => kt z C H locs lc r) (fun z => kf z C H locs lc r)
theorem a_icmp_ne {x y : Int32} {off : Int} (tgt : Nat) (d : decode (mcc M) pc = .ok (.if_icmp .ne off, 3)) (ht : (pc : Int) + off = (tgt : Int)) (kt : ¬ x = y → AW M X Q ad k n h tgt ls st) (kf : x = y → AW M X Q ad k n h (pc + 3) ls st) : AW M X Q ad k n h pc ls (.int y :: .int x :: st) := fun C H locs lc r => lv_icmp_ne C.1 C.2.1 d ht (fun z => kt z C H locs lc r) (fun z => kf z C H locs lc r)
theorem a_if_ne {x : Int32} {off : Int} (tgt : Nat) (d : decode (mcc M) pc = .ok (.ifCond .ne off, 3)) (ht : (pc : Int) + off = (tgt : Int)) (kt : ¬ x = 0 → AW M X Q ad k n h tgt ls st) (kf : x = 0 → AW M X Q ad k n h (pc + 3) ls st) : AW M X Q ad k n h pc ls (.int x :: st) := fun C H locs lc r => lv_if_ne C.1 C.2.1 d ht (fun z => kt z C H locs lc r) (fun z => kf z C H locs lc r)
theorem a_icmp_lt {x y : Int32} {off : Int} (tgt : Nat) (d : decode (mcc M) pc = .ok (.if_icmp .lt off, 3)) (ht : (pc : Int) + off = (tgt : Int)) (kt : x < y → AW M X Q ad k n h tgt ls st) (kf : ¬ x < y → AW M X Q ad k n h (pc + 3) ls st) : AW M X Q ad k n h pc ls (.int y :: .int x :: st) := fun C H locs lc r => lv_icmp_lt C.1 C.2.1 d ht (fun z => kt z C H locs lc r) (fun z => kf z C H locs lc r)
theorem a_if_lt {x : Int32} {off : Int} (tgt : Nat) (d : decode (mcc M) pc = .ok (.ifCond .lt off, 3)) (ht : (pc : Int) + off = (tgt : Int)) (kt : x < 0 → AW M X Q ad k n h tgt ls st) (kf : ¬ x < 0 → AW M X Q ad k n h (pc + 3) ls st) : AW M X Q ad k n h pc ls (.int x :: st) := fun C H locs lc r => lv_if_lt C.1 C.2.1 d ht (fun z => kt z C H locs lc r) (fun z => kf z C H locs lc r)
theorem a_icmp_ge {x y : Int32} {off : Int} (tgt : Nat) (d : decode (mcc M) pc = .ok (.if_icmp .ge off, 3)) (ht : (pc : Int) + off = (tgt : Int)) (kt : y ≤ x → AW M X Q ad k n h tgt ls st) (kf : ¬ y ≤ x → AW M X Q ad k n h (pc + 3) ls st) : AW M X Q ad k n h pc ls (.int y :: .int x :: st) := fun C H locs lc r => lv_icmp_ge C.1 C.2.1 d ht (fun z => kt z C H locs lc r) (fun z => kf z C H locs lc r)
theorem a_if_ge {x : Int32} {off : Int} (tgt : Nat) (d : decode (mcc M) pc = .ok (.ifCond .ge off, 3)) (ht : (pc : Int) + off = (tgt : Int)) (kt : 0 ≤ x → AW M X Q ad k n h tgt ls st) (kf : ¬ 0 ≤ x → AW M X Q ad k n h (pc + 3) ls st) : AW M X Q ad k n h pc ls (.int x :: st) := fun C H locs lc r => lv_if_ge C.1 C.2.1 d ht (fun z => kt z C H locs lc r) (fun z => kf z C H locs lc r)
theorem a_icmp_gt {x y : Int32} {off : Int} (tgt : Nat) (d : decode (mcc M) pc = .ok (.if_icmp .gt off, 3)) (ht : (pc : Int) + off = (tgt : Int)) (kt : y < x → AW M X Q ad k n h tgt ls st) (kf : ¬ y < x → AW M X Q ad k n h (pc + 3) ls st) : AW M X Q ad k n h pc ls (.int y :: .int x :: st) := fun C H locs lc r => lv_icmp_gt C.1 C.2.1 d ht (fun z => kt z C H locs lc r) (fun z => kf z C H locs lc r)
theorem a_if_gt {x : Int32} {off : Int} (tgt : Nat) (d : decode (mcc M) pc = .ok (.ifCond .gt off, 3)) (ht : (pc : Int) + off = (tgt : Int)) (kt : 0 < x → AW M X Q ad k n h tgt ls st) (kf : ¬ 0 < x → AW M X Q ad k n h (pc + 3) ls st) : AW M X Q ad k n h pc ls (.int x :: st) := fun C H locs lc r => lv_if_gt C.1 C.2.1 d ht (fun z => kt z C H locs lc r) (fun z => kf z C H locs lc r)
theorem a_icmp_le {x y : Int32} {off : Int} (tgt : Nat) (d : decode (mcc M) pc = .ok (.if_icmp .le off, 3)) (ht : (pc : Int) + off = (tgt : Int)) (kt : x ≤ y → AW M X Q ad k n h tgt ls st) (kf : ¬ x ≤ y → AW M X Q ad k n h (pc + 3) ls st) : AW M X Q ad k n h pc ls (.int y :: .int x :: st) := fun C H locs lc r => lv_icmp_le C.1 C.2.1 d ht (fun z => kt z C H locs lc r) (fun z => kf z C H locs lc r)
theorem a_if_le {x : Int32} {off : Int} (tgt : Nat) (d : decode (mcc M) pc = .ok (.ifCond .le off, 3)) (ht : (pc : Int) + off = (tgt : Int)) (kt : x ≤ 0 → AW M X Q ad k n h tgt ls st) (kf : ¬ x ≤ 0 → AW M X Q ad k n h (pc + 3) ls st) : AW M X Q ad k n h pc ls (.int x :: st) := fun C H locs lc r => lv_if_le C.1 C.2.1 d ht (fun z => kt z C H locs lc r) (fun z => kf z C H locs lc r)
theorem a_goto {off : Int} (tgt : Nat) (d : decode (mcc M) pc = .ok (.goto off, 3)) (ht : (pc : Int) + off = (tgt : Int)) (kk : AW M X Q ad k n h tgt ls st) : AW M X Q ad k n h pc ls st := fun C H locs lc r => lv_goto C.1 C.2.1 d ht (kk C H locs lc r)
theorem a_tabIn {dflt lo hi : Int} {offs : Array Int} {len : Nat} {x : Int32} {off : Int} (tgt : Nat) (d : decode (mcc M) pc = .ok (.tableswitch dflt lo hi offs, len)) (h1 : ¬ x.toInt < lo) (h2 : ¬ hi < x.toInt) (ho : offs[(x.toInt - lo).toNat]? = some off) (ht : (pc : Int) + off = (tgt : Int)) (kk : AW M X Q ad k n h tgt ls st) : AW M X Q ad k n h pc ls (.int x :: st) := fun C H locs lc r => lv_tableIn C.1 C.2.1 d h1 h2 ho ht (kk C H locs lc r)
theorem a_tabOut {dflt lo hi : Int} {offs : Array Int} {len : Nat} {x : Int32} (tgt : Nat) (d : decode (mcc M) pc = .ok (.tableswitch dflt lo hi offs, len)) (h1 : x.toInt < lo ∨ hi < x.toInt) (ht : (pc : Int) + dflt = (tgt : Int)) (kk : AW M X Q ad k n h tgt ls st) : AW M X Q ad k n h pc ls (.int x :: st) := fun C H locs lc r => lv_tableOut C.1 C.2.1 d h1 ht (kk C H locs lc r)
end A4
end
section
/-! STORES: numbers alone: fields, arrays of ints (of truth values too), arrays of longs; a shape S says what the cells are -/
abbrev GH : Type := (Nat → Nat → Int32) × (Nat → Nat → Int32) × (Nat → Nat → Int64)
def gF (g : GH) (a k : Nat) : Int32 := g.1 a k
def gA (g : GH) (a : Nat) : Nat → Int32 := g.2.1 a
def gL (g : GH) (a : Nat) : Nat → Int64 := g.2.2 a
def pF (g : GH) (a k : Nat) (x : Int32) : GH := (fun b j => if b = a ∧ j = k then x else g.1 b j, g.2.1, g.2.2)
def pA (g : GH) (a : Nat) (f : Nat → Int32) : GH := (g.1, fun b => if b = a then f else g.2.1 b, g.2.2)
def pL (g : GH) (a : Nat) (f : Nat → Int64) : GH := (g.1, g.2.1, fun b => if b = a then f else g.2.2 b)
theorem gF_pF (g : GH) (a k : Nat) (x : Int32) (b j : Nat) : gF (pF g a k x) b j = if b = a ∧ j = k then x else gF g b j := rfl
theorem gF_pA (g : GH) (a : Nat) (f : Nat → Int32) (b j : Nat) : gF (pA g a f) b j = gF g b j := rfl
theorem gF_pL (g : GH) (a : Nat) (f : Nat → Int64) (b j : Nat) : gF (pL g a f) b j = gF g b j := rfl
theorem gA_pF (g : GH) (a k : Nat) (x : Int32) (b : Nat) : gA (pF g a k x) b = gA g b := rfl
theorem gA_pA (g : GH) (a : Nat) (f : Nat → Int32) (b : Nat) : gA (pA g a f) b = if b = a then f else gA g b := rfl
theorem gA_pL (g : GH) (a : Nat) (f : Nat → Int64) (b : Nat) : gA (pL g a f) b = gA g b := rfl
theorem gL_pF (g : GH) (a k : Nat) (x : Int32) (b : Nat) : gL (pF g a k x) b = gL g b := rfl
theorem gL_pA (g : GH) (a : Nat) (f : Nat → Int32) (b : Nat) : gL (pA g a f) b = gL g b := rfl
theorem gL_pL (g : GH) (a : Nat) (f : Nat → Int64) (b : Nat) : gL (pL g a f) b = if b = a then f else gL g b := rfl
theorem GH_ext {g g' : GH} (h1 : ∀ a k, gF g a k = gF g' a k) (h2 : ∀ a j, gA g a j = gA g' a j) (h3 : ∀ a j, gL g a j = gL g' a j) : g = g' := Prod.ext (funext fun a => funext fun k => h1 a k) (Prod.ext (funext fun a => funext fun k => h2 a k) (funext fun a => funext fun k => h3 a k))
def cf (f : Nat → Int32) : Nat → List Value → List Value
  | _, [] => []
  | i, .int _ :: r => .int (f i) :: cf f (i + 1) r
  | i, v :: r => v :: cf f (i + 1) r
def cg (g : GH) (a : Nat) (c : sE) : sE := match c with
  | .inr x => .inr (x.1, cf (g.1 a) 0 x.2)
  | .inl (t, n, .inl _) => .inl (t, n, .inl (g.2.1 a))
  | .inl (t, n, .inr (.inl _)) => .inl (t, n, .inr (.inl (g.2.2 a)))
  | c => c
def conc (S : sH) (g : GH) : sH := (S.1, fun a => cg g a (S.2 a))
theorem cf_int {f : Nat → Int32} {x : Int32} : ∀ (l : List Value) (i k : Nat), l[k]? = some (.int x) → (cf f i l)[k]? = some (.int (f (i + k)))
  | [], i, k, h => by simp at h
  | v :: r, i, 0, h => by
    simp at h
    subst h
    simp [cf]
  | v :: r, i, k + 1, h => by
    have h2 : r[k]? = some (.int x) := by simpa using h
    have ih := cf_int (f := f) r (i + 1) k h2
    rw [show i + (k + 1) = i + 1 + k by omega]
    cases v <;> simpa [cf] using ih
theorem cf_other {f : Nat → Int32} {v : Value} (hv : ∀ x, v ≠ .int x) : ∀ (l : List Value) (i k : Nat), l[k]? = some v → (cf f i l)[k]? = some v
  | [], i, k, h => by simp at h
  | w :: r, i, 0, h => by
    simp at h
    subst h
    cases w with
    | int x => exact absurd rfl (hv x)
    | _ => simp [cf]
  | w :: r, i, k + 1, h => by
    have h2 : r[k]? = some v := by simpa using h
    have ih := cf_other (f := f) hv r (i + 1) k h2
    cases w <;> simpa [cf] using ih
theorem cf_len {f : Nat → Int32} : ∀ (l : List Value) (i : Nat), (cf f i l).length = l.length
  | [], i => rfl
  | v :: r, i => by
    have ih := cf_len (f := f) r (i + 1)
    cases v <;> simp [cf, ih]
theorem cf_set {f : Nat → Int32} {x y : Int32} : ∀ (l : List Value) (i k : Nat), l[k]? = some (.int y) → (cf f i l).set k (.int x) = cf (fun j => if j = i + k then x else f j) i l
  | [], i, k, h => by simp at h
  | v :: r, i, 0, h => by
    simp at h
    subst h
    have e : ∀ (r : List Value) (j : Nat), i < j → cf f j r = cf (fun j => if j = i then x else f j) j r := by
      intro r
      induction r with
      | nil => intro j _; rfl
      | cons w r ih =>
        intro j hj
        have h1 : ¬ j = i := by omega
        cases w <;> simp [cf, ih (j + 1) (by omega), h1]
    simp [cf]
    exact e r (i + 1) (by omega)
  | v :: r, i, k + 1, h => by
    have h2 : r[k]? = some (.int y) := by simpa using h
    have ih := cf_set (f := f) (x := x) r (i + 1) k h2
    rw [show i + 1 + k = i + (k + 1) by omega] at ih
    have h1 : ¬ i = i + (k + 1) := by omega
    cases v <;> simp [cf, ih, h1]
theorem cf_id {f g : Nat → Int32} (h : ∀ j, f j = g j) (l : List Value) (i : Nat) : cf f i l = cf g i l := by
  rw [show f = g from funext h]
/-! what a shape has at a place -/
def isI (S : sH) (a ci fi : Nat) : Bool := Nat.blt a S.1 && (match S.2 a with
  | .inr x => Nat.beq x.1 ci && (match x.2[fi]? with
    | some (.int _) => true
    | _ => false)
  | _ => false)
def rfAt (S : sH) (a ci fi : Nat) : Option Nat := match Nat.blt a S.1 with
  | true => (match S.2 a with
    | .inr x => (match Nat.beq x.1 ci with
      | true => (match x.2[fi]? with
        | some (.ref q) => some q
        | _ => none)
      | false => none)
    | _ => none)
  | false => none
def aiAt (S : sH) (a t : Nat) : Option Nat := match Nat.blt a S.1 with
  | true => (match S.2 a with
    | .inl (t', n', .inl _) => (match Nat.beq t' t && Nat.blt n' 2147483648 with
      | true => some n'
      | false => none)
    | _ => none)
  | false => none
def alAt (S : sH) (a : Nat) : Option Nat := match Nat.blt a S.1 with
  | true => (match S.2 a with
    | .inl (t', n', .inr (.inl _)) => (match Nat.beq t' 1 && Nat.blt n' 2147483648 with
      | true => some n'
      | false => none)
    | _ => none)
  | false => none
def arAt (S : sH) (a t j : Nat) : Option Nat := match Nat.blt a S.1 with
  | true => (match S.2 a with
    | .inl (t', n', .inr (.inr (.inr (.inr f)))) => (match Nat.beq t' t && (Nat.blt n' 2147483648 && Nat.blt j n') with
      | true => f j
      | false => none)
    | _ => none)
  | false => none
theorem blt_lt {a b : Nat} (h : Nat.blt a b = true) : a < b := Nat.le_of_ble_eq_true h
theorem isI_ok {S : sH} {g : GH} {a ci fi : Nat} (h : isI S a ci fi = true) : a < S.1 ∧ ∃ (sf : List Value) (y : Int32), S.2 a = .inr (ci, sf) ∧ sf[fi]? = some (.int y) ∧ (conc S g).2 a = .inr (ci, cf (g.1 a) 0 sf) ∧ (cf (g.1 a) 0 sf)[fi]? = some (.int (gF g a fi)) := by
  simp only [isI, Bool.and_eq_true] at h
  obtain ⟨h1, h2⟩ := h
  refine ⟨blt_lt h1, ?_⟩
  split at h2
  · rename_i x hx
    obtain ⟨h3, h4⟩ := Bool.and_eq_true _ _ ▸ h2
    have h3 := Nat.eq_of_beq_eq_true h3
    split at h4
    · rename_i y hy
      obtain ⟨c, sf⟩ := x
      simp only at h3 hy
      subst h3
      refine ⟨sf, y, hx, hy, ?_, ?_⟩
      · show cg g a (S.2 a) = _
        rw [hx]
        rfl
      · have := cf_int (f := g.1 a) sf 0 fi hy
        rwa [Nat.zero_add] at this
    · cases h4
  · cases h2
theorem isR_ok {S : sH} {g : GH} {a ci fi r : Nat} (h : rfAt S a ci fi = some r) : a < S.1 ∧ ∃ (sf : List Value), S.2 a = .inr (ci, sf) ∧ sf[fi]? = some (.ref r) ∧ (conc S g).2 a = .inr (ci, cf (g.1 a) 0 sf) ∧ (cf (g.1 a) 0 sf)[fi]? = some (.ref r) := by
  unfold rfAt at h
  split at h
  · rename_i h1
    refine ⟨blt_lt h1, ?_⟩
    split at h
    · rename_i x hx
      split at h
      · rename_i h3
        have h3 := Nat.eq_of_beq_eq_true h3
        split at h
        · rename_i y hy
          obtain ⟨c, sf⟩ := x
          cases h
          simp only at h3 hy
          subst h3
          refine ⟨sf, hx, hy, ?_, ?_⟩
          · show cg g a (S.2 a) = _
            rw [hx]
            rfl
          · exact cf_other (fun x q => by cases q) sf 0 fi hy
        · cases h
      · cases h
    · cases h
  · cases h
theorem arI_ok {S : sH} {g : GH} {a t n : Nat} (h : aiAt S a t = some n) : a < S.1 ∧ n < 2147483648 ∧ (∃ z, S.2 a = .inl (t, n, .inl z)) ∧ (conc S g).2 a = .inl (t, n, .inl (gA g a)) := by
  unfold aiAt at h
  split at h
  · rename_i h1
    refine ⟨blt_lt h1, ?_⟩
    split at h
    · rename_i t' n' z hx
      split at h
      · rename_i h2
        obtain ⟨h3, h4⟩ := Bool.and_eq_true _ _ ▸ h2
        have h3 := Nat.eq_of_beq_eq_true h3
        subst h3
        cases h
        refine ⟨blt_lt h4, ⟨z, hx⟩, ?_⟩
        show cg g a (S.2 a) = _
        rw [hx]
        rfl
      · cases h
    · cases h
  · cases h
theorem arL_ok {S : sH} {g : GH} {a n : Nat} (h : alAt S a = some n) : a < S.1 ∧ n < 2147483648 ∧ (∃ z, S.2 a = .inl (1, n, .inr (.inl z))) ∧ (conc S g).2 a = .inl (1, n, .inr (.inl (gL g a))) := by
  unfold alAt at h
  split at h
  · rename_i h1
    refine ⟨blt_lt h1, ?_⟩
    split at h
    · rename_i t' n' z hx
      split at h
      · rename_i h2
        obtain ⟨h3, h4⟩ := Bool.and_eq_true _ _ ▸ h2
        have h3 := Nat.eq_of_beq_eq_true h3
        subst h3
        cases h
        refine ⟨blt_lt h4, ⟨z, hx⟩, ?_⟩
        show cg g a (S.2 a) = _
        rw [hx]
        rfl
      · cases h
    · cases h
  · cases h
theorem arR_ok {S : sH} {g : GH} {a t j r : Nat} (h : arAt S a t j = some r) : a < S.1 ∧ ∃ n, n < 2147483648 ∧ j < n ∧ ∃ f : Nat → Option Nat, (conc S g).2 a = .inl (t, n, .inr (.inr (.inr (.inr f)))) ∧ f j = some r := by
  unfold arAt at h
  split at h
  · rename_i h1
    refine ⟨blt_lt h1, ?_⟩
    split at h
    · rename_i t' n' f hx
      split at h
      · rename_i h2
        simp only [Bool.and_eq_true] at h2
        obtain ⟨h3, h4, h5⟩ := h2
        have h3 := Nat.eq_of_beq_eq_true h3
        subst h3
        refine ⟨n', blt_lt h4, blt_lt h5, f, ?_, h⟩
        show cg g a (S.2 a) = _
        rw [hx]
        rfl
      · cases h
    · cases h
  · cases h
theorem conc_pF {S : sH} {g : GH} {a ci fi : Nat} {sf : List Value} {y : Int32} (x : Int32) (h1 : S.2 a = .inr (ci, sf)) (h2 : sf[fi]? = some (.int y)) : ((conc S g).1, va_up (conc S g).2 a (.inr (ci, (cf (g.1 a) 0 sf).set fi (.int x)))) = conc S (pF g a fi x) := by
  refine Prod.ext rfl (funext fun b => ?_)
  show va_up (conc S g).2 a _ b = cg (pF g a fi x) b (S.2 b)
  by_cases e : b = a
  · subst e
    rw [h1]
    simp only [va_up, if_pos, cg]
    rw [cf_set (f := g.1 b) (x := x) sf 0 fi h2]
    simp only [Nat.zero_add]
    congr 2
    refine cf_id (fun j => ?_) sf 0
    simp [pF]
  · simp only [va_up, if_neg e]
    show cg g b (S.2 b) = _
    have e2 : (pF g a fi x).1 b = g.1 b := funext fun j => by simp [pF, e]
    unfold cg
    rw [e2]
    rfl
theorem conc_pA {S : sH} {g : GH} {a t n : Nat} {z : Nat → Int32} (f : Nat → Int32) (h1 : S.2 a = .inl (t, n, .inl z)) : ((conc S g).1, va_up (conc S g).2 a (.inl (t, n, .inl f))) = conc S (pA g a f) := by
  refine Prod.ext rfl (funext fun b => ?_)
  show va_up (conc S g).2 a _ b = cg (pA g a f) b (S.2 b)
  by_cases e : b = a
  · subst e
    rw [h1]
    simp [va_up, cg, pA]
  · simp only [va_up, if_neg e]
    show cg g b (S.2 b) = _
    have e2 : (pA g a f).2.1 b = g.2.1 b := by simp [pA, e]
    unfold cg
    rw [e2]
    rfl
theorem conc_pL {S : sH} {g : GH} {a n : Nat} {z : Nat → Int64} (f : Nat → Int64) (h1 : S.2 a = .inl (1, n, .inr (.inl z))) : ((conc S g).1, va_up (conc S g).2 a (.inl (1, n, .inr (.inl f)))) = conc S (pL g a f) := by
  refine Prod.ext rfl (funext fun b => ?_)
  show va_up (conc S g).2 a _ b = cg (pL g a f) b (S.2 b)
  by_cases e : b = a
  · subst e
    rw [h1]
    simp [va_up, cg, pL]
  · simp only [va_up, if_neg e]
    show cg g b (S.2 b) = _
    have e2 : (pL g a f).2.2 b = g.2.2 b := by simp [pL, e]
    unfold cg
    rw [e2]
    rfl
/-! links of fields -/
def Cls (ci : Nat) (C : String) (T : u_T) (N : Nat) (ty : Nat → FieldType) : Prop := vwCl[ci]? = some (C, T, N) ∧ (∀ w ∈ u_ws C T N, w ∈ gW) ∧ (∀ k, k < N → parseFieldDescriptor (T k).2.2.1 = some (ty k)) ∧ ∀ a, a < N → ∀ b, b < N → a ≠ b → (T a).2.1 ≠ (T b).2.1
def Flk (own : String) (idx ci fi : Nat) (fin : Bool) (ty : FieldType) : Prop := ∃ (C : String) (T : u_T) (N : Nat) (ty0 : Nat → FieldType), Cls ci C T N ty0 ∧ fi < N ∧ Cond.fieldLink own idx (T fi).1 (T fi).2.1 (T fi).2.2.1 ∈ gW ∧ (T fi).2.2.2 = fin ∧ ty0 fi = ty
def FlkF (own : String) (idx ci fi : Nat) (ty : FieldType) : Prop := ∃ (C : String) (T : u_T) (N : Nat) (ty0 : Nat → FieldType), Cls ci C T N ty0 ∧ fi < N ∧ Cond.fieldLink own idx (T fi).1 (T fi).2.1 (T fi).2.2.1 ∈ gW ∧ (T fi).2.2.2 = true ∧ ty0 fi = ty ∧ (T fi).1 = own
section A5
variable {M : Mi} {X : Cx} {Q : State → Prop} {ad : Nat → Nat} {k n : Nat} {h : sH} {S : sH} {g : GH} {pc : Nat} {ls : List (Option Value)} {st : List Value}
theorem h_getf {a idx ci fi : Nat} {fin : Bool} {ty : FieldType} {fs : List Value} {v : Value} (d : decode (mcc M) pc = .ok (.getfield idx, 3)) (F : Flk (mown M) idx ci fi fin ty) (ha : a < h.1) (hc : h.2 a = .inr (ci, fs)) (hv : fs[fi]? = some v) (kk : AW M X Q ad k n h (pc + 3) ls (v :: st)) : AW M X Q ad k n h pc ls (.ref a :: st) := by
  obtain ⟨C0, T, N, ty0, K, hk, hl, -, -⟩ := F
  exact fun C H locs lc r => va_get (D := xD X) (ci := ci) (v := sv ad v) (C := C0) (T := T) (N := N) C.1 C.2.1 C.2.2.2.2.1 K.2.1 C.2.2.2.1 C.2.2.2.2.2.2.2.2.1.1 r.1 a (by rw [sw_at ha, hc]; rfl) K.1 fi hk (C.2.2.2.2.1 _ hl) (fun _ z => z) (sv_at hv) d (kk C H locs lc r)
theorem h_putf {a idx ci fi : Nat} {ty : FieldType} {fs : List Value} {v : Value} (d : decode (mcc M) pc = .ok (.putfield idx, 3)) (F : Flk (mown M) idx ci fi false ty) (ha : a < h.1) (hc : h.2 a = .inr (ci, fs)) (hl : fi < fs.length) (hn : narrow ty (sv ad v) = sv ad v) (hf : fits ty (sv ad v) = true) (kk : AW M X Q ad k n (h.1, va_up h.2 a (.inr (ci, fs.set fi v))) (pc + 3) ls st) : AW M X Q ad k n h pc ls (v :: .ref a :: st) := by
  obtain ⟨C0, T, N, ty0, K, hk, hlk, hfin, hty⟩ := F
  intro C H locs lc r
  refine va_put (D := xD X) (ci := ci) (v := sv ad v) (ty := ty) (C := C0) (T := T) (N := N) C.1 C.2.1 C.2.2.2.2.1 K.2.1 ty0 K.2.2.1 K.2.2.2 C.2.2.2.1 C.2.2.2.2.2.2.2.2.1.1 r.1 r.2.1 r.2.2.1 a (fs := fs.map (sv ad)) (by rw [sw_at ha, hc]; rfl) K.1 fi hk (C.2.2.2.2.1 _ hlk) (fun _ z => z) hfin (by rw [K.2.2.1 fi hk, hty]) hn hf (by simpa using hl) d (fun H1 locs1 hP hD hS => ?_)
  have e : (sw (xdA X) ad h).set a (ad a, .inr (ci, (fs.map (sv ad)).set fi (sv ad v))) = sw (xdA X) ad (h.1, va_up h.2 a (.inr (ci, fs.set fi v))) := by
    rw [← sw_set ha, sv_map_set]
    rfl
  rw [e] at hP hD
  exact kk C H1 locs1 lc ⟨hP, hD, hS, r.2.2.2⟩
theorem h_putF {a idx ci fi : Nat} {ty : FieldType} {fs : List Value} {v : Value} (d : decode (mcc M) pc = .ok (.putfield idx, 3)) (F : FlkF (mown M) idx ci fi ty) (hi : mnm M = "<init>") (ha : a < h.1) (hc : h.2 a = .inr (ci, fs)) (hl : fi < fs.length) (hn : narrow ty (sv ad v) = sv ad v) (hf : fits ty (sv ad v) = true) (kk : AW M X Q ad k n (h.1, va_up h.2 a (.inr (ci, fs.set fi v))) (pc + 3) ls st) : AW M X Q ad k n h pc ls (v :: .ref a :: st) := by
  obtain ⟨C0, T, N, ty0, K, hk, hlk, hfin, hty, hd⟩ := F
  intro C H locs lc r
  refine va_putF (D := xD X) (ci := ci) (v := sv ad v) (ty := ty) (C := C0) (T := T) (N := N) C.1 C.2.1 C.2.2.2.2.1 K.2.1 ty0 K.2.2.1 K.2.2.2 C.2.2.2.1 C.2.2.2.2.2.2.2.2.1.1 r.1 r.2.1 r.2.2.1 a (fs := fs.map (sv ad)) (by rw [sw_at ha, hc]; rfl) K.1 fi hk (C.2.2.2.2.1 _ hlk) (fun _ z => z) hfin (C.2.2.2.2.2.2.1.trans hi) hd (by rw [K.2.2.1 fi hk, hty]) hn hf (by simpa using hl) d (fun H1 locs1 hP hD hS => ?_)
  have e : (sw (xdA X) ad h).set a (ad a, .inr (ci, (fs.map (sv ad)).set fi (sv ad v))) = sw (xdA X) ad (h.1, va_up h.2 a (.inr (ci, fs.set fi v))) := by
    rw [← sw_set ha, sv_map_set]
    rfl
  rw [e] at hP hD
  exact kk C H1 locs1 lc ⟨hP, hD, hS, r.2.2.2⟩
/-! rows over stores -/
theorem a_gi {a idx ci fi : Nat} {fin : Bool} {ty : FieldType} (d : decode (mcc M) pc = .ok (.getfield idx, 3)) (F : Flk (mown M) idx ci fi fin ty) (e : isI S a ci fi = true) (kk : AW M X Q ad k n (conc S g) (pc + 3) ls (.int (gF g a fi) :: st)) : AW M X Q ad k n (conc S g) pc ls (.ref a :: st) := by
  obtain ⟨ha, sf, y, h1, h2, h3, h4⟩ := isI_ok (g := g) e
  exact h_getf d F ha h3 h4 kk
theorem a_gr {a idx ci fi r : Nat} {fin : Bool} {ty : FieldType} (d : decode (mcc M) pc = .ok (.getfield idx, 3)) (F : Flk (mown M) idx ci fi fin ty) (e : rfAt S a ci fi = some r) (kk : AW M X Q ad k n (conc S g) (pc + 3) ls (.ref r :: st)) : AW M X Q ad k n (conc S g) pc ls (.ref a :: st) := by
  obtain ⟨ha, sf, h1, h2, h3, h4⟩ := isR_ok (g := g) e
  exact h_getf d F ha h3 h4 kk
theorem a_pi {a idx ci fi : Nat} {x : Int32} (d : decode (mcc M) pc = .ok (.putfield idx, 3)) (F : Flk (mown M) idx ci fi false .int) (e : isI S a ci fi = true) (kk : AW M X Q ad k n (conc S (pF g a fi x)) (pc + 3) ls st) : AW M X Q ad k n (conc S g) pc ls (.int x :: .ref a :: st) := by
  obtain ⟨ha, sf, y, h1, h2, h3, h4⟩ := isI_ok (g := g) e
  have hl : fi < (cf (g.1 a) 0 sf).length := (List.getElem?_eq_some_iff.mp h4).1
  refine h_putf d F ha h3 hl rfl rfl ?_
  rw [conc_pF x h1 h2]
  exact kk
theorem a_pz {a idx ci fi : Nat} {x : Int32} (d : decode (mcc M) pc = .ok (.putfield idx, 3)) (F : Flk (mown M) idx ci fi false .boolean) (hx : x = 0 ∨ x = 1) (e : isI S a ci fi = true) (kk : AW M X Q ad k n (conc S (pF g a fi x)) (pc + 3) ls st) : AW M X Q ad k n (conc S g) pc ls (.int x :: .ref a :: st) := by
  obtain ⟨ha, sf, y, h1, h2, h3, h4⟩ := isI_ok (g := g) e
  have hl : fi < (cf (g.1 a) 0 sf).length := (List.getElem?_eq_some_iff.mp h4).1
  refine h_putf d F ha h3 hl (by rcases hx with rfl | rfl <;> rfl) (by rcases hx with rfl | rfl <;> rfl) ?_
  rw [conc_pF x h1 h2]
  exact kk
theorem conc_pR {S : sH} {g : GH} {a ci fi r : Nat} {sf : List Value} (h1 : S.2 a = .inr (ci, sf)) (h2 : ∀ x, sf[fi]? ≠ some (.int x)) : ((conc S g).1, va_up (conc S g).2 a (.inr (ci, (cf (g.1 a) 0 sf).set fi (.ref r)))) = conc (S.1, va_up S.2 a (.inr (ci, sf.set fi (.ref r)))) g := by
  refine Prod.ext rfl (funext fun b => ?_)
  show va_up (conc S g).2 a _ b = cg g b (va_up S.2 a _ b)
  by_cases e : b = a
  · subst e
    simp only [va_up, if_pos, cg]
    congr 2
    have key : ∀ (l : List Value) (i k : Nat), (∀ x, l[k]? ≠ some (.int x)) → (cf (g.1 b) i l).set k (.ref r) = cf (g.1 b) i (l.set k (.ref r)) := by
      intro l
      induction l with
      | nil => intro i k _; rfl
      | cons v l ih =>
        intro i k hk
        cases k with
        | zero =>
          cases v with
          | int x => exact absurd rfl (hk x)
          | _ => simp [cf]
        | succ k =>
          have h3 := ih (i + 1) k (fun x => by simpa using hk x)
          cases v <;> simp [cf, h3]
    exact key sf 0 fi h2
  · simp only [va_up, if_neg e]
    rfl
theorem h_ial {a m : Nat} {f : Nat → Int32} {i : Int32} (d : decode (mcc M) pc = .ok (.iaload, 1)) (ha : a < h.1) (hc : h.2 a = .inl (0, m, .inl f)) (hin : vp_in i m) (kk : AW M X Q ad k n h (pc + 1) ls (.int (f i.toNatClampNeg) :: st)) : AW M X Q ad k n h pc ls (.int i :: .ref a :: st) :=
  fun C H locs lc r => va_iald C.1 C.2.1 C.2.2.2.2.2.2.2.2.1.1 r.1 a 0 (by rw [sw_at ha, hc]; rfl) rfl hin d (kk C H locs lc r)
theorem h_zal {a m : Nat} {f : Nat → Int32} {i : Int32} (d : decode (mcc M) pc = .ok (.baload, 1)) (ha : a < h.1) (hc : h.2 a = .inl (2, m, .inl f)) (hin : vp_in i m) (kk : AW M X Q ad k n h (pc + 1) ls (.int (f i.toNatClampNeg) :: st)) : AW M X Q ad k n h pc ls (.int i :: .ref a :: st) :=
  fun C H locs lc r => va_zald C.1 C.2.1 C.2.2.2.2.2.2.2.2.1.1 r.1 a 2 (by rw [sw_at ha, hc]; rfl) rfl hin d (kk C H locs lc r)
theorem h_lal {a m : Nat} {f : Nat → Int64} {i : Int32} (d : decode (mcc M) pc = .ok (.laload, 1)) (ha : a < h.1) (hc : h.2 a = .inl (1, m, .inr (.inl f))) (hin : vp_in i m) (kk : AW M X Q ad k n h (pc + 1) ls (.long (f i.toNatClampNeg) :: st)) : AW M X Q ad k n h pc ls (.int i :: .ref a :: st) :=
  fun C H locs lc r => va_lald C.1 C.2.1 C.2.2.2.2.2.2.2.2.1.1 r.1 a 1 (by rw [sw_at ha, hc]; rfl) rfl hin d (kk C H locs lc r)
theorem h_ast {a m : Nat} {f : Nat → Int32} {i x : Int32} (d : decode (mcc M) pc = .ok (.iastore, 1)) (ha : a < h.1) (hc : h.2 a = .inl (0, m, .inl f)) (hin : vp_in i m) (kk : AW M X Q ad k n (h.1, va_up h.2 a (.inl (0, m, .inl (upd f i.toNatClampNeg x)))) (pc + 1) ls st) : AW M X Q ad k n h pc ls (.int x :: .int i :: .ref a :: st) := by
  intro C H locs lc r
  refine va_iast C.1 C.2.1 C.2.2.2.2.2.2.2.2.1.1 r.1 r.2.1 r.2.2.1 a 0 (cA := xdA X 0) (n := m) (f := f) (by rw [sw_at ha, hc]; rfl) rfl hin d (fun H1 locs1 hP hD hS => ?_)
  have e := sw_set (dA := xdA X) (ad := ad) (h := h) (a := a) (c := .inl (0, m, .inl (upd f i.toNatClampNeg x))) ha
  exact kk C H1 locs1 lc ⟨e ▸ hP, e ▸ hD, hS, r.2.2.2⟩
theorem h_zst {a m : Nat} {f : Nat → Int32} {i x : Int32} (d : decode (mcc M) pc = .ok (.bastore, 1)) (ha : a < h.1) (hc : h.2 a = .inl (2, m, .inl f)) (hin : vp_in i m) (hx : x = 0 ∨ x = 1) (kk : AW M X Q ad k n (h.1, va_up h.2 a (.inl (2, m, .inl (upd f i.toNatClampNeg x)))) (pc + 1) ls st) : AW M X Q ad k n h pc ls (.int x :: .int i :: .ref a :: st) := by
  intro C H locs lc r
  refine va_zast C.1 C.2.1 C.2.2.2.2.2.2.2.2.1.1 r.1 r.2.1 r.2.2.1 a 2 (cA := xdA X 2) (n := m) (f := f) (by rw [sw_at ha, hc]; rfl) rfl hin d (fun H1 locs1 hP hD hS => ?_)
  have ex : vp_nar .boolean x = x := by rcases hx with rfl | rfl <;> rfl
  rw [ex] at hP hD
  have e := sw_set (dA := xdA X) (ad := ad) (h := h) (a := a) (c := .inl (2, m, .inl (upd f i.toNatClampNeg x))) ha
  exact kk C H1 locs1 lc ⟨e ▸ hP, e ▸ hD, hS, r.2.2.2⟩
theorem h_lst {a m : Nat} {f : Nat → Int64} {i : Int32} {x : Int64} (d : decode (mcc M) pc = .ok (.lastore, 1)) (ha : a < h.1) (hc : h.2 a = .inl (1, m, .inr (.inl f))) (hin : vp_in i m) (kk : AW M X Q ad k n (h.1, va_up h.2 a (.inl (1, m, .inr (.inl (vp_updL f i.toNatClampNeg x))))) (pc + 1) ls st) : AW M X Q ad k n h pc ls (.long x :: .int i :: .ref a :: st) := by
  intro C H locs lc r
  refine va_last C.1 C.2.1 C.2.2.2.2.2.2.2.2.1.1 r.1 r.2.1 r.2.2.1 a 1 (cA := xdA X 1) (n := m) (f := f) (by rw [sw_at ha, hc]; rfl) rfl hin d (fun H1 locs1 hP hD hS => ?_)
  have e := sw_set (dA := xdA X) (ad := ad) (h := h) (a := a) (c := .inl (1, m, .inr (.inl (vp_updL f i.toNatClampNeg x)))) ha
  exact kk C H1 locs1 lc ⟨e ▸ hP, e ▸ hD, hS, r.2.2.2⟩
theorem a_ial {a m : Nat} {i : Int32} (j : Nat) (d : decode (mcc M) pc = .ok (.iaload, 1)) (e : aiAt S a 0 = some m) (hi : i = nI j) (hj : j < m) (kk : AW M X Q ad k n (conc S g) (pc + 1) ls (.int (gA g a j) :: st)) : AW M X Q ad k n (conc S g) pc ls (.int i :: .ref a :: st) := by
  obtain ⟨ha, hm, hz, h3⟩ := arI_ok (g := g) e
  subst hi
  refine h_ial d ha h3 (vp_in_nI hj hm) ?_
  rw [nI_clamp (by omega)]
  exact kk
theorem a_zal {a m : Nat} {i : Int32} (j : Nat) (d : decode (mcc M) pc = .ok (.baload, 1)) (e : aiAt S a 2 = some m) (hi : i = nI j) (hj : j < m) (kk : AW M X Q ad k n (conc S g) (pc + 1) ls (.int (gA g a j) :: st)) : AW M X Q ad k n (conc S g) pc ls (.int i :: .ref a :: st) := by
  obtain ⟨ha, hm, hz, h3⟩ := arI_ok (g := g) e
  subst hi
  refine h_zal d ha h3 (vp_in_nI hj hm) ?_
  rw [nI_clamp (by omega)]
  exact kk
theorem a_lal {a m : Nat} {i : Int32} (j : Nat) (d : decode (mcc M) pc = .ok (.laload, 1)) (e : alAt S a = some m) (hi : i = nI j) (hj : j < m) (kk : AW M X Q ad k n (conc S g) (pc + 1) ls (.long (gL g a j) :: st)) : AW M X Q ad k n (conc S g) pc ls (.int i :: .ref a :: st) := by
  obtain ⟨ha, hm, hz, h3⟩ := arL_ok (g := g) e
  subst hi
  refine h_lal d ha h3 (vp_in_nI hj hm) ?_
  rw [nI_clamp (by omega)]
  exact kk
theorem a_ast {a m : Nat} {i x : Int32} (j : Nat) (d : decode (mcc M) pc = .ok (.iastore, 1)) (e : aiAt S a 0 = some m) (hi : i = nI j) (hj : j < m) (kk : AW M X Q ad k n (conc S (pA g a (upd (gA g a) j x))) (pc + 1) ls st) : AW M X Q ad k n (conc S g) pc ls (.int x :: .int i :: .ref a :: st) := by
  obtain ⟨ha, hm, ⟨z, hz⟩, h3⟩ := arI_ok (g := g) e
  subst hi
  refine h_ast d ha h3 (vp_in_nI hj hm) ?_
  rw [nI_clamp (by omega), conc_pA _ hz]
  exact kk
theorem a_zst {a m : Nat} {i x : Int32} (j : Nat) (d : decode (mcc M) pc = .ok (.bastore, 1)) (e : aiAt S a 2 = some m) (hi : i = nI j) (hj : j < m) (hx : x = 0 ∨ x = 1) (kk : AW M X Q ad k n (conc S (pA g a (upd (gA g a) j x))) (pc + 1) ls st) : AW M X Q ad k n (conc S g) pc ls (.int x :: .int i :: .ref a :: st) := by
  obtain ⟨ha, hm, ⟨z, hz⟩, h3⟩ := arI_ok (g := g) e
  subst hi
  refine h_zst d ha h3 (vp_in_nI hj hm) hx ?_
  rw [nI_clamp (by omega), conc_pA _ hz]
  exact kk
theorem a_lst {a m : Nat} {i : Int32} {x : Int64} (j : Nat) (d : decode (mcc M) pc = .ok (.lastore, 1)) (e : alAt S a = some m) (hi : i = nI j) (hj : j < m) (kk : AW M X Q ad k n (conc S (pL g a (vp_updL (gL g a) j x))) (pc + 1) ls st) : AW M X Q ad k n (conc S g) pc ls (.long x :: .int i :: .ref a :: st) := by
  obtain ⟨ha, hm, ⟨z, hz⟩, h3⟩ := arL_ok (g := g) e
  subst hi
  refine h_lst d ha h3 (vp_in_nI hj hm) ?_
  rw [nI_clamp (by omega), conc_pL _ hz]
  exact kk
theorem h_aal {a t m : Nat} {f : Nat → Option Nat} {i : Int32} {r : Nat} (ht : t = 3 ∨ t = 4) (d : decode (mcc M) pc = .ok (.aaload, 1)) (ha : a < h.1) (hc : h.2 a = .inl (t, m, .inr (.inr (.inr (.inr f))))) (hin : vp_in i m) (hr : f i.toNatClampNeg = some r) (kk : AW M X Q ad k n h (pc + 1) ls (.ref r :: st)) : AW M X Q ad k n h pc ls (.int i :: .ref a :: st) := by
  intro C H locs lc w
  have hlt : i.toNatClampNeg < m := Nat.not_le.mp fun q => hin (Or.inr q)
  have hcell : (sw (xdA X) ad h)[a]? = some (ad a, .inl (xdA X t, m, .inr (.inr (.inr (.inr (fun j => (f j).map ad)))))) := by rw [sw_at ha, hc]; rfl
  have hv : (arrV (xdA X t) m (fun j => va_rf ((f j).map ad))).slots[i.toNatClampNeg]? = some (.ref (ad r)) := by rw [arrV_read _ _ hlt, hr]; rfl
  rcases ht with rfl | rfl
  · exact W.aald (v := .ref (ad r)) (ty := .object "OrderedDisc$Kind") C.1 C.2.1 (w.1 a _ hcell) ((C.2.2.2.2.2.2.2.2.1.1.2 3 _ rfl).1 m (fun j => va_rf ((f j).map ad))) rfl (fun q => by cases q) (by show ¬ (i < 0 ∨ (arrV _ _ _).slots.size ≤ _); rw [arrV_size]; exact hin) hv rfl rfl d (kk C H locs lc w)
  · exact W.aald (v := .ref (ad r)) (ty := .array .int) C.1 C.2.1 (w.1 a _ hcell) ((C.2.2.2.2.2.2.2.2.1.1.2 4 _ rfl).1 m (fun j => va_rf ((f j).map ad))) rfl (fun q => by cases q) (by show ¬ (i < 0 ∨ (arrV _ _ _).slots.size ≤ _); rw [arrV_size]; exact hin) hv rfl rfl d (kk C H locs lc w)
theorem a_aal {a r : Nat} {i : Int32} (t j : Nat) (ht : t = 3 ∨ t = 4) (d : decode (mcc M) pc = .ok (.aaload, 1)) (e : arAt S a t j = some r) (hi : i = nI j) (kk : AW M X Q ad k n (conc S g) (pc + 1) ls (.ref r :: st)) : AW M X Q ad k n (conc S g) pc ls (.int i :: .ref a :: st) := by
  obtain ⟨ha, m, hm, hj, f, h3, h4⟩ := arR_ok (g := g) e
  subst hi
  exact h_aal ht d ha h3 (vp_in_nI hj hm) (by rw [nI_clamp (by omega)]; exact h4) kk
theorem h_alen {a t m : Nat} {x : (Nat → Int32) ⊕ (Nat → Int64) ⊕ (Nat → UInt32) ⊕ (Nat → UInt64) ⊕ (Nat → Option Nat)} (ht : t < 5) (d : decode (mcc M) pc = .ok (.arraylength, 1)) (ha : a < h.1) (hc : h.2 a = .inl (t, m, x)) (kk : AW M X Q ad k n h (pc + 1) ls (.int (nI m) :: st)) : AW M X Q ad k n h pc ls (.ref a :: st) := by
  intro C H locs lc w
  have hcell : (sw (xdA X) ad h)[a]? = some (ad a, .inl (xdA X t, sa ad (m, x))) := by rw [sw_at ha, hc]; rfl
  obtain ⟨ty, hty⟩ : ∃ ty, (sT (xdA X))[t]? = some (xdA X t, ty) := by
    match t, ht with
    | 0, _ => exact ⟨_, rfl⟩
    | 1, _ => exact ⟨_, rfl⟩
    | 2, _ => exact ⟨_, rfl⟩
    | 3, _ => exact ⟨_, rfl⟩
    | 4, _ => exact ⟨_, rfl⟩
  refine va_alen C.1 C.2.1 C.2.2.2.2.2.2.2.2.1.1 w.1 a t hcell hty (v := nI m) ?_ d (kk C H locs lc w)
  have : (sa ad (m, x)).1 = m := by
    unfold sa
    split
    · rename_i e
      cases e
      rfl
    · rfl
  rw [this]
  rfl
end A5
end
section
/-! CONTRACTS over stores, and calls -/
def rmD (d : Nat) : Room := { frames := d, cells := 0, slots := 0, locals := 64 * d }
def Wd (D : va_G) (dA : Nat → ClassId) (ad : Nat → Nat) (S : sH) (g : GH) (sz : Nat) (U : State) : Prop := U.heap.size = sz ∧ va_P D vwCl (sw dA ad (conc S g)) U.heap ∧ Kn D dA U ∧ va_D (fun _ => True) (sw dA ad (conc S g))
def Bd (D : va_G) (dA : Nat → ClassId) (ad : Nat → Nat) (S : sH) (g : GH) (sz : Nat) (u : sH × GH) (t : State) : Prop := u.1.1 = S.1 ∧ va_P D vwCl (sw dA ad (conc u.1 u.2)) t.heap ∧ va_D (va_A (sw dA ad (conc S g)) sz) (sw dA ad (conc u.1 u.2))
def ACi (M : Mi) (d : Nat) (S : sH) (g : GH) (vs : List Value) (Po : Int32 → sH → GH → Prop) : Prop := ∀ (l : Launch) (D : va_G) (dA : Nat → ClassId) (ad : Nat → Nat) (sz : Nat), Met l (my M) (mws M) (rmD d) (va_Pc (vs.map (sv ad)) (Wd D dA ad S g sz)) (va_Qi (fun r (u : sH × GH) => Po r u.1 u.2) (Bd D dA ad S g sz) (va_A (sw dA ad (conc S g)) sz)) 0 0 (va_A (sw dA ad (conc S g)) sz)
def ACl (M : Mi) (d : Nat) (S : sH) (g : GH) (vs : List Value) (Po : Int64 → sH → GH → Prop) : Prop := ∀ (l : Launch) (D : va_G) (dA : Nat → ClassId) (ad : Nat → Nat) (sz : Nat), Met l (my M) (mws M) (rmD d) (va_Pc (vs.map (sv ad)) (Wd D dA ad S g sz)) (va_Ql (fun r (u : sH × GH) => Po r u.1 u.2) (Bd D dA ad S g sz) (va_A (sw dA ad (conc S g)) sz)) 0 0 (va_A (sw dA ad (conc S g)) sz)
def ACv (M : Mi) (d : Nat) (S : sH) (g : GH) (vs : List Value) (Po : sH → GH → Prop) : Prop := ∀ (l : Launch) (D : va_G) (dA : Nat → ClassId) (ad : Nat → Nat) (sz : Nat), Met l (my M) (mws M) (rmD d) (va_Pc (vs.map (sv ad)) (Wd D dA ad S g sz)) (va_Qv (fun (u : sH × GH) => Po u.1 u.2) (Bd D dA ad S g sz) (va_A (sw dA ad (conc S g)) sz)) 0 0 (va_A (sw dA ad (conc S g)) sz)
theorem Wd.blind {D : va_G} {dA : Nat → ClassId} {ad : Nat → Nat} {S : sH} {g : GH} {sz : Nat} {vs : List Value} : FrameBlind (va_Pc (vs.map (sv ad)) (Wd D dA ad S g sz)) := fun _ U _ _ q => ⟨q.1, q.2.1, q.2.2.1, Kn.same (s := U) rfl q.2.2.2.1, q.2.2.2.2⟩
theorem sen_has (ad : Nat → Nat) (vs : List Value) {n : Nat} (hn : (lg_sl vs).length ≤ n) : lv_has ((lg_sl (vs.map (sv ad)) ++ List.replicate (n - (lg_sl (vs.map (sv ad))).length) Slot.unset).toArray) n (sl ad (sen n vs)) := by
  have hlen : ∀ vs : List Value, (lg_sl (vs.map (sv ad))).length = (lg_sl vs).length := by
    intro vs
    induction vs with
    | nil => rfl
    | cons v vs ih =>
      simp only [lg_sl, List.map_cons, List.flatMap_cons, List.length_append, sv_cat] at ih ⊢
      rw [ih]
      by_cases hc : v.category = 2 <;> simp [hc]
  have h1 := lv_entry (vs.map (sv ad)) (n := n) (by rw [hlen vs]; exact hn)
  refine ⟨h1.1, h1.2.1, fun q hq => ?_⟩
  obtain ⟨v, hv, hq2⟩ := sl_mem.mp hq
  have hs : (vs.flatMap fun v => if v.category = 2 then [some v, none] else [some v])[q.1]? = some (some v) := by
    unfold sen at hv
    by_cases hl : q.1 < (vs.flatMap fun v => if v.category = 2 then [some v, none] else [some v]).length
    · rw [List.getElem?_append_left hl] at hv
      exact hv
    · rw [List.getElem?_append_right (by omega)] at hv
      have := List.eq_of_mem_replicate (List.mem_of_getElem? hv)
      cases this
  have key : ∀ (vs : List Value) (i : Nat), (vs.flatMap fun v => if v.category = 2 then [some v, none] else [some v])[i]? = some (some v) → (lg_sl (vs.map (sv ad)))[i]? = some (.val (sv ad v)) := by
    intro vs
    induction vs with
    | nil => intro i h; simp at h
    | cons w vs ih =>
      intro i h
      simp only [List.flatMap_cons] at h
      simp only [lg_sl, List.map_cons, List.flatMap_cons, sv_cat]
      by_cases hc : w.category = 2
      · simp only [hc, if_true] at h ⊢
        match i, h with
        | 0, h =>
          simp at h
          subst h
          simp
        | 1, h => simp at h
        | i + 2, h =>
          have h2 : (vs.flatMap fun v => if v.category = 2 then [some v, none] else [some v])[i]? = some (some v) := by simpa using h
          simpa [lg_sl] using ih i h2
      · simp only [hc, if_false] at h ⊢
        match i, h with
        | 0, h =>
          simp at h
          subst h
          simp
        | i + 1, h =>
          have h2 : (vs.flatMap fun v => if v.category = 2 then [some v, none] else [some v])[i]? = some (some v) := by simpa using h
          simpa [lg_sl] using ih i h2
  have hk := key vs q.1 hs
  have hl : q.1 < (lg_sl (vs.map (sv ad))).length := (List.getElem?_eq_some_iff.mp hk).1
  rw [hq2, List.getElem?_toArray, List.getElem?_append_left hl]
  exact hk
def Fit (X : Cx) (M : Mi) (d k n : Nat) : Prop := (d + 1 ≤ (xR X).frames ∧ 8 + (mnL M + 11) + 64 * d ≤ (xR X).locals) ∧ k ≤ (xR X).cells ∧ n ≤ (xR X).slots
theorem fit_of {X : Cx} {M : Mi} {d e : Nat} (hR : xR X = rmD e) (h : d < e) (hL : Nat.ble (mnL M) 45 = true) : Fit X M d 0 0 := by
  have h2 := Nat.le_of_ble_eq_true hL
  unfold Fit
  rw [hR]
  exact ⟨⟨h, by show 8 + (mnL M + 11) + 64 * d ≤ 64 * e; omega⟩, Nat.zero_le _, Nat.zero_le _⟩
def LkC (M : Mi) (n : Nat) : Prop := Cond.code (my M) (mcc M) (mnL M) (mret M) ∈ gW ∧ (mown M ≠ "java/lang/invoke/MethodHandle" ∧ mown M ≠ "java/lang/invoke/VarHandle" ∧ (parseMethodDescriptor (mds M)).map (fun d => d.parameters.length) = some n) ∧ Cond.initialized (mown M) ∈ gW ∧ plainName (mown M) = true
def LkV (own : String) (idx : Nat) (M : Mi) : Prop := Cond.methodLink own idx (my M) ∈ gW ∧ Cond.instanceMethod (my M) ∈ gW ∧ Cond.selects (mown M) (my M) (my M) ∈ gW
def LkS (own : String) (idx : Nat) (M : Mi) : Prop := Cond.methodLink own idx (my M) ∈ gW ∧ Cond.static (my M) ∈ gW
def LkN (own : String) (idx : Nat) (M : Mi) : Prop := (∃ host : String, Cond.methodLinkNest own idx (my M) host ∈ nW) ∧ Cond.static (my M) ∈ gW
def LkU (own : String) (idx : Nat) (C : String) (M : Mi) (n : Nat) : Prop := ∃ (owner : String) (x : MethodName), Cond.methodLink own idx x ∈ gW ∧ Cond.sameMethod x.cls owner x.name x.desc ∈ gW ∧ Cond.selects C x (my M) ∈ gW ∧ Cond.instanceMethod (my M) ∈ gW ∧ (owner ≠ "java/lang/invoke/MethodHandle" ∧ owner ≠ "java/lang/invoke/VarHandle" ∧ (parseMethodDescriptor x.desc).map (fun d => d.parameters.length) = some n) ∧ (my M = ⟨owner, x.name, x.desc⟩ ∨ (∃ (b0 : ByteArray) (m0 : Nat) (r0 : Option FieldType), Cond.instanceMethod ⟨owner, x.name, x.desc⟩ ∈ gW ∧ Cond.code ⟨owner, x.name, x.desc⟩ b0 m0 r0 ∈ gW) ∨ Cond.declares ⟨owner, x.name, x.desc⟩ ∈ nW)
/-- an object of a class stands at a place -/
def isO (S : sH) (a ci : Nat) : Bool := Nat.blt a S.1 && (match S.2 a with
  | .inr x => Nat.beq x.1 ci
  | _ => false)
theorem isO_ok {S : sH} {g : GH} {a ci : Nat} (h : isO S a ci = true) : a < S.1 ∧ ∃ fs, (conc S g).2 a = .inr (ci, fs) := by
  simp only [isO, Bool.and_eq_true] at h
  obtain ⟨h1, h2⟩ := h
  refine ⟨blt_lt h1, ?_⟩
  split at h2
  · rename_i x hx
    have h3 := Nat.eq_of_beq_eq_true h2
    obtain ⟨c, sf⟩ := x
    simp only at h3
    subst h3
    refine ⟨cf (g.1 a) 0 sf, ?_⟩
    show cg g a (S.2 a) = _
    rw [hx]
    rfl
  · cases h2
section A6
variable {M : Mi} {X : Cx} {Q : State → Prop} {ad : Nat → Nat} {k n : Nat} {S : sH} {g : GH} {pc : Nat} {ls : List (Option Value)} {st : List Value}
theorem Rl.free {h : sH} {H : Heap} {locs : List Loc} {lc : Array Slot} (C : XOk M X) (r : Rl M X ad h ls H locs lc) : ∀ q, va_A (sw (xdA X) ad h) H.size q → xA X q := by
  intro q hq
  rcases hq with ⟨i, e, hi⟩ | hq
  · exact r.2.1.2 i (q, e) hi
  · exact C.2.2.2.2.2.2.2.2.2 q (Nat.le_trans r.2.2.1.1 hq)
theorem Rl.pre {vs : List Value} {H : Heap} {locs : List Loc} {lc : Array Slot} (C : XOk M X) (r : Rl M X ad (conc S g) ls H locs lc) : ∀ U : State, U.heap = H → (xs X).WarmedH U.vm → va_Pc (vs.map (sv ad)) (Wd (xD X) (xdA X) ad S g H.size) (vs.map (sv ad)).toArray U :=
  fun U hU hW => ⟨rfl, by rw [hU], by rw [hU]; exact r.1, Kn.warm hW C.2.2.2.2.2.2.2.2.1, r.2.1.weaken (fun _ _ _ _ => trivial)⟩
theorem rest_cat (st : List Value) (h : (st.map Value.category).sum ≤ 8) : ((st.map (sv ad)).map fun v => v.category).sum ≤ 8 := by
  rw [List.map_map]
  have : (fun v : Value => v.category) ∘ sv ad = Value.category := funext fun v => sv_cat ad v
  rw [this]
  exact h

theorem core_i {M' : Mi} {d' : Nat} {vs : List Value} {Po : Int32 → sH → GH → Prop} (c : ACi M' d' S g vs Po) {stk : List Value}
    (hrun : XOk M X → ∀ (H : Heap) (locs : List Loc) (lc : Array Slot), Rl M X ad (conc S g) ls H locs lc → Met (xl X) (my M') (mws M') (rmD d') (va_Pc (vs.map (sv ad)) (Wd (xD X) (xdA X) ad S g H.size)) (va_Qi (fun r (u : sH × GH) => Po r u.1 u.2) (Bd (xD X) (xdA X) ad S g H.size) (va_A (sw (xdA X) ad (conc S g)) H.size)) 0 0 (va_A (sw (xdA X) ad (conc S g)) H.size) →
      va_Run (xp X) (xl X) (xe X) (xR X) (xs X) (xm X) (xa X) (xb X) (xme X) (xc X) H locs k n 0 0 (F0 (xm X) pc lc (stk.map (sv ad))) (st.map (sv ad)) ((va_Qi (fun r (u : sH × GH) => Po r u.1 u.2) (Bd (xD X) (xdA X) ad S g H.size) (va_A (sw (xdA X) ad (conc S g)) H.size)) (vs.map (sv ad)).toArray) (va_A (sw (xdA X) ad (conc S g)) H.size))
    (kk : ∀ (r : Int32) (S' : sH) (g' : GH), S'.1 = S.1 → Po r S' g' → AW M X Q ad k n (conc S' g') (pc + 3) ls (.int r :: st)) : AW M X Q ad k n (conc S g) pc ls stk := by
  intro C H locs lc r
  have hF := Rl.free C r
  exact va_calli (hrun C H locs lc r (c (xl X) (xD X) (xdA X) ad H.size)) r.2.2.1 (fun q _ hq => hF q hq) hF (fun r1 u t H1 locs1 ht hvm hp hB hz hk hS => kk r1 u.1 u.2 hB.1 hp C H1 locs1 lc ⟨ht ▸ hB.2.1, hB.2.2.weaken (fun _ _ _ hq => hF _ hq), hS, r.2.2.2⟩)
theorem call_Vi {M' : Mi} {d' a idx ci nn : Nat} {q : vw_C} {vs : List Value} {Po : Int32 → sH → GH → Prop} (d : decode (mcc M) pc = .ok (.invokevirtual idx, 3)) (LC : LkC M' nn) (L : LkV (mown M) idx M') (hq : vwCl[ci]? = some q) (hq1 : q.1 = mown M') (e : isO S a ci = true) (hR : Fit X M' d' k n) (c : ACi M' d' S g (.ref a :: vs) Po) (hn : vs.length = nn) (hw : Nat.ble (st.map Value.category).sum 8 = true)
    (kk : ∀ (r : Int32) (S' : sH) (g' : GH), S'.1 = S.1 → Po r S' g' → AW M X Q ad k n (conc S' g') (pc + 3) ls (.int r :: st)) : AW M X Q ad k n (conc S g) pc ls (vs.reverse ++ .ref a :: st) := by
  refine core_i c (fun C H locs lc r hM => ?_) kk
  obtain ⟨ha, fs, hfs⟩ := isO_ok (g := g) e
  have hG : GoodIn gW (wsV (mown M) idx (mown M') (my M') (mws M')) := by
    intro w hwm
    simp only [wsV, List.cons_append, List.nil_append, List.mem_cons] at hwm
    rcases hwm with rfl | rfl | rfl | rfl | h
    · exact gW_good _ L.1
    · exact gW_good _ L.2.1
    · exact gW_good _ L.2.2
    · exact gW_good _ LC.2.2.1
    · exact gW_cons LC.1 _ h
  have hrec := va_recv (q := q) C.2.2.2.2.2.2.2.2.1.1 r.1 hq (q0 := a) (a := ad a) (ci := ci) (fs := fs.map (sv ad)) (by rw [sw_at (h := conc S g) ha, hfs]; rfl)
  rw [hq1] at hrec
  refine va_runV (As := vs.map (sv ad)) (b := ad a) (n := nn) (C := mown M') ⟨C.1, C.2.1, C.2.2.1, C.2.2.2.1, C.2.2.2.2.1⟩ hM (cwV nn C.2.2.2.2.1 hG rfl rfl rfl ⟨rfl, LC.2.1⟩ hR.1) ⟨Wd.blind, hrec, Rl.pre C r⟩ rfl (by simpa using hn) r.2.2.2.1 (by simp [F0, sv]) (lv_room (rest_cat st (Nat.le_of_ble_eq_true hw))) d hR.2
theorem call_Ui {M' : Mi} {d' a idx ci nn : Nat} {q : vw_C} {vs : List Value} {Po : Int32 → sH → GH → Prop} (d : decode (mcc M) pc = .ok (.invokevirtual idx, 3)) (hq : vwCl[ci]? = some q) (LC : LkC M' nn) (L : LkU (mown M) idx q.1 M' nn) (e : isO S a ci = true) (hR : Fit X M' d' k n) (c : ACi M' d' S g (.ref a :: vs) Po) (hn : vs.length = nn) (hw : Nat.ble (st.map Value.category).sum 8 = true)
    (kk : ∀ (r : Int32) (S' : sH) (g' : GH), S'.1 = S.1 → Po r S' g' → AW M X Q ad k n (conc S' g') (pc + 3) ls (.int r :: st)) : AW M X Q ad k n (conc S g) pc ls (vs.reverse ++ .ref a :: st) := by
  refine core_i c (fun C H locs lc r hM => ?_) kk
  obtain ⟨ha, fs, hfs⟩ := isO_ok (g := g) e
  obtain ⟨owner, x, l1, l2, l3, l4, l5, l6⟩ := L
  have hrec := va_recv (q := q) C.2.2.2.2.2.2.2.2.1.1 r.1 hq (q0 := a) (a := ad a) (ci := ci) (fs := fs.map (sv ad)) (by rw [sw_at (h := conc S g) ha, hfs]; rfl)
  have hcw : va_CU (xR X) (xs X) (xa X) (mown M) q.1 owner idx x (my M') (mcc M') (mnL M') (mret M') (mws M') (rmD d') 0 0 nn := by
    have hG : GoodIn gW (va_wsU (mown M) idx q.1 owner x (my M') (mws M')) := by
      intro w hwm
      simp only [va_wsU, List.cons_append, List.nil_append, List.mem_cons] at hwm
      rcases hwm with rfl | rfl | rfl | rfl | rfl | h
      · exact gW_good _ l1
      · exact gW_good _ l2
      · exact gW_good _ l3
      · exact gW_good _ l4
      · exact gW_good _ LC.2.2.1
      · exact gW_cons LC.1 _ h
    rcases l6 with h | ⟨b0, m0, r0, h0, h⟩ | h
    · exact va_cwU nn C.2.2.2.2.1 hG rfl rfl rfl h l5 hR.1
    · refine va_cwO nn C.2.2.2.2.1 ?_ rfl rfl rfl h l5 hR.1
      intro w hwm
      simp only [va_wsO, List.cons_append, List.nil_append, List.mem_cons] at hwm
      rcases hwm with rfl | rfl | rfl | rfl | rfl | rfl | h
      · exact gW_good _ l1
      · exact gW_good _ l2
      · exact gW_good _ h0
      · exact gW_good _ l3
      · exact gW_good _ l4
      · exact gW_good _ LC.2.2.1
      · exact gW_cons LC.1 _ h
    · exact va_cwA nn C.2.2.2.2.1 hG rfl rfl rfl (C.2.2.2.2.2.2.2.2.1.2.1 _ h) l5 hR.1
  exact va_runU (As := vs.map (sv ad)) (b := ad a) (n := nn) ⟨C.1, C.2.1, C.2.2.1, C.2.2.2.1, C.2.2.2.2.1⟩ hM hcw ⟨Wd.blind, hrec, Rl.pre C r⟩ rfl (by simpa using hn) r.2.2.2.1 (by simp [F0, sv]) (lv_room (rest_cat st (Nat.le_of_ble_eq_true hw))) d hR.2
theorem call_Si {M' : Mi} {d' idx nn : Nat} {vs : List Value} {Po : Int32 → sH → GH → Prop} (d : decode (mcc M) pc = .ok (.invokestatic idx, 3)) (LC : LkC M' nn) (L : LkS (mown M) idx M' ∨ LkN (mown M) idx M') (hR : Fit X M' d' k n) (c : ACi M' d' S g vs Po) (hn : vs.length = nn) (hw : Nat.ble (st.map Value.category).sum 8 = true)
    (kk : ∀ (r : Int32) (S' : sH) (g' : GH), S'.1 = S.1 → Po r S' g' → AW M X Q ad k n (conc S' g') (pc + 3) ls (.int r :: st)) : AW M X Q ad k n (conc S g) pc ls (vs.reverse ++ st) := by
  refine core_i c (fun C H locs lc r hM => ?_) kk
  rcases L with L | L
  · have hG : GoodIn gW (va_wsS (mown M) idx (my M') (mws M')) := by
      intro w hwm
      simp only [va_wsS, List.cons_append, List.nil_append, List.mem_cons] at hwm
      rcases hwm with rfl | rfl | rfl | h
      · exact gW_good _ L.1
      · exact gW_good _ L.2
      · exact gW_good _ LC.2.2.1
      · exact gW_cons LC.1 _ h
    exact va_runS (As := vs.map (sv ad)) (n := nn) ⟨C.1, C.2.1, C.2.2.1, C.2.2.2.1, C.2.2.2.2.1⟩ hM (va_cwS nn C.2.2.2.2.1 hG rfl rfl rfl LC.2.1 hR.1) ⟨Wd.blind, Rl.pre C r⟩ rfl (by simpa using hn) r.2.2.2.1 (by simp [F0]) (lv_room (rest_cat st (Nat.le_of_ble_eq_true hw))) d hR.2
  · obtain ⟨⟨host, hh⟩, hs⟩ := L
    exact va_runSN (As := vs.map (sv ad)) (n := nn) ⟨C.1, C.2.1, C.2.2.1, C.2.2.2.1, C.2.2.2.2.1⟩ hM ⟨va_cnB (host := host) nn C.2.2.2.2.1 (gW_cons LC.1) rfl rfl rfl (C.2.2.2.2.2.2.2.2.1.2.1 _ hh) (C.2.2.2.2.1 _ LC.2.2.1) LC.2.1 hR.1, C.2.2.2.2.1 _ hs, trivial⟩ ⟨Wd.blind, Rl.pre C r⟩ rfl (by simpa using hn) r.2.2.2.1 (by simp [F0]) (lv_room (rest_cat st (Nat.le_of_ble_eq_true hw))) d hR.2
theorem a_V0i {M' : Mi} {d' a idx : Nat} (ci : Nat) {q : vw_C} {vs : List Value} {Po : Int32 → sH → GH → Prop} (d : decode (mcc M) pc = .ok (.invokevirtual idx, 3)) (LC : LkC M' 0) (L : LkV (mown M) idx M') (hq : vwCl[ci]? = some q) (hq1 : q.1 = mown M') (e : isO S a ci = true) (hR : Fit X M' d' k n) (c : ACi M' d' S g vs Po) (hv : vs = [.ref a]) (hw : Nat.ble (st.map Value.category).sum 8 = true) (kk : ∀ (r : Int32) (S' : sH) (g' : GH), S'.1 = S.1 → Po r S' g' → AW M X Q ad k n (conc S' g') (pc + 3) ls (.int r :: st)) : AW M X Q ad k n (conc S g) pc ls (.ref a :: st) := by
  subst hv
  exact call_Vi (vs := []) d LC L hq hq1 e hR c rfl hw kk
theorem a_U0i {M' : Mi} {d' a idx : Nat} (ci : Nat) {q : vw_C} {vs : List Value} {Po : Int32 → sH → GH → Prop} (d : decode (mcc M) pc = .ok (.invokevirtual idx, 3)) (hq : vwCl[ci]? = some q) (LC : LkC M' 0) (L : LkU (mown M) idx q.1 M' 0) (e : isO S a ci = true) (hR : Fit X M' d' k n) (c : ACi M' d' S g vs Po) (hv : vs = [.ref a]) (hw : Nat.ble (st.map Value.category).sum 8 = true) (kk : ∀ (r : Int32) (S' : sH) (g' : GH), S'.1 = S.1 → Po r S' g' → AW M X Q ad k n (conc S' g') (pc + 3) ls (.int r :: st)) : AW M X Q ad k n (conc S g) pc ls (.ref a :: st) := by
  subst hv
  exact call_Ui (vs := []) d hq LC L e hR c rfl hw kk
theorem a_V1i {M' : Mi} {d' a idx : Nat} (ci : Nat) {q : vw_C} {v1 : Value} {vs : List Value} {Po : Int32 → sH → GH → Prop} (d : decode (mcc M) pc = .ok (.invokevirtual idx, 3)) (LC : LkC M' 1) (L : LkV (mown M) idx M') (hq : vwCl[ci]? = some q) (hq1 : q.1 = mown M') (e : isO S a ci = true) (hR : Fit X M' d' k n) (c : ACi M' d' S g vs Po) (hv : vs = [.ref a, v1]) (hw : Nat.ble (st.map Value.category).sum 8 = true) (kk : ∀ (r : Int32) (S' : sH) (g' : GH), S'.1 = S.1 → Po r S' g' → AW M X Q ad k n (conc S' g') (pc + 3) ls (.int r :: st)) : AW M X Q ad k n (conc S g) pc ls (v1 :: .ref a :: st) := by
  subst hv
  exact call_Vi (vs := [v1]) d LC L hq hq1 e hR c rfl hw kk
theorem a_U1i {M' : Mi} {d' a idx : Nat} (ci : Nat) {q : vw_C} {v1 : Value} {vs : List Value} {Po : Int32 → sH → GH → Prop} (d : decode (mcc M) pc = .ok (.invokevirtual idx, 3)) (hq : vwCl[ci]? = some q) (LC : LkC M' 1) (L : LkU (mown M) idx q.1 M' 1) (e : isO S a ci = true) (hR : Fit X M' d' k n) (c : ACi M' d' S g vs Po) (hv : vs = [.ref a, v1]) (hw : Nat.ble (st.map Value.category).sum 8 = true) (kk : ∀ (r : Int32) (S' : sH) (g' : GH), S'.1 = S.1 → Po r S' g' → AW M X Q ad k n (conc S' g') (pc + 3) ls (.int r :: st)) : AW M X Q ad k n (conc S g) pc ls (v1 :: .ref a :: st) := by
  subst hv
  exact call_Ui (vs := [v1]) d hq LC L e hR c rfl hw kk
theorem a_V2i {M' : Mi} {d' a idx : Nat} (ci : Nat) {q : vw_C} {v1 v2 : Value} {vs : List Value} {Po : Int32 → sH → GH → Prop} (d : decode (mcc M) pc = .ok (.invokevirtual idx, 3)) (LC : LkC M' 2) (L : LkV (mown M) idx M') (hq : vwCl[ci]? = some q) (hq1 : q.1 = mown M') (e : isO S a ci = true) (hR : Fit X M' d' k n) (c : ACi M' d' S g vs Po) (hv : vs = [.ref a, v1, v2]) (hw : Nat.ble (st.map Value.category).sum 8 = true) (kk : ∀ (r : Int32) (S' : sH) (g' : GH), S'.1 = S.1 → Po r S' g' → AW M X Q ad k n (conc S' g') (pc + 3) ls (.int r :: st)) : AW M X Q ad k n (conc S g) pc ls (v2 :: v1 :: .ref a :: st) := by
  subst hv
  exact call_Vi (vs := [v1, v2]) d LC L hq hq1 e hR c rfl hw kk
theorem a_U2i {M' : Mi} {d' a idx : Nat} (ci : Nat) {q : vw_C} {v1 v2 : Value} {vs : List Value} {Po : Int32 → sH → GH → Prop} (d : decode (mcc M) pc = .ok (.invokevirtual idx, 3)) (hq : vwCl[ci]? = some q) (LC : LkC M' 2) (L : LkU (mown M) idx q.1 M' 2) (e : isO S a ci = true) (hR : Fit X M' d' k n) (c : ACi M' d' S g vs Po) (hv : vs = [.ref a, v1, v2]) (hw : Nat.ble (st.map Value.category).sum 8 = true) (kk : ∀ (r : Int32) (S' : sH) (g' : GH), S'.1 = S.1 → Po r S' g' → AW M X Q ad k n (conc S' g') (pc + 3) ls (.int r :: st)) : AW M X Q ad k n (conc S g) pc ls (v2 :: v1 :: .ref a :: st) := by
  subst hv
  exact call_Ui (vs := [v1, v2]) d hq LC L e hR c rfl hw kk
theorem a_V3i {M' : Mi} {d' a idx : Nat} (ci : Nat) {q : vw_C} {v1 v2 v3 : Value} {vs : List Value} {Po : Int32 → sH → GH → Prop} (d : decode (mcc M) pc = .ok (.invokevirtual idx, 3)) (LC : LkC M' 3) (L : LkV (mown M) idx M') (hq : vwCl[ci]? = some q) (hq1 : q.1 = mown M') (e : isO S a ci = true) (hR : Fit X M' d' k n) (c : ACi M' d' S g vs Po) (hv : vs = [.ref a, v1, v2, v3]) (hw : Nat.ble (st.map Value.category).sum 8 = true) (kk : ∀ (r : Int32) (S' : sH) (g' : GH), S'.1 = S.1 → Po r S' g' → AW M X Q ad k n (conc S' g') (pc + 3) ls (.int r :: st)) : AW M X Q ad k n (conc S g) pc ls (v3 :: v2 :: v1 :: .ref a :: st) := by
  subst hv
  exact call_Vi (vs := [v1, v2, v3]) d LC L hq hq1 e hR c rfl hw kk
theorem a_U3i {M' : Mi} {d' a idx : Nat} (ci : Nat) {q : vw_C} {v1 v2 v3 : Value} {vs : List Value} {Po : Int32 → sH → GH → Prop} (d : decode (mcc M) pc = .ok (.invokevirtual idx, 3)) (hq : vwCl[ci]? = some q) (LC : LkC M' 3) (L : LkU (mown M) idx q.1 M' 3) (e : isO S a ci = true) (hR : Fit X M' d' k n) (c : ACi M' d' S g vs Po) (hv : vs = [.ref a, v1, v2, v3]) (hw : Nat.ble (st.map Value.category).sum 8 = true) (kk : ∀ (r : Int32) (S' : sH) (g' : GH), S'.1 = S.1 → Po r S' g' → AW M X Q ad k n (conc S' g') (pc + 3) ls (.int r :: st)) : AW M X Q ad k n (conc S g) pc ls (v3 :: v2 :: v1 :: .ref a :: st) := by
  subst hv
  exact call_Ui (vs := [v1, v2, v3]) d hq LC L e hR c rfl hw kk
theorem a_V4i {M' : Mi} {d' a idx : Nat} (ci : Nat) {q : vw_C} {v1 v2 v3 v4 : Value} {vs : List Value} {Po : Int32 → sH → GH → Prop} (d : decode (mcc M) pc = .ok (.invokevirtual idx, 3)) (LC : LkC M' 4) (L : LkV (mown M) idx M') (hq : vwCl[ci]? = some q) (hq1 : q.1 = mown M') (e : isO S a ci = true) (hR : Fit X M' d' k n) (c : ACi M' d' S g vs Po) (hv : vs = [.ref a, v1, v2, v3, v4]) (hw : Nat.ble (st.map Value.category).sum 8 = true) (kk : ∀ (r : Int32) (S' : sH) (g' : GH), S'.1 = S.1 → Po r S' g' → AW M X Q ad k n (conc S' g') (pc + 3) ls (.int r :: st)) : AW M X Q ad k n (conc S g) pc ls (v4 :: v3 :: v2 :: v1 :: .ref a :: st) := by
  subst hv
  exact call_Vi (vs := [v1, v2, v3, v4]) d LC L hq hq1 e hR c rfl hw kk
theorem a_U4i {M' : Mi} {d' a idx : Nat} (ci : Nat) {q : vw_C} {v1 v2 v3 v4 : Value} {vs : List Value} {Po : Int32 → sH → GH → Prop} (d : decode (mcc M) pc = .ok (.invokevirtual idx, 3)) (hq : vwCl[ci]? = some q) (LC : LkC M' 4) (L : LkU (mown M) idx q.1 M' 4) (e : isO S a ci = true) (hR : Fit X M' d' k n) (c : ACi M' d' S g vs Po) (hv : vs = [.ref a, v1, v2, v3, v4]) (hw : Nat.ble (st.map Value.category).sum 8 = true) (kk : ∀ (r : Int32) (S' : sH) (g' : GH), S'.1 = S.1 → Po r S' g' → AW M X Q ad k n (conc S' g') (pc + 3) ls (.int r :: st)) : AW M X Q ad k n (conc S g) pc ls (v4 :: v3 :: v2 :: v1 :: .ref a :: st) := by
  subst hv
  exact call_Ui (vs := [v1, v2, v3, v4]) d hq LC L e hR c rfl hw kk
theorem a_V5i {M' : Mi} {d' a idx : Nat} (ci : Nat) {q : vw_C} {v1 v2 v3 v4 v5 : Value} {vs : List Value} {Po : Int32 → sH → GH → Prop} (d : decode (mcc M) pc = .ok (.invokevirtual idx, 3)) (LC : LkC M' 5) (L : LkV (mown M) idx M') (hq : vwCl[ci]? = some q) (hq1 : q.1 = mown M') (e : isO S a ci = true) (hR : Fit X M' d' k n) (c : ACi M' d' S g vs Po) (hv : vs = [.ref a, v1, v2, v3, v4, v5]) (hw : Nat.ble (st.map Value.category).sum 8 = true) (kk : ∀ (r : Int32) (S' : sH) (g' : GH), S'.1 = S.1 → Po r S' g' → AW M X Q ad k n (conc S' g') (pc + 3) ls (.int r :: st)) : AW M X Q ad k n (conc S g) pc ls (v5 :: v4 :: v3 :: v2 :: v1 :: .ref a :: st) := by
  subst hv
  exact call_Vi (vs := [v1, v2, v3, v4, v5]) d LC L hq hq1 e hR c rfl hw kk
theorem a_U5i {M' : Mi} {d' a idx : Nat} (ci : Nat) {q : vw_C} {v1 v2 v3 v4 v5 : Value} {vs : List Value} {Po : Int32 → sH → GH → Prop} (d : decode (mcc M) pc = .ok (.invokevirtual idx, 3)) (hq : vwCl[ci]? = some q) (LC : LkC M' 5) (L : LkU (mown M) idx q.1 M' 5) (e : isO S a ci = true) (hR : Fit X M' d' k n) (c : ACi M' d' S g vs Po) (hv : vs = [.ref a, v1, v2, v3, v4, v5]) (hw : Nat.ble (st.map Value.category).sum 8 = true) (kk : ∀ (r : Int32) (S' : sH) (g' : GH), S'.1 = S.1 → Po r S' g' → AW M X Q ad k n (conc S' g') (pc + 3) ls (.int r :: st)) : AW M X Q ad k n (conc S g) pc ls (v5 :: v4 :: v3 :: v2 :: v1 :: .ref a :: st) := by
  subst hv
  exact call_Ui (vs := [v1, v2, v3, v4, v5]) d hq LC L e hR c rfl hw kk
theorem a_V6i {M' : Mi} {d' a idx : Nat} (ci : Nat) {q : vw_C} {v1 v2 v3 v4 v5 v6 : Value} {vs : List Value} {Po : Int32 → sH → GH → Prop} (d : decode (mcc M) pc = .ok (.invokevirtual idx, 3)) (LC : LkC M' 6) (L : LkV (mown M) idx M') (hq : vwCl[ci]? = some q) (hq1 : q.1 = mown M') (e : isO S a ci = true) (hR : Fit X M' d' k n) (c : ACi M' d' S g vs Po) (hv : vs = [.ref a, v1, v2, v3, v4, v5, v6]) (hw : Nat.ble (st.map Value.category).sum 8 = true) (kk : ∀ (r : Int32) (S' : sH) (g' : GH), S'.1 = S.1 → Po r S' g' → AW M X Q ad k n (conc S' g') (pc + 3) ls (.int r :: st)) : AW M X Q ad k n (conc S g) pc ls (v6 :: v5 :: v4 :: v3 :: v2 :: v1 :: .ref a :: st) := by
  subst hv
  exact call_Vi (vs := [v1, v2, v3, v4, v5, v6]) d LC L hq hq1 e hR c rfl hw kk
theorem a_U6i {M' : Mi} {d' a idx : Nat} (ci : Nat) {q : vw_C} {v1 v2 v3 v4 v5 v6 : Value} {vs : List Value} {Po : Int32 → sH → GH → Prop} (d : decode (mcc M) pc = .ok (.invokevirtual idx, 3)) (hq : vwCl[ci]? = some q) (LC : LkC M' 6) (L : LkU (mown M) idx q.1 M' 6) (e : isO S a ci = true) (hR : Fit X M' d' k n) (c : ACi M' d' S g vs Po) (hv : vs = [.ref a, v1, v2, v3, v4, v5, v6]) (hw : Nat.ble (st.map Value.category).sum 8 = true) (kk : ∀ (r : Int32) (S' : sH) (g' : GH), S'.1 = S.1 → Po r S' g' → AW M X Q ad k n (conc S' g') (pc + 3) ls (.int r :: st)) : AW M X Q ad k n (conc S g) pc ls (v6 :: v5 :: v4 :: v3 :: v2 :: v1 :: .ref a :: st) := by
  subst hv
  exact call_Ui (vs := [v1, v2, v3, v4, v5, v6]) d hq LC L e hR c rfl hw kk
theorem a_S0i {M' : Mi} {d' idx : Nat} {vs : List Value} {Po : Int32 → sH → GH → Prop} (d : decode (mcc M) pc = .ok (.invokestatic idx, 3)) (LC : LkC M' 0) (L : LkS (mown M) idx M' ∨ LkN (mown M) idx M') (hR : Fit X M' d' k n) (c : ACi M' d' S g vs Po) (hv : vs = []) (hw : Nat.ble (st.map Value.category).sum 8 = true) (kk : ∀ (r : Int32) (S' : sH) (g' : GH), S'.1 = S.1 → Po r S' g' → AW M X Q ad k n (conc S' g') (pc + 3) ls (.int r :: st)) : AW M X Q ad k n (conc S g) pc ls st := by
  subst hv
  exact call_Si (vs := []) d LC L hR c rfl hw kk
theorem a_S1i {M' : Mi} {d' idx : Nat} {v1 : Value} {vs : List Value} {Po : Int32 → sH → GH → Prop} (d : decode (mcc M) pc = .ok (.invokestatic idx, 3)) (LC : LkC M' 1) (L : LkS (mown M) idx M' ∨ LkN (mown M) idx M') (hR : Fit X M' d' k n) (c : ACi M' d' S g vs Po) (hv : vs = [v1]) (hw : Nat.ble (st.map Value.category).sum 8 = true) (kk : ∀ (r : Int32) (S' : sH) (g' : GH), S'.1 = S.1 → Po r S' g' → AW M X Q ad k n (conc S' g') (pc + 3) ls (.int r :: st)) : AW M X Q ad k n (conc S g) pc ls (v1 :: st) := by
  subst hv
  exact call_Si (vs := [v1]) d LC L hR c rfl hw kk
theorem a_S2i {M' : Mi} {d' idx : Nat} {v1 v2 : Value} {vs : List Value} {Po : Int32 → sH → GH → Prop} (d : decode (mcc M) pc = .ok (.invokestatic idx, 3)) (LC : LkC M' 2) (L : LkS (mown M) idx M' ∨ LkN (mown M) idx M') (hR : Fit X M' d' k n) (c : ACi M' d' S g vs Po) (hv : vs = [v1, v2]) (hw : Nat.ble (st.map Value.category).sum 8 = true) (kk : ∀ (r : Int32) (S' : sH) (g' : GH), S'.1 = S.1 → Po r S' g' → AW M X Q ad k n (conc S' g') (pc + 3) ls (.int r :: st)) : AW M X Q ad k n (conc S g) pc ls (v2 :: v1 :: st) := by
  subst hv
  exact call_Si (vs := [v1, v2]) d LC L hR c rfl hw kk
theorem a_S3i {M' : Mi} {d' idx : Nat} {v1 v2 v3 : Value} {vs : List Value} {Po : Int32 → sH → GH → Prop} (d : decode (mcc M) pc = .ok (.invokestatic idx, 3)) (LC : LkC M' 3) (L : LkS (mown M) idx M' ∨ LkN (mown M) idx M') (hR : Fit X M' d' k n) (c : ACi M' d' S g vs Po) (hv : vs = [v1, v2, v3]) (hw : Nat.ble (st.map Value.category).sum 8 = true) (kk : ∀ (r : Int32) (S' : sH) (g' : GH), S'.1 = S.1 → Po r S' g' → AW M X Q ad k n (conc S' g') (pc + 3) ls (.int r :: st)) : AW M X Q ad k n (conc S g) pc ls (v3 :: v2 :: v1 :: st) := by
  subst hv
  exact call_Si (vs := [v1, v2, v3]) d LC L hR c rfl hw kk
theorem a_S4i {M' : Mi} {d' idx : Nat} {v1 v2 v3 v4 : Value} {vs : List Value} {Po : Int32 → sH → GH → Prop} (d : decode (mcc M) pc = .ok (.invokestatic idx, 3)) (LC : LkC M' 4) (L : LkS (mown M) idx M' ∨ LkN (mown M) idx M') (hR : Fit X M' d' k n) (c : ACi M' d' S g vs Po) (hv : vs = [v1, v2, v3, v4]) (hw : Nat.ble (st.map Value.category).sum 8 = true) (kk : ∀ (r : Int32) (S' : sH) (g' : GH), S'.1 = S.1 → Po r S' g' → AW M X Q ad k n (conc S' g') (pc + 3) ls (.int r :: st)) : AW M X Q ad k n (conc S g) pc ls (v4 :: v3 :: v2 :: v1 :: st) := by
  subst hv
  exact call_Si (vs := [v1, v2, v3, v4]) d LC L hR c rfl hw kk
theorem a_S5i {M' : Mi} {d' idx : Nat} {v1 v2 v3 v4 v5 : Value} {vs : List Value} {Po : Int32 → sH → GH → Prop} (d : decode (mcc M) pc = .ok (.invokestatic idx, 3)) (LC : LkC M' 5) (L : LkS (mown M) idx M' ∨ LkN (mown M) idx M') (hR : Fit X M' d' k n) (c : ACi M' d' S g vs Po) (hv : vs = [v1, v2, v3, v4, v5]) (hw : Nat.ble (st.map Value.category).sum 8 = true) (kk : ∀ (r : Int32) (S' : sH) (g' : GH), S'.1 = S.1 → Po r S' g' → AW M X Q ad k n (conc S' g') (pc + 3) ls (.int r :: st)) : AW M X Q ad k n (conc S g) pc ls (v5 :: v4 :: v3 :: v2 :: v1 :: st) := by
  subst hv
  exact call_Si (vs := [v1, v2, v3, v4, v5]) d LC L hR c rfl hw kk
theorem a_S6i {M' : Mi} {d' idx : Nat} {v1 v2 v3 v4 v5 v6 : Value} {vs : List Value} {Po : Int32 → sH → GH → Prop} (d : decode (mcc M) pc = .ok (.invokestatic idx, 3)) (LC : LkC M' 6) (L : LkS (mown M) idx M' ∨ LkN (mown M) idx M') (hR : Fit X M' d' k n) (c : ACi M' d' S g vs Po) (hv : vs = [v1, v2, v3, v4, v5, v6]) (hw : Nat.ble (st.map Value.category).sum 8 = true) (kk : ∀ (r : Int32) (S' : sH) (g' : GH), S'.1 = S.1 → Po r S' g' → AW M X Q ad k n (conc S' g') (pc + 3) ls (.int r :: st)) : AW M X Q ad k n (conc S g) pc ls (v6 :: v5 :: v4 :: v3 :: v2 :: v1 :: st) := by
  subst hv
  exact call_Si (vs := [v1, v2, v3, v4, v5, v6]) d LC L hR c rfl hw kk
theorem a_S7i {M' : Mi} {d' idx : Nat} {v1 v2 v3 v4 v5 v6 v7 : Value} {vs : List Value} {Po : Int32 → sH → GH → Prop} (d : decode (mcc M) pc = .ok (.invokestatic idx, 3)) (LC : LkC M' 7) (L : LkS (mown M) idx M' ∨ LkN (mown M) idx M') (hR : Fit X M' d' k n) (c : ACi M' d' S g vs Po) (hv : vs = [v1, v2, v3, v4, v5, v6, v7]) (hw : Nat.ble (st.map Value.category).sum 8 = true) (kk : ∀ (r : Int32) (S' : sH) (g' : GH), S'.1 = S.1 → Po r S' g' → AW M X Q ad k n (conc S' g') (pc + 3) ls (.int r :: st)) : AW M X Q ad k n (conc S g) pc ls (v7 :: v6 :: v5 :: v4 :: v3 :: v2 :: v1 :: st) := by
  subst hv
  exact call_Si (vs := [v1, v2, v3, v4, v5, v6, v7]) d LC L hR c rfl hw kk
theorem core_l {M' : Mi} {d' : Nat} {vs : List Value} {Po : Int64 → sH → GH → Prop} (c : ACl M' d' S g vs Po) {stk : List Value}
    (hrun : XOk M X → ∀ (H : Heap) (locs : List Loc) (lc : Array Slot), Rl M X ad (conc S g) ls H locs lc → Met (xl X) (my M') (mws M') (rmD d') (va_Pc (vs.map (sv ad)) (Wd (xD X) (xdA X) ad S g H.size)) (va_Ql (fun r (u : sH × GH) => Po r u.1 u.2) (Bd (xD X) (xdA X) ad S g H.size) (va_A (sw (xdA X) ad (conc S g)) H.size)) 0 0 (va_A (sw (xdA X) ad (conc S g)) H.size) →
      va_Run (xp X) (xl X) (xe X) (xR X) (xs X) (xm X) (xa X) (xb X) (xme X) (xc X) H locs k n 0 0 (F0 (xm X) pc lc (stk.map (sv ad))) (st.map (sv ad)) ((va_Ql (fun r (u : sH × GH) => Po r u.1 u.2) (Bd (xD X) (xdA X) ad S g H.size) (va_A (sw (xdA X) ad (conc S g)) H.size)) (vs.map (sv ad)).toArray) (va_A (sw (xdA X) ad (conc S g)) H.size))
    (kk : ∀ (r : Int64) (S' : sH) (g' : GH), S'.1 = S.1 → Po r S' g' → AW M X Q ad k n (conc S' g') (pc + 3) ls (.long r :: st)) : AW M X Q ad k n (conc S g) pc ls stk := by
  intro C H locs lc r
  have hF := Rl.free C r
  exact va_calll (hrun C H locs lc r (c (xl X) (xD X) (xdA X) ad H.size)) r.2.2.1 (fun q _ hq => hF q hq) hF (fun r1 u t H1 locs1 ht hvm hp hB hz hk hS => kk r1 u.1 u.2 hB.1 hp C H1 locs1 lc ⟨ht ▸ hB.2.1, hB.2.2.weaken (fun _ _ _ hq => hF _ hq), hS, r.2.2.2⟩)
theorem call_Vl {M' : Mi} {d' a idx ci nn : Nat} {q : vw_C} {vs : List Value} {Po : Int64 → sH → GH → Prop} (d : decode (mcc M) pc = .ok (.invokevirtual idx, 3)) (LC : LkC M' nn) (L : LkV (mown M) idx M') (hq : vwCl[ci]? = some q) (hq1 : q.1 = mown M') (e : isO S a ci = true) (hR : Fit X M' d' k n) (c : ACl M' d' S g (.ref a :: vs) Po) (hn : vs.length = nn) (hw : Nat.ble (st.map Value.category).sum 8 = true)
    (kk : ∀ (r : Int64) (S' : sH) (g' : GH), S'.1 = S.1 → Po r S' g' → AW M X Q ad k n (conc S' g') (pc + 3) ls (.long r :: st)) : AW M X Q ad k n (conc S g) pc ls (vs.reverse ++ .ref a :: st) := by
  refine core_l c (fun C H locs lc r hM => ?_) kk
  obtain ⟨ha, fs, hfs⟩ := isO_ok (g := g) e
  have hG : GoodIn gW (wsV (mown M) idx (mown M') (my M') (mws M')) := by
    intro w hwm
    simp only [wsV, List.cons_append, List.nil_append, List.mem_cons] at hwm
    rcases hwm with rfl | rfl | rfl | rfl | h
    · exact gW_good _ L.1
    · exact gW_good _ L.2.1
    · exact gW_good _ L.2.2
    · exact gW_good _ LC.2.2.1
    · exact gW_cons LC.1 _ h
  have hrec := va_recv (q := q) C.2.2.2.2.2.2.2.2.1.1 r.1 hq (q0 := a) (a := ad a) (ci := ci) (fs := fs.map (sv ad)) (by rw [sw_at (h := conc S g) ha, hfs]; rfl)
  rw [hq1] at hrec
  refine va_runV (As := vs.map (sv ad)) (b := ad a) (n := nn) (C := mown M') ⟨C.1, C.2.1, C.2.2.1, C.2.2.2.1, C.2.2.2.2.1⟩ hM (cwV nn C.2.2.2.2.1 hG rfl rfl rfl ⟨rfl, LC.2.1⟩ hR.1) ⟨Wd.blind, hrec, Rl.pre C r⟩ rfl (by simpa using hn) r.2.2.2.1 (by simp [F0, sv]) (lv_room (rest_cat st (Nat.le_of_ble_eq_true hw))) d hR.2
theorem call_Ul {M' : Mi} {d' a idx ci nn : Nat} {q : vw_C} {vs : List Value} {Po : Int64 → sH → GH → Prop} (d : decode (mcc M) pc = .ok (.invokevirtual idx, 3)) (hq : vwCl[ci]? = some q) (LC : LkC M' nn) (L : LkU (mown M) idx q.1 M' nn) (e : isO S a ci = true) (hR : Fit X M' d' k n) (c : ACl M' d' S g (.ref a :: vs) Po) (hn : vs.length = nn) (hw : Nat.ble (st.map Value.category).sum 8 = true)
    (kk : ∀ (r : Int64) (S' : sH) (g' : GH), S'.1 = S.1 → Po r S' g' → AW M X Q ad k n (conc S' g') (pc + 3) ls (.long r :: st)) : AW M X Q ad k n (conc S g) pc ls (vs.reverse ++ .ref a :: st) := by
  refine core_l c (fun C H locs lc r hM => ?_) kk
  obtain ⟨ha, fs, hfs⟩ := isO_ok (g := g) e
  obtain ⟨owner, x, l1, l2, l3, l4, l5, l6⟩ := L
  have hrec := va_recv (q := q) C.2.2.2.2.2.2.2.2.1.1 r.1 hq (q0 := a) (a := ad a) (ci := ci) (fs := fs.map (sv ad)) (by rw [sw_at (h := conc S g) ha, hfs]; rfl)
  have hcw : va_CU (xR X) (xs X) (xa X) (mown M) q.1 owner idx x (my M') (mcc M') (mnL M') (mret M') (mws M') (rmD d') 0 0 nn := by
    have hG : GoodIn gW (va_wsU (mown M) idx q.1 owner x (my M') (mws M')) := by
      intro w hwm
      simp only [va_wsU, List.cons_append, List.nil_append, List.mem_cons] at hwm
      rcases hwm with rfl | rfl | rfl | rfl | rfl | h
      · exact gW_good _ l1
      · exact gW_good _ l2
      · exact gW_good _ l3
      · exact gW_good _ l4
      · exact gW_good _ LC.2.2.1
      · exact gW_cons LC.1 _ h
    rcases l6 with h | ⟨b0, m0, r0, h0, h⟩ | h
    · exact va_cwU nn C.2.2.2.2.1 hG rfl rfl rfl h l5 hR.1
    · refine va_cwO nn C.2.2.2.2.1 ?_ rfl rfl rfl h l5 hR.1
      intro w hwm
      simp only [va_wsO, List.cons_append, List.nil_append, List.mem_cons] at hwm
      rcases hwm with rfl | rfl | rfl | rfl | rfl | rfl | h
      · exact gW_good _ l1
      · exact gW_good _ l2
      · exact gW_good _ h0
      · exact gW_good _ l3
      · exact gW_good _ l4
      · exact gW_good _ LC.2.2.1
      · exact gW_cons LC.1 _ h
    · exact va_cwA nn C.2.2.2.2.1 hG rfl rfl rfl (C.2.2.2.2.2.2.2.2.1.2.1 _ h) l5 hR.1
  exact va_runU (As := vs.map (sv ad)) (b := ad a) (n := nn) ⟨C.1, C.2.1, C.2.2.1, C.2.2.2.1, C.2.2.2.2.1⟩ hM hcw ⟨Wd.blind, hrec, Rl.pre C r⟩ rfl (by simpa using hn) r.2.2.2.1 (by simp [F0, sv]) (lv_room (rest_cat st (Nat.le_of_ble_eq_true hw))) d hR.2
theorem call_Sl {M' : Mi} {d' idx nn : Nat} {vs : List Value} {Po : Int64 → sH → GH → Prop} (d : decode (mcc M) pc = .ok (.invokestatic idx, 3)) (LC : LkC M' nn) (L : LkS (mown M) idx M' ∨ LkN (mown M) idx M') (hR : Fit X M' d' k n) (c : ACl M' d' S g vs Po) (hn : vs.length = nn) (hw : Nat.ble (st.map Value.category).sum 8 = true)
    (kk : ∀ (r : Int64) (S' : sH) (g' : GH), S'.1 = S.1 → Po r S' g' → AW M X Q ad k n (conc S' g') (pc + 3) ls (.long r :: st)) : AW M X Q ad k n (conc S g) pc ls (vs.reverse ++ st) := by
  refine core_l c (fun C H locs lc r hM => ?_) kk
  rcases L with L | L
  · have hG : GoodIn gW (va_wsS (mown M) idx (my M') (mws M')) := by
      intro w hwm
      simp only [va_wsS, List.cons_append, List.nil_append, List.mem_cons] at hwm
      rcases hwm with rfl | rfl | rfl | h
      · exact gW_good _ L.1
      · exact gW_good _ L.2
      · exact gW_good _ LC.2.2.1
      · exact gW_cons LC.1 _ h
    exact va_runS (As := vs.map (sv ad)) (n := nn) ⟨C.1, C.2.1, C.2.2.1, C.2.2.2.1, C.2.2.2.2.1⟩ hM (va_cwS nn C.2.2.2.2.1 hG rfl rfl rfl LC.2.1 hR.1) ⟨Wd.blind, Rl.pre C r⟩ rfl (by simpa using hn) r.2.2.2.1 (by simp [F0]) (lv_room (rest_cat st (Nat.le_of_ble_eq_true hw))) d hR.2
  · obtain ⟨⟨host, hh⟩, hs⟩ := L
    exact va_runSN (As := vs.map (sv ad)) (n := nn) ⟨C.1, C.2.1, C.2.2.1, C.2.2.2.1, C.2.2.2.2.1⟩ hM ⟨va_cnB (host := host) nn C.2.2.2.2.1 (gW_cons LC.1) rfl rfl rfl (C.2.2.2.2.2.2.2.2.1.2.1 _ hh) (C.2.2.2.2.1 _ LC.2.2.1) LC.2.1 hR.1, C.2.2.2.2.1 _ hs, trivial⟩ ⟨Wd.blind, Rl.pre C r⟩ rfl (by simpa using hn) r.2.2.2.1 (by simp [F0]) (lv_room (rest_cat st (Nat.le_of_ble_eq_true hw))) d hR.2
theorem a_V0l {M' : Mi} {d' a idx : Nat} (ci : Nat) {q : vw_C} {vs : List Value} {Po : Int64 → sH → GH → Prop} (d : decode (mcc M) pc = .ok (.invokevirtual idx, 3)) (LC : LkC M' 0) (L : LkV (mown M) idx M') (hq : vwCl[ci]? = some q) (hq1 : q.1 = mown M') (e : isO S a ci = true) (hR : Fit X M' d' k n) (c : ACl M' d' S g vs Po) (hv : vs = [.ref a]) (hw : Nat.ble (st.map Value.category).sum 8 = true) (kk : ∀ (r : Int64) (S' : sH) (g' : GH), S'.1 = S.1 → Po r S' g' → AW M X Q ad k n (conc S' g') (pc + 3) ls (.long r :: st)) : AW M X Q ad k n (conc S g) pc ls (.ref a :: st) := by
  subst hv
  exact call_Vl (vs := []) d LC L hq hq1 e hR c rfl hw kk
theorem a_U0l {M' : Mi} {d' a idx : Nat} (ci : Nat) {q : vw_C} {vs : List Value} {Po : Int64 → sH → GH → Prop} (d : decode (mcc M) pc = .ok (.invokevirtual idx, 3)) (hq : vwCl[ci]? = some q) (LC : LkC M' 0) (L : LkU (mown M) idx q.1 M' 0) (e : isO S a ci = true) (hR : Fit X M' d' k n) (c : ACl M' d' S g vs Po) (hv : vs = [.ref a]) (hw : Nat.ble (st.map Value.category).sum 8 = true) (kk : ∀ (r : Int64) (S' : sH) (g' : GH), S'.1 = S.1 → Po r S' g' → AW M X Q ad k n (conc S' g') (pc + 3) ls (.long r :: st)) : AW M X Q ad k n (conc S g) pc ls (.ref a :: st) := by
  subst hv
  exact call_Ul (vs := []) d hq LC L e hR c rfl hw kk
theorem a_V1l {M' : Mi} {d' a idx : Nat} (ci : Nat) {q : vw_C} {v1 : Value} {vs : List Value} {Po : Int64 → sH → GH → Prop} (d : decode (mcc M) pc = .ok (.invokevirtual idx, 3)) (LC : LkC M' 1) (L : LkV (mown M) idx M') (hq : vwCl[ci]? = some q) (hq1 : q.1 = mown M') (e : isO S a ci = true) (hR : Fit X M' d' k n) (c : ACl M' d' S g vs Po) (hv : vs = [.ref a, v1]) (hw : Nat.ble (st.map Value.category).sum 8 = true) (kk : ∀ (r : Int64) (S' : sH) (g' : GH), S'.1 = S.1 → Po r S' g' → AW M X Q ad k n (conc S' g') (pc + 3) ls (.long r :: st)) : AW M X Q ad k n (conc S g) pc ls (v1 :: .ref a :: st) := by
  subst hv
  exact call_Vl (vs := [v1]) d LC L hq hq1 e hR c rfl hw kk
theorem a_U1l {M' : Mi} {d' a idx : Nat} (ci : Nat) {q : vw_C} {v1 : Value} {vs : List Value} {Po : Int64 → sH → GH → Prop} (d : decode (mcc M) pc = .ok (.invokevirtual idx, 3)) (hq : vwCl[ci]? = some q) (LC : LkC M' 1) (L : LkU (mown M) idx q.1 M' 1) (e : isO S a ci = true) (hR : Fit X M' d' k n) (c : ACl M' d' S g vs Po) (hv : vs = [.ref a, v1]) (hw : Nat.ble (st.map Value.category).sum 8 = true) (kk : ∀ (r : Int64) (S' : sH) (g' : GH), S'.1 = S.1 → Po r S' g' → AW M X Q ad k n (conc S' g') (pc + 3) ls (.long r :: st)) : AW M X Q ad k n (conc S g) pc ls (v1 :: .ref a :: st) := by
  subst hv
  exact call_Ul (vs := [v1]) d hq LC L e hR c rfl hw kk
theorem a_V2l {M' : Mi} {d' a idx : Nat} (ci : Nat) {q : vw_C} {v1 v2 : Value} {vs : List Value} {Po : Int64 → sH → GH → Prop} (d : decode (mcc M) pc = .ok (.invokevirtual idx, 3)) (LC : LkC M' 2) (L : LkV (mown M) idx M') (hq : vwCl[ci]? = some q) (hq1 : q.1 = mown M') (e : isO S a ci = true) (hR : Fit X M' d' k n) (c : ACl M' d' S g vs Po) (hv : vs = [.ref a, v1, v2]) (hw : Nat.ble (st.map Value.category).sum 8 = true) (kk : ∀ (r : Int64) (S' : sH) (g' : GH), S'.1 = S.1 → Po r S' g' → AW M X Q ad k n (conc S' g') (pc + 3) ls (.long r :: st)) : AW M X Q ad k n (conc S g) pc ls (v2 :: v1 :: .ref a :: st) := by
  subst hv
  exact call_Vl (vs := [v1, v2]) d LC L hq hq1 e hR c rfl hw kk
theorem a_U2l {M' : Mi} {d' a idx : Nat} (ci : Nat) {q : vw_C} {v1 v2 : Value} {vs : List Value} {Po : Int64 → sH → GH → Prop} (d : decode (mcc M) pc = .ok (.invokevirtual idx, 3)) (hq : vwCl[ci]? = some q) (LC : LkC M' 2) (L : LkU (mown M) idx q.1 M' 2) (e : isO S a ci = true) (hR : Fit X M' d' k n) (c : ACl M' d' S g vs Po) (hv : vs = [.ref a, v1, v2]) (hw : Nat.ble (st.map Value.category).sum 8 = true) (kk : ∀ (r : Int64) (S' : sH) (g' : GH), S'.1 = S.1 → Po r S' g' → AW M X Q ad k n (conc S' g') (pc + 3) ls (.long r :: st)) : AW M X Q ad k n (conc S g) pc ls (v2 :: v1 :: .ref a :: st) := by
  subst hv
  exact call_Ul (vs := [v1, v2]) d hq LC L e hR c rfl hw kk
theorem a_V3l {M' : Mi} {d' a idx : Nat} (ci : Nat) {q : vw_C} {v1 v2 v3 : Value} {vs : List Value} {Po : Int64 → sH → GH → Prop} (d : decode (mcc M) pc = .ok (.invokevirtual idx, 3)) (LC : LkC M' 3) (L : LkV (mown M) idx M') (hq : vwCl[ci]? = some q) (hq1 : q.1 = mown M') (e : isO S a ci = true) (hR : Fit X M' d' k n) (c : ACl M' d' S g vs Po) (hv : vs = [.ref a, v1, v2, v3]) (hw : Nat.ble (st.map Value.category).sum 8 = true) (kk : ∀ (r : Int64) (S' : sH) (g' : GH), S'.1 = S.1 → Po r S' g' → AW M X Q ad k n (conc S' g') (pc + 3) ls (.long r :: st)) : AW M X Q ad k n (conc S g) pc ls (v3 :: v2 :: v1 :: .ref a :: st) := by
  subst hv
  exact call_Vl (vs := [v1, v2, v3]) d LC L hq hq1 e hR c rfl hw kk
theorem a_U3l {M' : Mi} {d' a idx : Nat} (ci : Nat) {q : vw_C} {v1 v2 v3 : Value} {vs : List Value} {Po : Int64 → sH → GH → Prop} (d : decode (mcc M) pc = .ok (.invokevirtual idx, 3)) (hq : vwCl[ci]? = some q) (LC : LkC M' 3) (L : LkU (mown M) idx q.1 M' 3) (e : isO S a ci = true) (hR : Fit X M' d' k n) (c : ACl M' d' S g vs Po) (hv : vs = [.ref a, v1, v2, v3]) (hw : Nat.ble (st.map Value.category).sum 8 = true) (kk : ∀ (r : Int64) (S' : sH) (g' : GH), S'.1 = S.1 → Po r S' g' → AW M X Q ad k n (conc S' g') (pc + 3) ls (.long r :: st)) : AW M X Q ad k n (conc S g) pc ls (v3 :: v2 :: v1 :: .ref a :: st) := by
  subst hv
  exact call_Ul (vs := [v1, v2, v3]) d hq LC L e hR c rfl hw kk
theorem a_V4l {M' : Mi} {d' a idx : Nat} (ci : Nat) {q : vw_C} {v1 v2 v3 v4 : Value} {vs : List Value} {Po : Int64 → sH → GH → Prop} (d : decode (mcc M) pc = .ok (.invokevirtual idx, 3)) (LC : LkC M' 4) (L : LkV (mown M) idx M') (hq : vwCl[ci]? = some q) (hq1 : q.1 = mown M') (e : isO S a ci = true) (hR : Fit X M' d' k n) (c : ACl M' d' S g vs Po) (hv : vs = [.ref a, v1, v2, v3, v4]) (hw : Nat.ble (st.map Value.category).sum 8 = true) (kk : ∀ (r : Int64) (S' : sH) (g' : GH), S'.1 = S.1 → Po r S' g' → AW M X Q ad k n (conc S' g') (pc + 3) ls (.long r :: st)) : AW M X Q ad k n (conc S g) pc ls (v4 :: v3 :: v2 :: v1 :: .ref a :: st) := by
  subst hv
  exact call_Vl (vs := [v1, v2, v3, v4]) d LC L hq hq1 e hR c rfl hw kk
theorem a_U4l {M' : Mi} {d' a idx : Nat} (ci : Nat) {q : vw_C} {v1 v2 v3 v4 : Value} {vs : List Value} {Po : Int64 → sH → GH → Prop} (d : decode (mcc M) pc = .ok (.invokevirtual idx, 3)) (hq : vwCl[ci]? = some q) (LC : LkC M' 4) (L : LkU (mown M) idx q.1 M' 4) (e : isO S a ci = true) (hR : Fit X M' d' k n) (c : ACl M' d' S g vs Po) (hv : vs = [.ref a, v1, v2, v3, v4]) (hw : Nat.ble (st.map Value.category).sum 8 = true) (kk : ∀ (r : Int64) (S' : sH) (g' : GH), S'.1 = S.1 → Po r S' g' → AW M X Q ad k n (conc S' g') (pc + 3) ls (.long r :: st)) : AW M X Q ad k n (conc S g) pc ls (v4 :: v3 :: v2 :: v1 :: .ref a :: st) := by
  subst hv
  exact call_Ul (vs := [v1, v2, v3, v4]) d hq LC L e hR c rfl hw kk
theorem a_V5l {M' : Mi} {d' a idx : Nat} (ci : Nat) {q : vw_C} {v1 v2 v3 v4 v5 : Value} {vs : List Value} {Po : Int64 → sH → GH → Prop} (d : decode (mcc M) pc = .ok (.invokevirtual idx, 3)) (LC : LkC M' 5) (L : LkV (mown M) idx M') (hq : vwCl[ci]? = some q) (hq1 : q.1 = mown M') (e : isO S a ci = true) (hR : Fit X M' d' k n) (c : ACl M' d' S g vs Po) (hv : vs = [.ref a, v1, v2, v3, v4, v5]) (hw : Nat.ble (st.map Value.category).sum 8 = true) (kk : ∀ (r : Int64) (S' : sH) (g' : GH), S'.1 = S.1 → Po r S' g' → AW M X Q ad k n (conc S' g') (pc + 3) ls (.long r :: st)) : AW M X Q ad k n (conc S g) pc ls (v5 :: v4 :: v3 :: v2 :: v1 :: .ref a :: st) := by
  subst hv
  exact call_Vl (vs := [v1, v2, v3, v4, v5]) d LC L hq hq1 e hR c rfl hw kk
theorem a_U5l {M' : Mi} {d' a idx : Nat} (ci : Nat) {q : vw_C} {v1 v2 v3 v4 v5 : Value} {vs : List Value} {Po : Int64 → sH → GH → Prop} (d : decode (mcc M) pc = .ok (.invokevirtual idx, 3)) (hq : vwCl[ci]? = some q) (LC : LkC M' 5) (L : LkU (mown M) idx q.1 M' 5) (e : isO S a ci = true) (hR : Fit X M' d' k n) (c : ACl M' d' S g vs Po) (hv : vs = [.ref a, v1, v2, v3, v4, v5]) (hw : Nat.ble (st.map Value.category).sum 8 = true) (kk : ∀ (r : Int64) (S' : sH) (g' : GH), S'.1 = S.1 → Po r S' g' → AW M X Q ad k n (conc S' g') (pc + 3) ls (.long r :: st)) : AW M X Q ad k n (conc S g) pc ls (v5 :: v4 :: v3 :: v2 :: v1 :: .ref a :: st) := by
  subst hv
  exact call_Ul (vs := [v1, v2, v3, v4, v5]) d hq LC L e hR c rfl hw kk
theorem a_V6l {M' : Mi} {d' a idx : Nat} (ci : Nat) {q : vw_C} {v1 v2 v3 v4 v5 v6 : Value} {vs : List Value} {Po : Int64 → sH → GH → Prop} (d : decode (mcc M) pc = .ok (.invokevirtual idx, 3)) (LC : LkC M' 6) (L : LkV (mown M) idx M') (hq : vwCl[ci]? = some q) (hq1 : q.1 = mown M') (e : isO S a ci = true) (hR : Fit X M' d' k n) (c : ACl M' d' S g vs Po) (hv : vs = [.ref a, v1, v2, v3, v4, v5, v6]) (hw : Nat.ble (st.map Value.category).sum 8 = true) (kk : ∀ (r : Int64) (S' : sH) (g' : GH), S'.1 = S.1 → Po r S' g' → AW M X Q ad k n (conc S' g') (pc + 3) ls (.long r :: st)) : AW M X Q ad k n (conc S g) pc ls (v6 :: v5 :: v4 :: v3 :: v2 :: v1 :: .ref a :: st) := by
  subst hv
  exact call_Vl (vs := [v1, v2, v3, v4, v5, v6]) d LC L hq hq1 e hR c rfl hw kk
theorem a_U6l {M' : Mi} {d' a idx : Nat} (ci : Nat) {q : vw_C} {v1 v2 v3 v4 v5 v6 : Value} {vs : List Value} {Po : Int64 → sH → GH → Prop} (d : decode (mcc M) pc = .ok (.invokevirtual idx, 3)) (hq : vwCl[ci]? = some q) (LC : LkC M' 6) (L : LkU (mown M) idx q.1 M' 6) (e : isO S a ci = true) (hR : Fit X M' d' k n) (c : ACl M' d' S g vs Po) (hv : vs = [.ref a, v1, v2, v3, v4, v5, v6]) (hw : Nat.ble (st.map Value.category).sum 8 = true) (kk : ∀ (r : Int64) (S' : sH) (g' : GH), S'.1 = S.1 → Po r S' g' → AW M X Q ad k n (conc S' g') (pc + 3) ls (.long r :: st)) : AW M X Q ad k n (conc S g) pc ls (v6 :: v5 :: v4 :: v3 :: v2 :: v1 :: .ref a :: st) := by
  subst hv
  exact call_Ul (vs := [v1, v2, v3, v4, v5, v6]) d hq LC L e hR c rfl hw kk
theorem a_S0l {M' : Mi} {d' idx : Nat} {vs : List Value} {Po : Int64 → sH → GH → Prop} (d : decode (mcc M) pc = .ok (.invokestatic idx, 3)) (LC : LkC M' 0) (L : LkS (mown M) idx M' ∨ LkN (mown M) idx M') (hR : Fit X M' d' k n) (c : ACl M' d' S g vs Po) (hv : vs = []) (hw : Nat.ble (st.map Value.category).sum 8 = true) (kk : ∀ (r : Int64) (S' : sH) (g' : GH), S'.1 = S.1 → Po r S' g' → AW M X Q ad k n (conc S' g') (pc + 3) ls (.long r :: st)) : AW M X Q ad k n (conc S g) pc ls st := by
  subst hv
  exact call_Sl (vs := []) d LC L hR c rfl hw kk
theorem a_S1l {M' : Mi} {d' idx : Nat} {v1 : Value} {vs : List Value} {Po : Int64 → sH → GH → Prop} (d : decode (mcc M) pc = .ok (.invokestatic idx, 3)) (LC : LkC M' 1) (L : LkS (mown M) idx M' ∨ LkN (mown M) idx M') (hR : Fit X M' d' k n) (c : ACl M' d' S g vs Po) (hv : vs = [v1]) (hw : Nat.ble (st.map Value.category).sum 8 = true) (kk : ∀ (r : Int64) (S' : sH) (g' : GH), S'.1 = S.1 → Po r S' g' → AW M X Q ad k n (conc S' g') (pc + 3) ls (.long r :: st)) : AW M X Q ad k n (conc S g) pc ls (v1 :: st) := by
  subst hv
  exact call_Sl (vs := [v1]) d LC L hR c rfl hw kk
theorem a_S2l {M' : Mi} {d' idx : Nat} {v1 v2 : Value} {vs : List Value} {Po : Int64 → sH → GH → Prop} (d : decode (mcc M) pc = .ok (.invokestatic idx, 3)) (LC : LkC M' 2) (L : LkS (mown M) idx M' ∨ LkN (mown M) idx M') (hR : Fit X M' d' k n) (c : ACl M' d' S g vs Po) (hv : vs = [v1, v2]) (hw : Nat.ble (st.map Value.category).sum 8 = true) (kk : ∀ (r : Int64) (S' : sH) (g' : GH), S'.1 = S.1 → Po r S' g' → AW M X Q ad k n (conc S' g') (pc + 3) ls (.long r :: st)) : AW M X Q ad k n (conc S g) pc ls (v2 :: v1 :: st) := by
  subst hv
  exact call_Sl (vs := [v1, v2]) d LC L hR c rfl hw kk
theorem a_S3l {M' : Mi} {d' idx : Nat} {v1 v2 v3 : Value} {vs : List Value} {Po : Int64 → sH → GH → Prop} (d : decode (mcc M) pc = .ok (.invokestatic idx, 3)) (LC : LkC M' 3) (L : LkS (mown M) idx M' ∨ LkN (mown M) idx M') (hR : Fit X M' d' k n) (c : ACl M' d' S g vs Po) (hv : vs = [v1, v2, v3]) (hw : Nat.ble (st.map Value.category).sum 8 = true) (kk : ∀ (r : Int64) (S' : sH) (g' : GH), S'.1 = S.1 → Po r S' g' → AW M X Q ad k n (conc S' g') (pc + 3) ls (.long r :: st)) : AW M X Q ad k n (conc S g) pc ls (v3 :: v2 :: v1 :: st) := by
  subst hv
  exact call_Sl (vs := [v1, v2, v3]) d LC L hR c rfl hw kk
theorem a_S4l {M' : Mi} {d' idx : Nat} {v1 v2 v3 v4 : Value} {vs : List Value} {Po : Int64 → sH → GH → Prop} (d : decode (mcc M) pc = .ok (.invokestatic idx, 3)) (LC : LkC M' 4) (L : LkS (mown M) idx M' ∨ LkN (mown M) idx M') (hR : Fit X M' d' k n) (c : ACl M' d' S g vs Po) (hv : vs = [v1, v2, v3, v4]) (hw : Nat.ble (st.map Value.category).sum 8 = true) (kk : ∀ (r : Int64) (S' : sH) (g' : GH), S'.1 = S.1 → Po r S' g' → AW M X Q ad k n (conc S' g') (pc + 3) ls (.long r :: st)) : AW M X Q ad k n (conc S g) pc ls (v4 :: v3 :: v2 :: v1 :: st) := by
  subst hv
  exact call_Sl (vs := [v1, v2, v3, v4]) d LC L hR c rfl hw kk
theorem a_S5l {M' : Mi} {d' idx : Nat} {v1 v2 v3 v4 v5 : Value} {vs : List Value} {Po : Int64 → sH → GH → Prop} (d : decode (mcc M) pc = .ok (.invokestatic idx, 3)) (LC : LkC M' 5) (L : LkS (mown M) idx M' ∨ LkN (mown M) idx M') (hR : Fit X M' d' k n) (c : ACl M' d' S g vs Po) (hv : vs = [v1, v2, v3, v4, v5]) (hw : Nat.ble (st.map Value.category).sum 8 = true) (kk : ∀ (r : Int64) (S' : sH) (g' : GH), S'.1 = S.1 → Po r S' g' → AW M X Q ad k n (conc S' g') (pc + 3) ls (.long r :: st)) : AW M X Q ad k n (conc S g) pc ls (v5 :: v4 :: v3 :: v2 :: v1 :: st) := by
  subst hv
  exact call_Sl (vs := [v1, v2, v3, v4, v5]) d LC L hR c rfl hw kk
theorem a_S6l {M' : Mi} {d' idx : Nat} {v1 v2 v3 v4 v5 v6 : Value} {vs : List Value} {Po : Int64 → sH → GH → Prop} (d : decode (mcc M) pc = .ok (.invokestatic idx, 3)) (LC : LkC M' 6) (L : LkS (mown M) idx M' ∨ LkN (mown M) idx M') (hR : Fit X M' d' k n) (c : ACl M' d' S g vs Po) (hv : vs = [v1, v2, v3, v4, v5, v6]) (hw : Nat.ble (st.map Value.category).sum 8 = true) (kk : ∀ (r : Int64) (S' : sH) (g' : GH), S'.1 = S.1 → Po r S' g' → AW M X Q ad k n (conc S' g') (pc + 3) ls (.long r :: st)) : AW M X Q ad k n (conc S g) pc ls (v6 :: v5 :: v4 :: v3 :: v2 :: v1 :: st) := by
  subst hv
  exact call_Sl (vs := [v1, v2, v3, v4, v5, v6]) d LC L hR c rfl hw kk
theorem a_S7l {M' : Mi} {d' idx : Nat} {v1 v2 v3 v4 v5 v6 v7 : Value} {vs : List Value} {Po : Int64 → sH → GH → Prop} (d : decode (mcc M) pc = .ok (.invokestatic idx, 3)) (LC : LkC M' 7) (L : LkS (mown M) idx M' ∨ LkN (mown M) idx M') (hR : Fit X M' d' k n) (c : ACl M' d' S g vs Po) (hv : vs = [v1, v2, v3, v4, v5, v6, v7]) (hw : Nat.ble (st.map Value.category).sum 8 = true) (kk : ∀ (r : Int64) (S' : sH) (g' : GH), S'.1 = S.1 → Po r S' g' → AW M X Q ad k n (conc S' g') (pc + 3) ls (.long r :: st)) : AW M X Q ad k n (conc S g) pc ls (v7 :: v6 :: v5 :: v4 :: v3 :: v2 :: v1 :: st) := by
  subst hv
  exact call_Sl (vs := [v1, v2, v3, v4, v5, v6, v7]) d LC L hR c rfl hw kk
theorem core_v {M' : Mi} {d' : Nat} {vs : List Value} {Po : sH → GH → Prop} (c : ACv M' d' S g vs Po) {stk : List Value}
    (hrun : XOk M X → ∀ (H : Heap) (locs : List Loc) (lc : Array Slot), Rl M X ad (conc S g) ls H locs lc → Met (xl X) (my M') (mws M') (rmD d') (va_Pc (vs.map (sv ad)) (Wd (xD X) (xdA X) ad S g H.size)) (va_Qv (fun (u : sH × GH) => Po u.1 u.2) (Bd (xD X) (xdA X) ad S g H.size) (va_A (sw (xdA X) ad (conc S g)) H.size)) 0 0 (va_A (sw (xdA X) ad (conc S g)) H.size) →
      va_Run (xp X) (xl X) (xe X) (xR X) (xs X) (xm X) (xa X) (xb X) (xme X) (xc X) H locs k n 0 0 (F0 (xm X) pc lc (stk.map (sv ad))) (st.map (sv ad)) ((va_Qv (fun (u : sH × GH) => Po u.1 u.2) (Bd (xD X) (xdA X) ad S g H.size) (va_A (sw (xdA X) ad (conc S g)) H.size)) (vs.map (sv ad)).toArray) (va_A (sw (xdA X) ad (conc S g)) H.size))
    (kk : ∀ (S' : sH) (g' : GH), S'.1 = S.1 → Po S' g' → AW M X Q ad k n (conc S' g') (pc + 3) ls st) : AW M X Q ad k n (conc S g) pc ls stk := by
  intro C H locs lc r
  have hF := Rl.free C r
  exact va_callv (hrun C H locs lc r (c (xl X) (xD X) (xdA X) ad H.size)) r.2.2.1 (fun q _ hq => hF q hq) hF (fun u t H1 locs1 ht hvm hp hB hz hk hS => kk u.1 u.2 hB.1 hp C H1 locs1 lc ⟨ht ▸ hB.2.1, hB.2.2.weaken (fun _ _ _ hq => hF _ hq), hS, r.2.2.2⟩)
theorem call_Vv {M' : Mi} {d' a idx ci nn : Nat} {q : vw_C} {vs : List Value} {Po : sH → GH → Prop} (d : decode (mcc M) pc = .ok (.invokevirtual idx, 3)) (LC : LkC M' nn) (L : LkV (mown M) idx M') (hq : vwCl[ci]? = some q) (hq1 : q.1 = mown M') (e : isO S a ci = true) (hR : Fit X M' d' k n) (c : ACv M' d' S g (.ref a :: vs) Po) (hn : vs.length = nn) (hw : Nat.ble (st.map Value.category).sum 8 = true)
    (kk : ∀ (S' : sH) (g' : GH), S'.1 = S.1 → Po S' g' → AW M X Q ad k n (conc S' g') (pc + 3) ls st) : AW M X Q ad k n (conc S g) pc ls (vs.reverse ++ .ref a :: st) := by
  refine core_v c (fun C H locs lc r hM => ?_) kk
  obtain ⟨ha, fs, hfs⟩ := isO_ok (g := g) e
  have hG : GoodIn gW (wsV (mown M) idx (mown M') (my M') (mws M')) := by
    intro w hwm
    simp only [wsV, List.cons_append, List.nil_append, List.mem_cons] at hwm
    rcases hwm with rfl | rfl | rfl | rfl | h
    · exact gW_good _ L.1
    · exact gW_good _ L.2.1
    · exact gW_good _ L.2.2
    · exact gW_good _ LC.2.2.1
    · exact gW_cons LC.1 _ h
  have hrec := va_recv (q := q) C.2.2.2.2.2.2.2.2.1.1 r.1 hq (q0 := a) (a := ad a) (ci := ci) (fs := fs.map (sv ad)) (by rw [sw_at (h := conc S g) ha, hfs]; rfl)
  rw [hq1] at hrec
  refine va_runV (As := vs.map (sv ad)) (b := ad a) (n := nn) (C := mown M') ⟨C.1, C.2.1, C.2.2.1, C.2.2.2.1, C.2.2.2.2.1⟩ hM (cwV nn C.2.2.2.2.1 hG rfl rfl rfl ⟨rfl, LC.2.1⟩ hR.1) ⟨Wd.blind, hrec, Rl.pre C r⟩ rfl (by simpa using hn) r.2.2.2.1 (by simp [F0, sv]) (lv_room (rest_cat st (Nat.le_of_ble_eq_true hw))) d hR.2
theorem call_Uv {M' : Mi} {d' a idx ci nn : Nat} {q : vw_C} {vs : List Value} {Po : sH → GH → Prop} (d : decode (mcc M) pc = .ok (.invokevirtual idx, 3)) (hq : vwCl[ci]? = some q) (LC : LkC M' nn) (L : LkU (mown M) idx q.1 M' nn) (e : isO S a ci = true) (hR : Fit X M' d' k n) (c : ACv M' d' S g (.ref a :: vs) Po) (hn : vs.length = nn) (hw : Nat.ble (st.map Value.category).sum 8 = true)
    (kk : ∀ (S' : sH) (g' : GH), S'.1 = S.1 → Po S' g' → AW M X Q ad k n (conc S' g') (pc + 3) ls st) : AW M X Q ad k n (conc S g) pc ls (vs.reverse ++ .ref a :: st) := by
  refine core_v c (fun C H locs lc r hM => ?_) kk
  obtain ⟨ha, fs, hfs⟩ := isO_ok (g := g) e
  obtain ⟨owner, x, l1, l2, l3, l4, l5, l6⟩ := L
  have hrec := va_recv (q := q) C.2.2.2.2.2.2.2.2.1.1 r.1 hq (q0 := a) (a := ad a) (ci := ci) (fs := fs.map (sv ad)) (by rw [sw_at (h := conc S g) ha, hfs]; rfl)
  have hcw : va_CU (xR X) (xs X) (xa X) (mown M) q.1 owner idx x (my M') (mcc M') (mnL M') (mret M') (mws M') (rmD d') 0 0 nn := by
    have hG : GoodIn gW (va_wsU (mown M) idx q.1 owner x (my M') (mws M')) := by
      intro w hwm
      simp only [va_wsU, List.cons_append, List.nil_append, List.mem_cons] at hwm
      rcases hwm with rfl | rfl | rfl | rfl | rfl | h
      · exact gW_good _ l1
      · exact gW_good _ l2
      · exact gW_good _ l3
      · exact gW_good _ l4
      · exact gW_good _ LC.2.2.1
      · exact gW_cons LC.1 _ h
    rcases l6 with h | ⟨b0, m0, r0, h0, h⟩ | h
    · exact va_cwU nn C.2.2.2.2.1 hG rfl rfl rfl h l5 hR.1
    · refine va_cwO nn C.2.2.2.2.1 ?_ rfl rfl rfl h l5 hR.1
      intro w hwm
      simp only [va_wsO, List.cons_append, List.nil_append, List.mem_cons] at hwm
      rcases hwm with rfl | rfl | rfl | rfl | rfl | rfl | h
      · exact gW_good _ l1
      · exact gW_good _ l2
      · exact gW_good _ h0
      · exact gW_good _ l3
      · exact gW_good _ l4
      · exact gW_good _ LC.2.2.1
      · exact gW_cons LC.1 _ h
    · exact va_cwA nn C.2.2.2.2.1 hG rfl rfl rfl (C.2.2.2.2.2.2.2.2.1.2.1 _ h) l5 hR.1
  exact va_runU (As := vs.map (sv ad)) (b := ad a) (n := nn) ⟨C.1, C.2.1, C.2.2.1, C.2.2.2.1, C.2.2.2.2.1⟩ hM hcw ⟨Wd.blind, hrec, Rl.pre C r⟩ rfl (by simpa using hn) r.2.2.2.1 (by simp [F0, sv]) (lv_room (rest_cat st (Nat.le_of_ble_eq_true hw))) d hR.2
theorem call_Sv {M' : Mi} {d' idx nn : Nat} {vs : List Value} {Po : sH → GH → Prop} (d : decode (mcc M) pc = .ok (.invokestatic idx, 3)) (LC : LkC M' nn) (L : LkS (mown M) idx M' ∨ LkN (mown M) idx M') (hR : Fit X M' d' k n) (c : ACv M' d' S g vs Po) (hn : vs.length = nn) (hw : Nat.ble (st.map Value.category).sum 8 = true)
    (kk : ∀ (S' : sH) (g' : GH), S'.1 = S.1 → Po S' g' → AW M X Q ad k n (conc S' g') (pc + 3) ls st) : AW M X Q ad k n (conc S g) pc ls (vs.reverse ++ st) := by
  refine core_v c (fun C H locs lc r hM => ?_) kk
  rcases L with L | L
  · have hG : GoodIn gW (va_wsS (mown M) idx (my M') (mws M')) := by
      intro w hwm
      simp only [va_wsS, List.cons_append, List.nil_append, List.mem_cons] at hwm
      rcases hwm with rfl | rfl | rfl | h
      · exact gW_good _ L.1
      · exact gW_good _ L.2
      · exact gW_good _ LC.2.2.1
      · exact gW_cons LC.1 _ h
    exact va_runS (As := vs.map (sv ad)) (n := nn) ⟨C.1, C.2.1, C.2.2.1, C.2.2.2.1, C.2.2.2.2.1⟩ hM (va_cwS nn C.2.2.2.2.1 hG rfl rfl rfl LC.2.1 hR.1) ⟨Wd.blind, Rl.pre C r⟩ rfl (by simpa using hn) r.2.2.2.1 (by simp [F0]) (lv_room (rest_cat st (Nat.le_of_ble_eq_true hw))) d hR.2
  · obtain ⟨⟨host, hh⟩, hs⟩ := L
    exact va_runSN (As := vs.map (sv ad)) (n := nn) ⟨C.1, C.2.1, C.2.2.1, C.2.2.2.1, C.2.2.2.2.1⟩ hM ⟨va_cnB (host := host) nn C.2.2.2.2.1 (gW_cons LC.1) rfl rfl rfl (C.2.2.2.2.2.2.2.2.1.2.1 _ hh) (C.2.2.2.2.1 _ LC.2.2.1) LC.2.1 hR.1, C.2.2.2.2.1 _ hs, trivial⟩ ⟨Wd.blind, Rl.pre C r⟩ rfl (by simpa using hn) r.2.2.2.1 (by simp [F0]) (lv_room (rest_cat st (Nat.le_of_ble_eq_true hw))) d hR.2
theorem a_V0v {M' : Mi} {d' a idx : Nat} (ci : Nat) {q : vw_C} {vs : List Value} {Po : sH → GH → Prop} (d : decode (mcc M) pc = .ok (.invokevirtual idx, 3)) (LC : LkC M' 0) (L : LkV (mown M) idx M') (hq : vwCl[ci]? = some q) (hq1 : q.1 = mown M') (e : isO S a ci = true) (hR : Fit X M' d' k n) (c : ACv M' d' S g vs Po) (hv : vs = [.ref a]) (hw : Nat.ble (st.map Value.category).sum 8 = true) (kk : ∀ (S' : sH) (g' : GH), S'.1 = S.1 → Po S' g' → AW M X Q ad k n (conc S' g') (pc + 3) ls st) : AW M X Q ad k n (conc S g) pc ls (.ref a :: st) := by
  subst hv
  exact call_Vv (vs := []) d LC L hq hq1 e hR c rfl hw kk
theorem a_U0v {M' : Mi} {d' a idx : Nat} (ci : Nat) {q : vw_C} {vs : List Value} {Po : sH → GH → Prop} (d : decode (mcc M) pc = .ok (.invokevirtual idx, 3)) (hq : vwCl[ci]? = some q) (LC : LkC M' 0) (L : LkU (mown M) idx q.1 M' 0) (e : isO S a ci = true) (hR : Fit X M' d' k n) (c : ACv M' d' S g vs Po) (hv : vs = [.ref a]) (hw : Nat.ble (st.map Value.category).sum 8 = true) (kk : ∀ (S' : sH) (g' : GH), S'.1 = S.1 → Po S' g' → AW M X Q ad k n (conc S' g') (pc + 3) ls st) : AW M X Q ad k n (conc S g) pc ls (.ref a :: st) := by
  subst hv
  exact call_Uv (vs := []) d hq LC L e hR c rfl hw kk
theorem a_V1v {M' : Mi} {d' a idx : Nat} (ci : Nat) {q : vw_C} {v1 : Value} {vs : List Value} {Po : sH → GH → Prop} (d : decode (mcc M) pc = .ok (.invokevirtual idx, 3)) (LC : LkC M' 1) (L : LkV (mown M) idx M') (hq : vwCl[ci]? = some q) (hq1 : q.1 = mown M') (e : isO S a ci = true) (hR : Fit X M' d' k n) (c : ACv M' d' S g vs Po) (hv : vs = [.ref a, v1]) (hw : Nat.ble (st.map Value.category).sum 8 = true) (kk : ∀ (S' : sH) (g' : GH), S'.1 = S.1 → Po S' g' → AW M X Q ad k n (conc S' g') (pc + 3) ls st) : AW M X Q ad k n (conc S g) pc ls (v1 :: .ref a :: st) := by
  subst hv
  exact call_Vv (vs := [v1]) d LC L hq hq1 e hR c rfl hw kk
theorem a_U1v {M' : Mi} {d' a idx : Nat} (ci : Nat) {q : vw_C} {v1 : Value} {vs : List Value} {Po : sH → GH → Prop} (d : decode (mcc M) pc = .ok (.invokevirtual idx, 3)) (hq : vwCl[ci]? = some q) (LC : LkC M' 1) (L : LkU (mown M) idx q.1 M' 1) (e : isO S a ci = true) (hR : Fit X M' d' k n) (c : ACv M' d' S g vs Po) (hv : vs = [.ref a, v1]) (hw : Nat.ble (st.map Value.category).sum 8 = true) (kk : ∀ (S' : sH) (g' : GH), S'.1 = S.1 → Po S' g' → AW M X Q ad k n (conc S' g') (pc + 3) ls st) : AW M X Q ad k n (conc S g) pc ls (v1 :: .ref a :: st) := by
  subst hv
  exact call_Uv (vs := [v1]) d hq LC L e hR c rfl hw kk
theorem a_V2v {M' : Mi} {d' a idx : Nat} (ci : Nat) {q : vw_C} {v1 v2 : Value} {vs : List Value} {Po : sH → GH → Prop} (d : decode (mcc M) pc = .ok (.invokevirtual idx, 3)) (LC : LkC M' 2) (L : LkV (mown M) idx M') (hq : vwCl[ci]? = some q) (hq1 : q.1 = mown M') (e : isO S a ci = true) (hR : Fit X M' d' k n) (c : ACv M' d' S g vs Po) (hv : vs = [.ref a, v1, v2]) (hw : Nat.ble (st.map Value.category).sum 8 = true) (kk : ∀ (S' : sH) (g' : GH), S'.1 = S.1 → Po S' g' → AW M X Q ad k n (conc S' g') (pc + 3) ls st) : AW M X Q ad k n (conc S g) pc ls (v2 :: v1 :: .ref a :: st) := by
  subst hv
  exact call_Vv (vs := [v1, v2]) d LC L hq hq1 e hR c rfl hw kk
theorem a_U2v {M' : Mi} {d' a idx : Nat} (ci : Nat) {q : vw_C} {v1 v2 : Value} {vs : List Value} {Po : sH → GH → Prop} (d : decode (mcc M) pc = .ok (.invokevirtual idx, 3)) (hq : vwCl[ci]? = some q) (LC : LkC M' 2) (L : LkU (mown M) idx q.1 M' 2) (e : isO S a ci = true) (hR : Fit X M' d' k n) (c : ACv M' d' S g vs Po) (hv : vs = [.ref a, v1, v2]) (hw : Nat.ble (st.map Value.category).sum 8 = true) (kk : ∀ (S' : sH) (g' : GH), S'.1 = S.1 → Po S' g' → AW M X Q ad k n (conc S' g') (pc + 3) ls st) : AW M X Q ad k n (conc S g) pc ls (v2 :: v1 :: .ref a :: st) := by
  subst hv
  exact call_Uv (vs := [v1, v2]) d hq LC L e hR c rfl hw kk
theorem a_V3v {M' : Mi} {d' a idx : Nat} (ci : Nat) {q : vw_C} {v1 v2 v3 : Value} {vs : List Value} {Po : sH → GH → Prop} (d : decode (mcc M) pc = .ok (.invokevirtual idx, 3)) (LC : LkC M' 3) (L : LkV (mown M) idx M') (hq : vwCl[ci]? = some q) (hq1 : q.1 = mown M') (e : isO S a ci = true) (hR : Fit X M' d' k n) (c : ACv M' d' S g vs Po) (hv : vs = [.ref a, v1, v2, v3]) (hw : Nat.ble (st.map Value.category).sum 8 = true) (kk : ∀ (S' : sH) (g' : GH), S'.1 = S.1 → Po S' g' → AW M X Q ad k n (conc S' g') (pc + 3) ls st) : AW M X Q ad k n (conc S g) pc ls (v3 :: v2 :: v1 :: .ref a :: st) := by
  subst hv
  exact call_Vv (vs := [v1, v2, v3]) d LC L hq hq1 e hR c rfl hw kk
theorem a_U3v {M' : Mi} {d' a idx : Nat} (ci : Nat) {q : vw_C} {v1 v2 v3 : Value} {vs : List Value} {Po : sH → GH → Prop} (d : decode (mcc M) pc = .ok (.invokevirtual idx, 3)) (hq : vwCl[ci]? = some q) (LC : LkC M' 3) (L : LkU (mown M) idx q.1 M' 3) (e : isO S a ci = true) (hR : Fit X M' d' k n) (c : ACv M' d' S g vs Po) (hv : vs = [.ref a, v1, v2, v3]) (hw : Nat.ble (st.map Value.category).sum 8 = true) (kk : ∀ (S' : sH) (g' : GH), S'.1 = S.1 → Po S' g' → AW M X Q ad k n (conc S' g') (pc + 3) ls st) : AW M X Q ad k n (conc S g) pc ls (v3 :: v2 :: v1 :: .ref a :: st) := by
  subst hv
  exact call_Uv (vs := [v1, v2, v3]) d hq LC L e hR c rfl hw kk
theorem a_V4v {M' : Mi} {d' a idx : Nat} (ci : Nat) {q : vw_C} {v1 v2 v3 v4 : Value} {vs : List Value} {Po : sH → GH → Prop} (d : decode (mcc M) pc = .ok (.invokevirtual idx, 3)) (LC : LkC M' 4) (L : LkV (mown M) idx M') (hq : vwCl[ci]? = some q) (hq1 : q.1 = mown M') (e : isO S a ci = true) (hR : Fit X M' d' k n) (c : ACv M' d' S g vs Po) (hv : vs = [.ref a, v1, v2, v3, v4]) (hw : Nat.ble (st.map Value.category).sum 8 = true) (kk : ∀ (S' : sH) (g' : GH), S'.1 = S.1 → Po S' g' → AW M X Q ad k n (conc S' g') (pc + 3) ls st) : AW M X Q ad k n (conc S g) pc ls (v4 :: v3 :: v2 :: v1 :: .ref a :: st) := by
  subst hv
  exact call_Vv (vs := [v1, v2, v3, v4]) d LC L hq hq1 e hR c rfl hw kk
theorem a_U4v {M' : Mi} {d' a idx : Nat} (ci : Nat) {q : vw_C} {v1 v2 v3 v4 : Value} {vs : List Value} {Po : sH → GH → Prop} (d : decode (mcc M) pc = .ok (.invokevirtual idx, 3)) (hq : vwCl[ci]? = some q) (LC : LkC M' 4) (L : LkU (mown M) idx q.1 M' 4) (e : isO S a ci = true) (hR : Fit X M' d' k n) (c : ACv M' d' S g vs Po) (hv : vs = [.ref a, v1, v2, v3, v4]) (hw : Nat.ble (st.map Value.category).sum 8 = true) (kk : ∀ (S' : sH) (g' : GH), S'.1 = S.1 → Po S' g' → AW M X Q ad k n (conc S' g') (pc + 3) ls st) : AW M X Q ad k n (conc S g) pc ls (v4 :: v3 :: v2 :: v1 :: .ref a :: st) := by
  subst hv
  exact call_Uv (vs := [v1, v2, v3, v4]) d hq LC L e hR c rfl hw kk
theorem a_V5v {M' : Mi} {d' a idx : Nat} (ci : Nat) {q : vw_C} {v1 v2 v3 v4 v5 : Value} {vs : List Value} {Po : sH → GH → Prop} (d : decode (mcc M) pc = .ok (.invokevirtual idx, 3)) (LC : LkC M' 5) (L : LkV (mown M) idx M') (hq : vwCl[ci]? = some q) (hq1 : q.1 = mown M') (e : isO S a ci = true) (hR : Fit X M' d' k n) (c : ACv M' d' S g vs Po) (hv : vs = [.ref a, v1, v2, v3, v4, v5]) (hw : Nat.ble (st.map Value.category).sum 8 = true) (kk : ∀ (S' : sH) (g' : GH), S'.1 = S.1 → Po S' g' → AW M X Q ad k n (conc S' g') (pc + 3) ls st) : AW M X Q ad k n (conc S g) pc ls (v5 :: v4 :: v3 :: v2 :: v1 :: .ref a :: st) := by
  subst hv
  exact call_Vv (vs := [v1, v2, v3, v4, v5]) d LC L hq hq1 e hR c rfl hw kk
theorem a_U5v {M' : Mi} {d' a idx : Nat} (ci : Nat) {q : vw_C} {v1 v2 v3 v4 v5 : Value} {vs : List Value} {Po : sH → GH → Prop} (d : decode (mcc M) pc = .ok (.invokevirtual idx, 3)) (hq : vwCl[ci]? = some q) (LC : LkC M' 5) (L : LkU (mown M) idx q.1 M' 5) (e : isO S a ci = true) (hR : Fit X M' d' k n) (c : ACv M' d' S g vs Po) (hv : vs = [.ref a, v1, v2, v3, v4, v5]) (hw : Nat.ble (st.map Value.category).sum 8 = true) (kk : ∀ (S' : sH) (g' : GH), S'.1 = S.1 → Po S' g' → AW M X Q ad k n (conc S' g') (pc + 3) ls st) : AW M X Q ad k n (conc S g) pc ls (v5 :: v4 :: v3 :: v2 :: v1 :: .ref a :: st) := by
  subst hv
  exact call_Uv (vs := [v1, v2, v3, v4, v5]) d hq LC L e hR c rfl hw kk
theorem a_V6v {M' : Mi} {d' a idx : Nat} (ci : Nat) {q : vw_C} {v1 v2 v3 v4 v5 v6 : Value} {vs : List Value} {Po : sH → GH → Prop} (d : decode (mcc M) pc = .ok (.invokevirtual idx, 3)) (LC : LkC M' 6) (L : LkV (mown M) idx M') (hq : vwCl[ci]? = some q) (hq1 : q.1 = mown M') (e : isO S a ci = true) (hR : Fit X M' d' k n) (c : ACv M' d' S g vs Po) (hv : vs = [.ref a, v1, v2, v3, v4, v5, v6]) (hw : Nat.ble (st.map Value.category).sum 8 = true) (kk : ∀ (S' : sH) (g' : GH), S'.1 = S.1 → Po S' g' → AW M X Q ad k n (conc S' g') (pc + 3) ls st) : AW M X Q ad k n (conc S g) pc ls (v6 :: v5 :: v4 :: v3 :: v2 :: v1 :: .ref a :: st) := by
  subst hv
  exact call_Vv (vs := [v1, v2, v3, v4, v5, v6]) d LC L hq hq1 e hR c rfl hw kk
theorem a_U6v {M' : Mi} {d' a idx : Nat} (ci : Nat) {q : vw_C} {v1 v2 v3 v4 v5 v6 : Value} {vs : List Value} {Po : sH → GH → Prop} (d : decode (mcc M) pc = .ok (.invokevirtual idx, 3)) (hq : vwCl[ci]? = some q) (LC : LkC M' 6) (L : LkU (mown M) idx q.1 M' 6) (e : isO S a ci = true) (hR : Fit X M' d' k n) (c : ACv M' d' S g vs Po) (hv : vs = [.ref a, v1, v2, v3, v4, v5, v6]) (hw : Nat.ble (st.map Value.category).sum 8 = true) (kk : ∀ (S' : sH) (g' : GH), S'.1 = S.1 → Po S' g' → AW M X Q ad k n (conc S' g') (pc + 3) ls st) : AW M X Q ad k n (conc S g) pc ls (v6 :: v5 :: v4 :: v3 :: v2 :: v1 :: .ref a :: st) := by
  subst hv
  exact call_Uv (vs := [v1, v2, v3, v4, v5, v6]) d hq LC L e hR c rfl hw kk
theorem a_S0v {M' : Mi} {d' idx : Nat} {vs : List Value} {Po : sH → GH → Prop} (d : decode (mcc M) pc = .ok (.invokestatic idx, 3)) (LC : LkC M' 0) (L : LkS (mown M) idx M' ∨ LkN (mown M) idx M') (hR : Fit X M' d' k n) (c : ACv M' d' S g vs Po) (hv : vs = []) (hw : Nat.ble (st.map Value.category).sum 8 = true) (kk : ∀ (S' : sH) (g' : GH), S'.1 = S.1 → Po S' g' → AW M X Q ad k n (conc S' g') (pc + 3) ls st) : AW M X Q ad k n (conc S g) pc ls st := by
  subst hv
  exact call_Sv (vs := []) d LC L hR c rfl hw kk
theorem a_S1v {M' : Mi} {d' idx : Nat} {v1 : Value} {vs : List Value} {Po : sH → GH → Prop} (d : decode (mcc M) pc = .ok (.invokestatic idx, 3)) (LC : LkC M' 1) (L : LkS (mown M) idx M' ∨ LkN (mown M) idx M') (hR : Fit X M' d' k n) (c : ACv M' d' S g vs Po) (hv : vs = [v1]) (hw : Nat.ble (st.map Value.category).sum 8 = true) (kk : ∀ (S' : sH) (g' : GH), S'.1 = S.1 → Po S' g' → AW M X Q ad k n (conc S' g') (pc + 3) ls st) : AW M X Q ad k n (conc S g) pc ls (v1 :: st) := by
  subst hv
  exact call_Sv (vs := [v1]) d LC L hR c rfl hw kk
theorem a_S2v {M' : Mi} {d' idx : Nat} {v1 v2 : Value} {vs : List Value} {Po : sH → GH → Prop} (d : decode (mcc M) pc = .ok (.invokestatic idx, 3)) (LC : LkC M' 2) (L : LkS (mown M) idx M' ∨ LkN (mown M) idx M') (hR : Fit X M' d' k n) (c : ACv M' d' S g vs Po) (hv : vs = [v1, v2]) (hw : Nat.ble (st.map Value.category).sum 8 = true) (kk : ∀ (S' : sH) (g' : GH), S'.1 = S.1 → Po S' g' → AW M X Q ad k n (conc S' g') (pc + 3) ls st) : AW M X Q ad k n (conc S g) pc ls (v2 :: v1 :: st) := by
  subst hv
  exact call_Sv (vs := [v1, v2]) d LC L hR c rfl hw kk
theorem a_S3v {M' : Mi} {d' idx : Nat} {v1 v2 v3 : Value} {vs : List Value} {Po : sH → GH → Prop} (d : decode (mcc M) pc = .ok (.invokestatic idx, 3)) (LC : LkC M' 3) (L : LkS (mown M) idx M' ∨ LkN (mown M) idx M') (hR : Fit X M' d' k n) (c : ACv M' d' S g vs Po) (hv : vs = [v1, v2, v3]) (hw : Nat.ble (st.map Value.category).sum 8 = true) (kk : ∀ (S' : sH) (g' : GH), S'.1 = S.1 → Po S' g' → AW M X Q ad k n (conc S' g') (pc + 3) ls st) : AW M X Q ad k n (conc S g) pc ls (v3 :: v2 :: v1 :: st) := by
  subst hv
  exact call_Sv (vs := [v1, v2, v3]) d LC L hR c rfl hw kk
theorem a_S4v {M' : Mi} {d' idx : Nat} {v1 v2 v3 v4 : Value} {vs : List Value} {Po : sH → GH → Prop} (d : decode (mcc M) pc = .ok (.invokestatic idx, 3)) (LC : LkC M' 4) (L : LkS (mown M) idx M' ∨ LkN (mown M) idx M') (hR : Fit X M' d' k n) (c : ACv M' d' S g vs Po) (hv : vs = [v1, v2, v3, v4]) (hw : Nat.ble (st.map Value.category).sum 8 = true) (kk : ∀ (S' : sH) (g' : GH), S'.1 = S.1 → Po S' g' → AW M X Q ad k n (conc S' g') (pc + 3) ls st) : AW M X Q ad k n (conc S g) pc ls (v4 :: v3 :: v2 :: v1 :: st) := by
  subst hv
  exact call_Sv (vs := [v1, v2, v3, v4]) d LC L hR c rfl hw kk
theorem a_S5v {M' : Mi} {d' idx : Nat} {v1 v2 v3 v4 v5 : Value} {vs : List Value} {Po : sH → GH → Prop} (d : decode (mcc M) pc = .ok (.invokestatic idx, 3)) (LC : LkC M' 5) (L : LkS (mown M) idx M' ∨ LkN (mown M) idx M') (hR : Fit X M' d' k n) (c : ACv M' d' S g vs Po) (hv : vs = [v1, v2, v3, v4, v5]) (hw : Nat.ble (st.map Value.category).sum 8 = true) (kk : ∀ (S' : sH) (g' : GH), S'.1 = S.1 → Po S' g' → AW M X Q ad k n (conc S' g') (pc + 3) ls st) : AW M X Q ad k n (conc S g) pc ls (v5 :: v4 :: v3 :: v2 :: v1 :: st) := by
  subst hv
  exact call_Sv (vs := [v1, v2, v3, v4, v5]) d LC L hR c rfl hw kk
theorem a_S6v {M' : Mi} {d' idx : Nat} {v1 v2 v3 v4 v5 v6 : Value} {vs : List Value} {Po : sH → GH → Prop} (d : decode (mcc M) pc = .ok (.invokestatic idx, 3)) (LC : LkC M' 6) (L : LkS (mown M) idx M' ∨ LkN (mown M) idx M') (hR : Fit X M' d' k n) (c : ACv M' d' S g vs Po) (hv : vs = [v1, v2, v3, v4, v5, v6]) (hw : Nat.ble (st.map Value.category).sum 8 = true) (kk : ∀ (S' : sH) (g' : GH), S'.1 = S.1 → Po S' g' → AW M X Q ad k n (conc S' g') (pc + 3) ls st) : AW M X Q ad k n (conc S g) pc ls (v6 :: v5 :: v4 :: v3 :: v2 :: v1 :: st) := by
  subst hv
  exact call_Sv (vs := [v1, v2, v3, v4, v5, v6]) d LC L hR c rfl hw kk
theorem a_S7v {M' : Mi} {d' idx : Nat} {v1 v2 v3 v4 v5 v6 v7 : Value} {vs : List Value} {Po : sH → GH → Prop} (d : decode (mcc M) pc = .ok (.invokestatic idx, 3)) (LC : LkC M' 7) (L : LkS (mown M) idx M' ∨ LkN (mown M) idx M') (hR : Fit X M' d' k n) (c : ACv M' d' S g vs Po) (hv : vs = [v1, v2, v3, v4, v5, v6, v7]) (hw : Nat.ble (st.map Value.category).sum 8 = true) (kk : ∀ (S' : sH) (g' : GH), S'.1 = S.1 → Po S' g' → AW M X Q ad k n (conc S' g') (pc + 3) ls st) : AW M X Q ad k n (conc S g) pc ls (v7 :: v6 :: v5 :: v4 :: v3 :: v2 :: v1 :: st) := by
  subst hv
  exact call_Sv (vs := [v1, v2, v3, v4, v5, v6, v7]) d LC L hR c rfl hw kk
end A6
theorem ACi.of {M : Mi} {dd nn : Nat} {S : sH} {g : GH} {vs : List Value} {Po : Int32 → sH → GH → Prop} (LC : LkC M nn) (hret : mret M = some .int) (hl : Nat.ble (lg_sl vs).length (mnL M) = true)
    (body : ∀ (X : Cx) (Q : State → Prop) (ad : Nat → Nat), xR X = rmD dd → (∀ (S' : sH) (g' : GH) (pc : Nat) (ls : List (Option Value)) (v : Int32) , decode (mcc M) pc = .ok (.ireturn, 1) → S'.1 = S.1 → Po v S' g' → AW M X Q ad 0 0 (conc S' g') pc ls [.int v]) → AW M X Q ad 0 0 (conc S g) 0 (sen (mnL M) vs) []) : ACi M dd S g vs Po := by
  intro l D dA ad sz
  refine Met.ofW (cc := mcc M) (maxL := mnL M) (ret := mret M) LC.2.2.2 rfl ?_
  intro p e s m args below meth c s₁ B hml hv
  obtain ⟨rfl, hsz, hP, hK, hD0⟩ := hv
  subst hsz
  have hts := atoms_spec (ws := mws M) B.pre
  have hD := hD0.self (sz := s.heap.size)
  have hA : ∀ q : Nat, s.heap.size ≤ q → va_A (sw dA ad (conc S g)) s.heap.size q := fun q h => Or.inr h
  have C : XOk M (p, l, e, rmD dd, s, m, (vs.map (sv ad)).toArray, below, meth, c, D, dA, va_A (sw dA ad (conc S g)) s.heap.size, s.heap) := ⟨B.exec, B.bytes, hml, findClass_of_methodNamed B.named, fun w hw => hts w (List.mem_cons_of_mem _ hw), B.notSynchronized, (name_of_methodNamed B.named B.method).1, B.returns, hK, hA⟩
  rw [lg_entry_eq]
  have hr := B.returns
  rw [hret] at hr
  have hb2 := body (p, l, e, rmD dd, s, m, (vs.map (sv ad)).toArray, below, meth, c, D, dA, va_A (sw dA ad (conc S g)) s.heap.size, s.heap) (MQ below (va_Qi (fun r (u : sH × GH) => Po r u.1 u.2) (Bd D dA ad S g s.heap.size) (va_A (sw dA ad (conc S g)) s.heap.size)) (vs.map (sv ad)).toArray s 0 0 (va_A (sw dA ad (conc S g)) s.heap.size)) ad rfl (by
    intro S' g' pc ls v d hS' hp C H locs lc r
    exact W.iret (v := v) C.1 C.2.1 hr (fun t ht hW => ⟨⟨v, (S', g'), rfl, hp, hS', by rw [ht]; exact r.1, r.2.1⟩, r.2.2.1.F ht⟩) r.2.2.1.2.2 d C.2.2.2.2.2.1)
  exact hb2 C s.heap [] _ ⟨hP, hD, va_S.rf, sen_has ad vs (Nat.le_of_ble_eq_true hl)⟩
theorem ACz.of {M : Mi} {dd nn : Nat} {S : sH} {g : GH} {vs : List Value} {Po : Int32 → sH → GH → Prop} (LC : LkC M nn) (hret : mret M = some .boolean) (hl : Nat.ble (lg_sl vs).length (mnL M) = true)
    (body : ∀ (X : Cx) (Q : State → Prop) (ad : Nat → Nat), xR X = rmD dd → (∀ (S' : sH) (g' : GH) (pc : Nat) (ls : List (Option Value)) (v : Int32) , decode (mcc M) pc = .ok (.ireturn, 1) → S'.1 = S.1 → v = 0 ∨ v = 1 → Po v S' g' → AW M X Q ad 0 0 (conc S' g') pc ls [.int v]) → AW M X Q ad 0 0 (conc S g) 0 (sen (mnL M) vs) []) : ACi M dd S g vs Po := by
  intro l D dA ad sz
  refine Met.ofW (cc := mcc M) (maxL := mnL M) (ret := mret M) LC.2.2.2 rfl ?_
  intro p e s m args below meth c s₁ B hml hv
  obtain ⟨rfl, hsz, hP, hK, hD0⟩ := hv
  subst hsz
  have hts := atoms_spec (ws := mws M) B.pre
  have hD := hD0.self (sz := s.heap.size)
  have hA : ∀ q : Nat, s.heap.size ≤ q → va_A (sw dA ad (conc S g)) s.heap.size q := fun q h => Or.inr h
  have C : XOk M (p, l, e, rmD dd, s, m, (vs.map (sv ad)).toArray, below, meth, c, D, dA, va_A (sw dA ad (conc S g)) s.heap.size, s.heap) := ⟨B.exec, B.bytes, hml, findClass_of_methodNamed B.named, fun w hw => hts w (List.mem_cons_of_mem _ hw), B.notSynchronized, (name_of_methodNamed B.named B.method).1, B.returns, hK, hA⟩
  rw [lg_entry_eq]
  have hr := B.returns
  rw [hret] at hr
  have hb2 := body (p, l, e, rmD dd, s, m, (vs.map (sv ad)).toArray, below, meth, c, D, dA, va_A (sw dA ad (conc S g)) s.heap.size, s.heap) (MQ below (va_Qi (fun r (u : sH × GH) => Po r u.1 u.2) (Bd D dA ad S g s.heap.size) (va_A (sw dA ad (conc S g)) s.heap.size)) (vs.map (sv ad)).toArray s 0 0 (va_A (sw dA ad (conc S g)) s.heap.size)) ad rfl (by
    intro S' g' pc ls v d hS' hz hp C H locs lc r
    exact W.zret (v := v) C.1 C.2.1 hr (by rcases hz with rfl | rfl <;> rfl) (fun t ht hW => ⟨⟨v, (S', g'), rfl, hp, hS', by rw [ht]; exact r.1, r.2.1⟩, r.2.2.1.F ht⟩) r.2.2.1.2.2 d C.2.2.2.2.2.1)
  exact hb2 C s.heap [] _ ⟨hP, hD, va_S.rf, sen_has ad vs (Nat.le_of_ble_eq_true hl)⟩
theorem ACl.of {M : Mi} {dd nn : Nat} {S : sH} {g : GH} {vs : List Value} {Po : Int64 → sH → GH → Prop} (LC : LkC M nn) (hret : mret M = some .long) (hl : Nat.ble (lg_sl vs).length (mnL M) = true)
    (body : ∀ (X : Cx) (Q : State → Prop) (ad : Nat → Nat), xR X = rmD dd → (∀ (S' : sH) (g' : GH) (pc : Nat) (ls : List (Option Value)) (v : Int64) , decode (mcc M) pc = .ok (.lreturn, 1) → S'.1 = S.1 → Po v S' g' → AW M X Q ad 0 0 (conc S' g') pc ls [.long v]) → AW M X Q ad 0 0 (conc S g) 0 (sen (mnL M) vs) []) : ACl M dd S g vs Po := by
  intro l D dA ad sz
  refine Met.ofW (cc := mcc M) (maxL := mnL M) (ret := mret M) LC.2.2.2 rfl ?_
  intro p e s m args below meth c s₁ B hml hv
  obtain ⟨rfl, hsz, hP, hK, hD0⟩ := hv
  subst hsz
  have hts := atoms_spec (ws := mws M) B.pre
  have hD := hD0.self (sz := s.heap.size)
  have hA : ∀ q : Nat, s.heap.size ≤ q → va_A (sw dA ad (conc S g)) s.heap.size q := fun q h => Or.inr h
  have C : XOk M (p, l, e, rmD dd, s, m, (vs.map (sv ad)).toArray, below, meth, c, D, dA, va_A (sw dA ad (conc S g)) s.heap.size, s.heap) := ⟨B.exec, B.bytes, hml, findClass_of_methodNamed B.named, fun w hw => hts w (List.mem_cons_of_mem _ hw), B.notSynchronized, (name_of_methodNamed B.named B.method).1, B.returns, hK, hA⟩
  rw [lg_entry_eq]
  have hr := B.returns
  rw [hret] at hr
  have hb2 := body (p, l, e, rmD dd, s, m, (vs.map (sv ad)).toArray, below, meth, c, D, dA, va_A (sw dA ad (conc S g)) s.heap.size, s.heap) (MQ below (va_Ql (fun r (u : sH × GH) => Po r u.1 u.2) (Bd D dA ad S g s.heap.size) (va_A (sw dA ad (conc S g)) s.heap.size)) (vs.map (sv ad)).toArray s 0 0 (va_A (sw dA ad (conc S g)) s.heap.size)) ad rfl (by
    intro S' g' pc ls v d hS' hp C H locs lc r
    exact W.lret (v := v) C.1 C.2.1 hr (fun t ht hW => ⟨⟨v, (S', g'), rfl, hp, hS', by rw [ht]; exact r.1, r.2.1⟩, r.2.2.1.F ht⟩) r.2.2.1.2.2 d C.2.2.2.2.2.1)
  exact hb2 C s.heap [] _ ⟨hP, hD, va_S.rf, sen_has ad vs (Nat.le_of_ble_eq_true hl)⟩
theorem ACv.of {M : Mi} {dd nn : Nat} {S : sH} {g : GH} {vs : List Value} {Po : sH → GH → Prop} (LC : LkC M nn) (hret : mret M = none) (hl : Nat.ble (lg_sl vs).length (mnL M) = true)
    (body : ∀ (X : Cx) (Q : State → Prop) (ad : Nat → Nat), xR X = rmD dd → (∀ (S' : sH) (g' : GH) (pc : Nat) (ls : List (Option Value)) , decode (mcc M) pc = .ok (.return_, 1) → S'.1 = S.1 → Po S' g' → AW M X Q ad 0 0 (conc S' g') pc ls []) → AW M X Q ad 0 0 (conc S g) 0 (sen (mnL M) vs) []) : ACv M dd S g vs Po := by
  intro l D dA ad sz
  refine Met.ofW (cc := mcc M) (maxL := mnL M) (ret := mret M) LC.2.2.2 rfl ?_
  intro p e s m args below meth c s₁ B hml hv
  obtain ⟨rfl, hsz, hP, hK, hD0⟩ := hv
  subst hsz
  have hts := atoms_spec (ws := mws M) B.pre
  have hD := hD0.self (sz := s.heap.size)
  have hA : ∀ q : Nat, s.heap.size ≤ q → va_A (sw dA ad (conc S g)) s.heap.size q := fun q h => Or.inr h
  have C : XOk M (p, l, e, rmD dd, s, m, (vs.map (sv ad)).toArray, below, meth, c, D, dA, va_A (sw dA ad (conc S g)) s.heap.size, s.heap) := ⟨B.exec, B.bytes, hml, findClass_of_methodNamed B.named, fun w hw => hts w (List.mem_cons_of_mem _ hw), B.notSynchronized, (name_of_methodNamed B.named B.method).1, B.returns, hK, hA⟩
  rw [lg_entry_eq]
  have hr := B.returns
  rw [hret] at hr
  have hb2 := body (p, l, e, rmD dd, s, m, (vs.map (sv ad)).toArray, below, meth, c, D, dA, va_A (sw dA ad (conc S g)) s.heap.size, s.heap) (MQ below (va_Qv (fun (u : sH × GH) => Po u.1 u.2) (Bd D dA ad S g s.heap.size) (va_A (sw dA ad (conc S g)) s.heap.size)) (vs.map (sv ad)).toArray s 0 0 (va_A (sw dA ad (conc S g)) s.heap.size)) ad rfl (by
    intro S' g' pc ls d hS' hp C H locs lc r
    exact W.vret C.1 C.2.1 hr (fun t ht hW => ⟨⟨(S', g'), rfl, hp, hS', by rw [ht]; exact r.1, r.2.1⟩, r.2.2.1.F ht⟩) r.2.2.1.2.2 d C.2.2.2.2.2.1)
  exact hb2 C s.heap [] _ ⟨hP, hD, va_S.rf, sen_has ad vs (Nat.le_of_ble_eq_true hl)⟩
end
section
theorem gW_sub {ws : List Cond} (ps : List Nat) (hp : ws = ps.filterMap (fun i => lw_tbl[i]?)) (h : ws.all goodWord = true) : ∀ w ∈ ws, w ∈ gW := by
  intro w hw
  have h1 := List.all_eq_true.mp h w hw
  rw [hp] at hw
  obtain ⟨i, -, hi⟩ := List.mem_filterMap.mp hw
  exact gW_in i hi h1
set_option maxRecDepth 20000 in
theorem klX0 : Cls 0 RX0 TX0 13 tyX0 := ⟨rfl, gW_sub [118, 120, 122, 124, 126, 128, 130, 132, 134, 136, 138, 140, 142] (by decide +kernel) (by decide +kernel), tyX0_ok, nmX0⟩
set_option maxRecDepth 20000 in
theorem klX2 : Cls 1 RX2 TX2 0 tyX2 := ⟨rfl, gW_sub [] (by decide +kernel) (by decide +kernel), tyX2_ok, nmX2⟩
set_option maxRecDepth 20000 in
theorem klX3 : Cls 2 RX3 TX3 14 tyX3 := ⟨rfl, gW_sub [317, 319, 321, 323, 325, 327, 329, 331, 333, 335, 337, 339, 341, 343] (by decide +kernel) (by decide +kernel), tyX3_ok, nmX3⟩
set_option maxRecDepth 20000 in
theorem klX4 : Cls 3 RX4 TX4 0 tyX4 := ⟨rfl, gW_sub [] (by decide +kernel) (by decide +kernel), tyX4_ok, nmX4⟩
set_option maxRecDepth 20000 in
theorem klX5 : Cls 4 RX5 TX5 5 tyX5 := ⟨rfl, gW_sub [215, 217, 219, 221, 223] (by decide +kernel) (by decide +kernel), tyX5_ok, nmX5⟩
set_option maxRecDepth 20000 in
theorem klX6 : Cls 5 RX6 TX6 3 tyX6 := ⟨rfl, gW_sub [294, 296, 298] (by decide +kernel) (by decide +kernel), tyX6_ok, nmX6⟩
set_option maxRecDepth 20000 in
theorem klX7 : Cls 6 RX7 TX7 5 tyX7 := ⟨rfl, gW_sub [243, 245, 247, 249, 251] (by decide +kernel) (by decide +kernel), tyX7_ok, nmX7⟩
set_option maxRecDepth 20000 in
theorem klX8 : Cls 7 RX8 TX8 0 tyX8 := ⟨rfl, gW_sub [] (by decide +kernel) (by decide +kernel), tyX8_ok, nmX8⟩
set_option maxRecDepth 20000 in
theorem klX9 : Cls 8 RX9 TX9 14 tyX9 := ⟨rfl, gW_sub [170, 172, 174, 176, 178, 180, 182, 184, 186, 188, 190, 192, 194, 196] (by decide +kernel) (by decide +kernel), tyX9_ok, nmX9⟩
set_option maxRecDepth 20000 in
theorem klX10 : Cls 9 RX10 TX10 10 tyX10 := ⟨rfl, gW_sub [374, 376, 378, 380, 382, 384, 386, 388, 390, 392] (by decide +kernel) (by decide +kernel), tyX10_ok, nmX10⟩
set_option maxRecDepth 20000 in
theorem klX11 : Cls 10 RX11 TX11 38 tyX11 := ⟨rfl, gW_sub [997, 999, 1001, 1003, 1005, 1007, 1009, 1011, 1013, 1015, 1017, 1019, 1021, 1023, 1025, 1027, 1029, 1031, 1033, 1035, 1037, 1039, 1041, 1043, 1045, 1047, 1049, 1051, 1053, 1055, 1057, 1059, 1061, 1063, 1065, 1067, 1069, 1071] (by decide +kernel) (by decide +kernel), tyX11_ok, nmX11⟩
abbrev mX0_init : Mi := (RX0, "<init>", "()V", cX0_init, 1, none)
theorem lcX0_init : LkC mX0_init 0 := ⟨(gW_in 83 (by decide +kernel) rfl), by decide +kernel, (gW_in 51 (by decide +kernel) rfl), by decide +kernel⟩
abbrev mX0_hasRoom : Mi := (RX0, "hasRoom", "(I)Z", cX0_hasRoom, 2, (some .boolean))
theorem lcX0_hasRoom : LkC mX0_hasRoom 1 := ⟨(gW_in 409 (by decide +kernel) rfl), by decide +kernel, (gW_in 51 (by decide +kernel) rfl), by decide +kernel⟩
abbrev mX0_enqueueWrite : Mi := (RX0, "enqueueWrite", "(III)V", cX0_enqueueWrite, 4, none)
theorem lcX0_enqueueWrite : LkC mX0_enqueueWrite 3 := ⟨(gW_in 413 (by decide +kernel) rfl), by decide +kernel, (gW_in 51 (by decide +kernel) rfl), by decide +kernel⟩
abbrev mX0_enqueueFence : Mi := (RX0, "enqueueFence", "()V", cX0_enqueueFence, 1, none)
theorem lcX0_enqueueFence : LkC mX0_enqueueFence 0 := ⟨(gW_in 422 (by decide +kernel) rfl), by decide +kernel, (gW_in 51 (by decide +kernel) rfl), by decide +kernel⟩
abbrev mX0_enqueuePlanned : Mi := (RX0, "enqueuePlanned", "(LOrderedDisc$Plan;I)V", cX0_enqueuePlanned, 3, none)
theorem lcX0_enqueuePlanned : LkC mX0_enqueuePlanned 2 := ⟨(gW_in 634 (by decide +kernel) rfl), by decide +kernel, (gW_in 51 (by decide +kernel) rfl), by decide +kernel⟩
abbrev mX0_settle : Mi := (RX0, "settle", "()V", cX0_settle, 1, none)
theorem lcX0_settle : LkC mX0_settle 0 := ⟨(gW_in 430 (by decide +kernel) rfl), by decide +kernel, (gW_in 51 (by decide +kernel) rfl), by decide +kernel⟩
abbrev mX0_format : Mi := (RX0, "format", "(LOrderedDisc$Kind;)V", cX0_format, 2, none)
theorem lcX0_format : LkC mX0_format 1 := ⟨(gW_in 518 (by decide +kernel) rfl), by decide +kernel, (gW_in 51 (by decide +kernel) rfl), by decide +kernel⟩
abbrev mX0_comeUpWith : Mi := (RX0, "comeUpWith", "([I)V", cX0_comeUpWith, 3, none)
theorem lcX0_comeUpWith : LkC mX0_comeUpWith 1 := ⟨(gW_in 434 (by decide +kernel) rfl), by decide +kernel, (gW_in 51 (by decide +kernel) rfl), by decide +kernel⟩
abbrev mX1_init : Mi := (RX1, "<init>", "()V", cX1_init, 1, none)
theorem lcX1_init : LkC mX1_init 0 := ⟨(gW_in 276 (by decide +kernel) rfl), by decide +kernel, (gW_in 56 (by decide +kernel) rfl), by decide +kernel⟩
abbrev mX1_planRising : Mi := (RX1, "planRising", "([ILOrderedDisc$Plan;)V", cX1_planRising, 3, none)
theorem lcX1_planRising : LkC mX1_planRising 2 := ⟨(gW_in 693 (by decide +kernel) rfl), by decide +kernel, (gW_in 56 (by decide +kernel) rfl), by decide +kernel⟩
abbrev mX1_layOut : Mi := (RX1, "layOut", "([I)V", cX1_layOut, 2, none)
theorem lcX1_layOut : LkC mX1_layOut 1 := ⟨(gW_in 533 (by decide +kernel) rfl), by decide +kernel, (gW_in 56 (by decide +kernel) rfl), by decide +kernel⟩
abbrev mX1_version : Mi := (RX1, "version", "([I)I", cX1_version, 2, (some .int))
theorem lcX1_version : LkC mX1_version 1 := ⟨(gW_in 832 (by decide +kernel) rfl), by decide +kernel, (gW_in 56 (by decide +kernel) rfl), by decide +kernel⟩
abbrev mX1_planPut : Mi := (RX1, "planPut", "([IIJLOrderedDisc$Plan;)V", cX1_planPut, 6, none)
theorem lcX1_planPut : LkC mX1_planPut 4 := ⟨(gW_in 567 (by decide +kernel) rfl), by decide +kernel, (gW_in 56 (by decide +kernel) rfl), by decide +kernel⟩
abbrev mX1_planMove : Mi := (RX1, "planMove", "([IIILOrderedDisc$Plan;)V", cX1_planMove, 5, none)
theorem lcX1_planMove : LkC mX1_planMove 4 := ⟨(gW_in 654 (by decide +kernel) rfl), by decide +kernel, (gW_in 56 (by decide +kernel) rfl), by decide +kernel⟩
abbrev mX1_valueOf : Mi := (RX1, "valueOf", "([II)J", cX1_valueOf, 3, (some .long))
theorem lcX1_valueOf : LkC mX1_valueOf 2 := ⟨(gW_in 661 (by decide +kernel) rfl), by decide +kernel, (gW_in 56 (by decide +kernel) rfl), by decide +kernel⟩
abbrev mX1_valueAt : Mi := (RX1, "valueAt", "([III)J", cX1_valueAt, 4, (some .long))
theorem lcX1_valueAt : LkC mX1_valueAt 3 := ⟨(gW_in 621 (by decide +kernel) rfl), by decide +kernel, (gW_in 56 (by decide +kernel) rfl), by decide +kernel⟩
abbrev mX2_init : Mi := (RX2, "<init>", "()V", cX2_init, 1, none)
theorem lcX2_init : LkC mX2_init 0 := ⟨(gW_in 354 (by decide +kernel) rfl), by decide +kernel, (gW_in 59 (by decide +kernel) rfl), by decide +kernel⟩
abbrev mX2_fences : Mi := (RX2, "fences", "()I", cX2_fences, 1, (some .int))
theorem lcX2_fences : LkC mX2_fences 0 := ⟨(gW_in 539 (by decide +kernel) rfl), by decide +kernel, (gW_in 59 (by decide +kernel) rfl), by decide +kernel⟩
abbrev mX2_homeOfKeys : Mi := (RX2, "homeOfKeys", "([I)I", cX2_homeOfKeys, 2, (some .int))
theorem lcX2_homeOfKeys : LkC mX2_homeOfKeys 1 := ⟨(gW_in 667 (by decide +kernel) rfl), by decide +kernel, (gW_in 59 (by decide +kernel) rfl), by decide +kernel⟩
abbrev mX2_allIsWell : Mi := (RX2, "allIsWell", "([I)Z", cX2_allIsWell, 2, (some .boolean))
theorem lcX2_allIsWell : LkC mX2_allIsWell 1 := ⟨(gW_in 690 (by decide +kernel) rfl), by decide +kernel, (gW_in 59 (by decide +kernel) rfl), by decide +kernel⟩
abbrev mX2_planChange : Mi := (RX2, "planChange", "([IIJIJLOrderedDisc$Plan;)V", cX2_planChange, 11, none)
theorem lcX2_planChange : LkC mX2_planChange 6 := ⟨(gW_in 573 (by decide +kernel) rfl), by decide +kernel, (gW_in 59 (by decide +kernel) rfl), by decide +kernel⟩
abbrev mX2_planRising : Mi := (RX2, "planRising", "([ILOrderedDisc$Plan;)V", cX2_planRising, 4, none)
theorem lcX2_planRising : LkC mX2_planRising 2 := ⟨(gW_in 682 (by decide +kernel) rfl), by decide +kernel, (gW_in 59 (by decide +kernel) rfl), by decide +kernel⟩
abbrev mX2_planUnmark : Mi := (RX2, "planUnmark", "(LOrderedDisc$Plan;)V", cX2_planUnmark, 1, none)
theorem lcX2_planUnmark : LkC mX2_planUnmark 1 := ⟨(gW_in 593 (by decide +kernel) rfl), by decide +kernel, (gW_in 59 (by decide +kernel) rfl), by decide +kernel⟩
abbrev mX2_isLogWhole : Mi := (RX2, "isLogWhole", "([I)Z", cX2_isLogWhole, 3, (some .boolean))
theorem lcX2_isLogWhole : LkC mX2_isLogWhole 1 := ⟨(gW_in 685 (by decide +kernel) rfl), by decide +kernel, (gW_in 59 (by decide +kernel) rfl), by decide +kernel⟩
abbrev mX2_sum : Mi := (RX2, "sum", "(IIIIIII)I", cX2_sum, 8, (some .int))
theorem lcX2_sum : LkC mX2_sum 7 := ⟨(gW_in 582 (by decide +kernel) rfl), by decide +kernel, (gW_in 59 (by decide +kernel) rfl), by decide +kernel⟩
abbrev mX3_init : Mi := (RX3, "<init>", "()V", cX3_init, 1, none)
theorem lcX3_init : LkC mX3_init 0 := ⟨(gW_in 259 (by decide +kernel) rfl), by decide +kernel, (gW_in 55 (by decide +kernel) rfl), by decide +kernel⟩
abbrev mX3_walk : Mi := (RX3, "walk", "(LOrderedDisc$Kind;ILOrderedDisc$Script;Z)Z", cX3_walk, 7, (some .boolean))
theorem lcX3_walk : LkC mX3_walk 4 := ⟨(gW_in 739 (by decide +kernel) rfl), by decide +kernel, (gW_in 55 (by decide +kernel) rfl), by decide +kernel⟩
abbrev mX3_keepReport : Mi := (RX3, "keepReport", "()V", cX3_keepReport, 2, none)
theorem lcX3_keepReport : LkC mX3_keepReport 0 := ⟨(gW_in 801 (by decide +kernel) rfl), by decide +kernel, (gW_in 55 (by decide +kernel) rfl), by decide +kernel⟩
abbrev mX3_makeSure : Mi := (RX3, "makeSure", "()Z", cX3_makeSure, 1, (some .boolean))
theorem lcX3_makeSure : LkC mX3_makeSure 0 := ⟨(gW_in 787 (by decide +kernel) rfl), by decide +kernel, (gW_in 55 (by decide +kernel) rfl), by decide +kernel⟩
abbrev mX3_change : Mi := (RX3, "change", "(LOrderedDisc$Script;I)Z", cX3_change, 5, (some .boolean))
theorem lcX3_change : LkC mX3_change 2 := ⟨(gW_in 792 (by decide +kernel) rfl), by decide +kernel, (gW_in 55 (by decide +kernel) rfl), by decide +kernel⟩
abbrev mX3_lookAround : Mi := (RX3, "lookAround", "()Z", cX3_lookAround, 3, (some .boolean))
theorem lcX3_lookAround : LkC mX3_lookAround 0 := ⟨(gW_in 759 (by decide +kernel) rfl), by decide +kernel, (gW_in 55 (by decide +kernel) rfl), by decide +kernel⟩
abbrev mX3_riseFrom : Mi := (RX3, "riseFrom", "([I)V", cX3_riseFrom, 5, none)
theorem lcX3_riseFrom : LkC mX3_riseFrom 1 := ⟨(gW_in 765 (by decide +kernel) rfl), by decide +kernel, (gW_in 55 (by decide +kernel) rfl), by decide +kernel⟩
abbrev mX3_isRight : Mi := (RX3, "isRight", "()Z", cX3_isRight, 4, (some .boolean))
theorem lcX3_isRight : LkC mX3_isRight 0 := ⟨(gW_in 778 (by decide +kernel) rfl), by decide +kernel, (gW_in 55 (by decide +kernel) rfl), by decide +kernel⟩
abbrev mX3_keepBad : Mi := (RX3, "keepBad", "(I)V", cX3_keepBad, 3, none)
theorem lcX3_keepBad : LkC mX3_keepBad 1 := ⟨(gW_in 782 (by decide +kernel) rfl), by decide +kernel, (gW_in 55 (by decide +kernel) rfl), by decide +kernel⟩
abbrev mX4_init : Mi := (RX4, "<init>", "()V", cX4_init, 1, none)
theorem lcX4_init : LkC mX4_init 0 := ⟨(gW_in 273 (by decide +kernel) rfl), by decide +kernel, (gW_in 57 (by decide +kernel) rfl), by decide +kernel⟩
abbrev mX4_fences : Mi := (RX4, "fences", "()I", cX4_fences, 1, (some .int))
theorem lcX4_fences : LkC mX4_fences 0 := ⟨(gW_in 542 (by decide +kernel) rfl), by decide +kernel, (gW_in 57 (by decide +kernel) rfl), by decide +kernel⟩
abbrev mX4_homeOfKeys : Mi := (RX4, "homeOfKeys", "([I)I", cX4_homeOfKeys, 2, (some .int))
theorem lcX4_homeOfKeys : LkC mX4_homeOfKeys 1 := ⟨(gW_in 670 (by decide +kernel) rfl), by decide +kernel, (gW_in 57 (by decide +kernel) rfl), by decide +kernel⟩
abbrev mX4_allIsWell : Mi := (RX4, "allIsWell", "([I)Z", cX4_allIsWell, 2, (some .boolean))
theorem lcX4_allIsWell : LkC mX4_allIsWell 1 := ⟨(gW_in 704 (by decide +kernel) rfl), by decide +kernel, (gW_in 57 (by decide +kernel) rfl), by decide +kernel⟩
abbrev mX4_planChange : Mi := (RX4, "planChange", "([IIJIJLOrderedDisc$Plan;)V", cX4_planChange, 9, none)
theorem lcX4_planChange : LkC mX4_planChange 6 := ⟨(gW_in 596 (by decide +kernel) rfl), by decide +kernel, (gW_in 57 (by decide +kernel) rfl), by decide +kernel⟩
abbrev mX5_init : Mi := (RX5, "<init>", "()V", cX5_init, 1, none)
theorem lcX5_init : LkC mX5_init 0 := ⟨(gW_in 203 (by decide +kernel) rfl), by decide +kernel, (gW_in 53 (by decide +kernel) rfl), by decide +kernel⟩
abbrev mX5_begin : Mi := (RX5, "begin", "(I)V", cX5_begin, 2, none)
theorem lcX5_begin : LkC mX5_begin 1 := ⟨(gW_in 560 (by decide +kernel) rfl), by decide +kernel, (gW_in 53 (by decide +kernel) rfl), by decide +kernel⟩
abbrev mX5_planWrite : Mi := (RX5, "planWrite", "(III)V", cX5_planWrite, 4, none)
theorem lcX5_planWrite : LkC mX5_planWrite 3 := ⟨(gW_in 586 (by decide +kernel) rfl), by decide +kernel, (gW_in 53 (by decide +kernel) rfl), by decide +kernel⟩
abbrev mX5_planFence : Mi := (RX5, "planFence", "(I)V", cX5_planFence, 2, none)
theorem lcX5_planFence : LkC mX5_planFence 1 := ⟨(gW_in 590 (by decide +kernel) rfl), by decide +kernel, (gW_in 53 (by decide +kernel) rfl), by decide +kernel⟩
abbrev mX5_isFence : Mi := (RX5, "isFence", "(I)Z", cX5_isFence, 2, (some .boolean))
theorem lcX5_isFence : LkC mX5_isFence 1 := ⟨(gW_in 638 (by decide +kernel) rfl), by decide +kernel, (gW_in 53 (by decide +kernel) rfl), by decide +kernel⟩
abbrev mX5_writeInto : Mi := (RX5, "writeInto", "([I)V", cX5_writeInto, 3, none)
theorem lcX5_writeInto : LkC mX5_writeInto 1 := ⟨(gW_in 772 (by decide +kernel) rfl), by decide +kernel, (gW_in 53 (by decide +kernel) rfl), by decide +kernel⟩
abbrev mX6_init : Mi := (RX6, "<init>", "()V", cX6_init, 1, none)
theorem lcX6_init : LkC mX6_init 0 := ⟨(gW_in 283 (by decide +kernel) rfl), by decide +kernel, (gW_in 58 (by decide +kernel) rfl), by decide +kernel⟩
abbrev mX6_begin : Mi := (RX6, "begin", "()V", cX6_begin, 1, none)
theorem lcX6_begin : LkC mX6_begin 0 := ⟨(gW_in 743 (by decide +kernel) rfl), by decide +kernel, (gW_in 58 (by decide +kernel) rfl), by decide +kernel⟩
abbrev mX7_init : Mi := (RX7, "<init>", "()V", cX7_init, 1, none)
theorem lcX7_init : LkC mX7_init 0 := ⟨(gW_in 230 (by decide +kernel) rfl), by decide +kernel, (gW_in 54 (by decide +kernel) rfl), by decide +kernel⟩
abbrev mX7_append : Mi := (RX7, "append", "(IIIJ)V", cX7_append, 6, none)
theorem lcX7_append : LkC mX7_append 4 := ⟨(gW_in 719 (by decide +kernel) rfl), by decide +kernel, (gW_in 54 (by decide +kernel) rfl), by decide +kernel⟩
abbrev mX7_foresee : Mi := (RX7, "foresee", "([[I)V", cX7_foresee, 6, none)
theorem lcX7_foresee : LkC mX7_foresee 1 := ⟨(gW_in 748 (by decide +kernel) rfl), by decide +kernel, (gW_in 54 (by decide +kernel) rfl), by decide +kernel⟩
abbrev mX8_init : Mi := (RX8, "<init>", "()V", cX8_init, 1, none)
theorem lcX8_init : LkC mX8_init 0 := ⟨(gW_in 361 (by decide +kernel) rfl), by decide +kernel, (gW_in 60 (by decide +kernel) rfl), by decide +kernel⟩
abbrev mX8_fences : Mi := (RX8, "fences", "()I", cX8_fences, 1, (some .int))
theorem lcX8_fences : LkC mX8_fences 0 := ⟨(gW_in 545 (by decide +kernel) rfl), by decide +kernel, (gW_in 60 (by decide +kernel) rfl), by decide +kernel⟩
abbrev mX8_homeOfKeys : Mi := (RX8, "homeOfKeys", "([I)I", cX8_homeOfKeys, 3, (some .int))
theorem lcX8_homeOfKeys : LkC mX8_homeOfKeys 1 := ⟨(gW_in 614 (by decide +kernel) rfl), by decide +kernel, (gW_in 60 (by decide +kernel) rfl), by decide +kernel⟩
abbrev mX8_allIsWell : Mi := (RX8, "allIsWell", "([I)Z", cX8_allIsWell, 2, (some .boolean))
theorem lcX8_allIsWell : LkC mX8_allIsWell 1 := ⟨(gW_in 707 (by decide +kernel) rfl), by decide +kernel, (gW_in 60 (by decide +kernel) rfl), by decide +kernel⟩
abbrev mX8_planChange : Mi := (RX8, "planChange", "([IIJIJLOrderedDisc$Plan;)V", cX8_planChange, 14, none)
theorem lcX8_planChange : LkC mX8_planChange 6 := ⟨(gW_in 602 (by decide +kernel) rfl), by decide +kernel, (gW_in 60 (by decide +kernel) rfl), by decide +kernel⟩
abbrev mX8_layOut : Mi := (RX8, "layOut", "([I)V", cX8_layOut, 2, none)
theorem lcX8_layOut : LkC mX8_layOut 1 := ⟨(gW_in 529 (by decide +kernel) rfl), by decide +kernel, (gW_in 60 (by decide +kernel) rfl), by decide +kernel⟩
abbrev mX8_version : Mi := (RX8, "version", "([I)I", cX8_version, 6, (some .int))
theorem lcX8_version : LkC mX8_version 1 := ⟨(gW_in 606 (by decide +kernel) rfl), by decide +kernel, (gW_in 60 (by decide +kernel) rfl), by decide +kernel⟩
abbrev mX8_homeWith : Mi := (RX8, "homeWith", "(I)I", cX8_homeWith, 1, (some .int))
theorem lcX8_homeWith : LkC mX8_homeWith 1 := ⟨(gW_in 617 (by decide +kernel) rfl), by decide +kernel, (gW_in 60 (by decide +kernel) rfl), by decide +kernel⟩
abbrev mX8_isOdd : Mi := (RX8, "isOdd", "(I)Z", cX8_isOdd, 1, (some .boolean))
theorem lcX8_isOdd : LkC mX8_isOdd 1 := ⟨(gW_in 609 (by decide +kernel) rfl), by decide +kernel, (gW_in 60 (by decide +kernel) rfl), by decide +kernel⟩
abbrev mX8_seal : Mi := (RX8, "seal", "(I)I", cX8_seal, 1, (some .int))
theorem lcX8_seal : LkC mX8_seal 1 := ⟨(gW_in 532 (by decide +kernel) rfl), by decide +kernel, (gW_in 60 (by decide +kernel) rfl), by decide +kernel⟩
abbrev mX9_init : Mi := (RX9, "<init>", "()V", cX9_init, 1, none)
theorem lcX9_init : LkC mX9_init 0 := ⟨(gW_in 150 (by decide +kernel) rfl), by decide +kernel, (gW_in 52 (by decide +kernel) rfl), by decide +kernel⟩
abbrev mX9_refresh : Mi := (RX9, "refresh", "(LOrderedDisc$Disc;)V", cX9_refresh, 3, none)
theorem lcX9_refresh : LkC mX9_refresh 1 := ⟨(gW_in 446 (by decide +kernel) rfl), by decide +kernel, (gW_in 52 (by decide +kernel) rfl), by decide +kernel⟩
abbrev mX9_gather : Mi := (RX9, "gather", "(LOrderedDisc$Disc;I)V", cX9_gather, 8, none)
theorem lcX9_gather : LkC mX9_gather 2 := ⟨(gW_in 456 (by decide +kernel) rfl), by decide +kernel, (gW_in 52 (by decide +kernel) rfl), by decide +kernel⟩
abbrev mX9_allow : Mi := (RX9, "allow", "(II)V", cX9_allow, 5, none)
theorem lcX9_allow : LkC mX9_allow 2 := ⟨(gW_in 463 (by decide +kernel) rfl), by decide +kernel, (gW_in 52 (by decide +kernel) rfl), by decide +kernel⟩
abbrev mX9_span : Mi := (RX9, "span", "(II)I", cX9_span, 2, (some .int))
theorem lcX9_span : LkC mX9_span 2 := ⟨(gW_in 459 (by decide +kernel) rfl), by decide +kernel, (gW_in 52 (by decide +kernel) rfl), by decide +kernel⟩
abbrev mX9_countAlone : Mi := (RX9, "countAlone", "()V", cX9_countAlone, 5, none)
theorem lcX9_countAlone : LkC mX9_countAlone 0 := ⟨(gW_in 467 (by decide +kernel) rfl), by decide +kernel, (gW_in 52 (by decide +kernel) rfl), by decide +kernel⟩
abbrev mX9_choicesOf : Mi := (RX9, "choicesOf", "(II)I", cX9_choicesOf, 5, (some .int))
theorem lcX9_choicesOf : LkC mX9_choicesOf 2 := ⟨(gW_in 471 (by decide +kernel) rfl), by decide +kernel, (gW_in 52 (by decide +kernel) rfl), by decide +kernel⟩
abbrev mX9_countFrom : Mi := (RX9, "countFrom", "(II)I", cX9_countFrom, 5, (some .int))
theorem lcX9_countFrom : LkC mX9_countFrom 2 := ⟨(gW_in 475 (by decide +kernel) rfl), by decide +kernel, (gW_in 52 (by decide +kernel) rfl), by decide +kernel⟩
abbrev mX9_seek : Mi := (RX9, "seek", "(I)V", cX9_seek, 2, none)
theorem lcX9_seek : LkC mX9_seek 1 := ⟨(gW_in 489 (by decide +kernel) rfl), by decide +kernel, (gW_in 52 (by decide +kernel) rfl), by decide +kernel⟩
abbrev mX9_advance : Mi := (RX9, "advance", "()V", cX9_advance, 3, none)
theorem lcX9_advance : LkC mX9_advance 0 := ⟨(gW_in 493 (by decide +kernel) rfl), by decide +kernel, (gW_in 52 (by decide +kernel) rfl), by decide +kernel⟩
abbrev mX9_step : Mi := (RX9, "step", "(I)Z", cX9_step, 3, (some .boolean))
theorem lcX9_step : LkC mX9_step 1 := ⟨(gW_in 497 (by decide +kernel) rfl), by decide +kernel, (gW_in 52 (by decide +kernel) rfl), by decide +kernel⟩
abbrev mX9_descend : Mi := (RX9, "descend", "(I)V", cX9_descend, 6, none)
theorem lcX9_descend : LkC mX9_descend 1 := ⟨(gW_in 505 (by decide +kernel) rfl), by decide +kernel, (gW_in 52 (by decide +kernel) rfl), by decide +kernel⟩
abbrev mX9_pick : Mi := (RX9, "pick", "(II)V", cX9_pick, 3, none)
theorem lcX9_pick : LkC mX9_pick 2 := ⟨(gW_in 501 (by decide +kernel) rfl), by decide +kernel, (gW_in 52 (by decide +kernel) rfl), by decide +kernel⟩
abbrev mX10_init : Mi := (RX10, "<init>", "()V", cX10_init, 1, none)
theorem lcX10_init : LkC mX10_init 0 := ⟨(gW_in 75 (by decide +kernel) rfl), by decide +kernel, (gW_in 50 (by decide +kernel) rfl), by decide +kernel⟩
abbrev mX10_write : Mi := (RX10, "write", "(III)I", cX10_write, 4, (some .int))
theorem lcX10_write : LkC mX10_write 3 := ⟨(gW_in 398 (by decide +kernel) rfl), by decide +kernel, (gW_in 50 (by decide +kernel) rfl), by decide +kernel⟩
abbrev mX10_fence : Mi := (RX10, "fence", "()I", cX10_fence, 1, (some .int))
theorem lcX10_fence : LkC mX10_fence 0 := ⟨(gW_in 418 (by decide +kernel) rfl), by decide +kernel, (gW_in 50 (by decide +kernel) rfl), by decide +kernel⟩
abbrev mX10_flush : Mi := (RX10, "flush", "()I", cX10_flush, 2, (some .int))
theorem lcX10_flush : LkC mX10_flush 0 := ⟨(gW_in 426 (by decide +kernel) rfl), by decide +kernel, (gW_in 50 (by decide +kernel) rfl), by decide +kernel⟩
abbrev mX10_read : Mi := (RX10, "read", "(II)I", cX10_read, 3, (some .int))
theorem lcX10_read : LkC mX10_read 2 := ⟨(gW_in 840 (by decide +kernel) rfl), by decide +kernel, (gW_in 50 (by decide +kernel) rfl), by decide +kernel⟩
abbrev mX10_plate : Mi := (RX10, "plate", "(II)I", cX10_plate, 3, (some .int))
theorem lcX10_plate : LkC mX10_plate 2 := ⟨(gW_in 917 (by decide +kernel) rfl), by decide +kernel, (gW_in 50 (by decide +kernel) rfl), by decide +kernel⟩
abbrev mX10_entry : Mi := (RX10, "entry", "(II)I", cX10_entry, 3, (some .int))
theorem lcX10_entry : LkC mX10_entry 2 := ⟨(gW_in 438 (by decide +kernel) rfl), by decide +kernel, (gW_in 50 (by decide +kernel) rfl), by decide +kernel⟩
abbrev mX10_states : Mi := (RX10, "states", "()I", cX10_states, 1, (some .int))
theorem lcX10_states : LkC mX10_states 0 := ⟨(gW_in 442 (by decide +kernel) rfl), by decide +kernel, (gW_in 50 (by decide +kernel) rfl), by decide +kernel⟩
abbrev mX10_state : Mi := (RX10, "state", "(III)I", cX10_state, 4, (some .int))
theorem lcX10_state : LkC mX10_state 3 := ⟨(gW_in 924 (by decide +kernel) rfl), by decide +kernel, (gW_in 50 (by decide +kernel) rfl), by decide +kernel⟩
abbrev mX10_fall : Mi := (RX10, "fall", "(I)I", cX10_fall, 2, (some .int))
theorem lcX10_fall : LkC mX10_fall 1 := ⟨(gW_in 485 (by decide +kernel) rfl), by decide +kernel, (gW_in 50 (by decide +kernel) rfl), by decide +kernel⟩
abbrev mX10_store : Mi := (RX10, "store", "(I)I", cX10_store, 2, (some .int))
theorem lcX10_store : LkC mX10_store 1 := ⟨(gW_in 510 (by decide +kernel) rfl), by decide +kernel, (gW_in 50 (by decide +kernel) rfl), by decide +kernel⟩
abbrev mX10_put : Mi := (RX10, "put", "(IJ)I", cX10_put, 4, (some .int))
theorem lcX10_put : LkC mX10_put 2 := ⟨(gW_in 549 (by decide +kernel) rfl), by decide +kernel, (gW_in 50 (by decide +kernel) rfl), by decide +kernel⟩
abbrev mX10_move : Mi := (RX10, "move", "(II)I", cX10_move, 3, (some .int))
theorem lcX10_move : LkC mX10_move 2 := ⟨(gW_in 644 (by decide +kernel) rfl), by decide +kernel, (gW_in 50 (by decide +kernel) rfl), by decide +kernel⟩
abbrev mX10_get : Mi := (RX10, "get", "(I)J", cX10_get, 2, (some .long))
theorem lcX10_get : LkC mX10_get 1 := ⟨(gW_in 933 (by decide +kernel) rfl), by decide +kernel, (gW_in 50 (by decide +kernel) rfl), by decide +kernel⟩
abbrev mX10_rise : Mi := (RX10, "rise", "()I", cX10_rise, 1, (some .int))
theorem lcX10_rise : LkC mX10_rise 0 := ⟨(gW_in 676 (by decide +kernel) rfl), by decide +kernel, (gW_in 50 (by decide +kernel) rfl), by decide +kernel⟩
abbrev mX10_isSound : Mi := (RX10, "isSound", "()Z", cX10_isSound, 1, (some .boolean))
theorem lcX10_isSound : LkC mX10_isSound 0 := ⟨(gW_in 697 (by decide +kernel) rfl), by decide +kernel, (gW_in 50 (by decide +kernel) rfl), by decide +kernel⟩
abbrev mX10_addPut : Mi := (RX10, "addPut", "(IJ)I", cX10_addPut, 4, (some .int))
theorem lcX10_addPut : LkC mX10_addPut 2 := ⟨(gW_in 711 (by decide +kernel) rfl), by decide +kernel, (gW_in 50 (by decide +kernel) rfl), by decide +kernel⟩
abbrev mX10_addMove : Mi := (RX10, "addMove", "(II)I", cX10_addMove, 3, (some .int))
theorem lcX10_addMove : LkC mX10_addMove 2 := ⟨(gW_in 723 (by decide +kernel) rfl), by decide +kernel, (gW_in 50 (by decide +kernel) rfl), by decide +kernel⟩
abbrev mX10_addSure : Mi := (RX10, "addSure", "()I", cX10_addSure, 1, (some .int))
theorem lcX10_addSure : LkC mX10_addSure 0 := ⟨(gW_in 727 (by decide +kernel) rfl), by decide +kernel, (gW_in 50 (by decide +kernel) rfl), by decide +kernel⟩
abbrev mX10_clear : Mi := (RX10, "clear", "()I", cX10_clear, 2, (some .int))
theorem lcX10_clear : LkC mX10_clear 0 := ⟨(gW_in 731 (by decide +kernel) rfl), by decide +kernel, (gW_in 50 (by decide +kernel) rfl), by decide +kernel⟩
abbrev mX10_through : Mi := (RX10, "through", "(I)I", cX10_through, 2, (some .int))
theorem lcX10_through : LkC mX10_through 1 := ⟨(gW_in 735 (by decide +kernel) rfl), by decide +kernel, (gW_in 50 (by decide +kernel) rfl), by decide +kernel⟩
abbrev mX10_gone : Mi := (RX10, "gone", "(I)I", cX10_gone, 2, (some .int))
theorem lcX10_gone : LkC mX10_gone 1 := ⟨(gW_in 805 (by decide +kernel) rfl), by decide +kernel, (gW_in 50 (by decide +kernel) rfl), by decide +kernel⟩
abbrev mX10_bad : Mi := (RX10, "bad", "(II)I", cX10_bad, 3, (some .int))
theorem lcX10_bad : LkC mX10_bad 2 := ⟨(gW_in 809 (by decide +kernel) rfl), by decide +kernel, (gW_in 50 (by decide +kernel) rfl), by decide +kernel⟩
abbrev mX10_spare : Mi := (RX10, "spare", "(IIZ)Z", cX10_spare, 6, (some .boolean))
theorem lcX10_spare : LkC mX10_spare 3 := ⟨(gW_in 813 (by decide +kernel) rfl), by decide +kernel, (gW_in 50 (by decide +kernel) rfl), by decide +kernel⟩
abbrev mX10_least : Mi := (RX10, "least", "(I)I", cX10_least, 6, (some .int))
theorem lcX10_least : LkC mX10_least 1 := ⟨(gW_in 817 (by decide +kernel) rfl), by decide +kernel, (gW_in 50 (by decide +kernel) rfl), by decide +kernel⟩
abbrev mX10_digest : Mi := (RX10, "digest", "(I)I", cX10_digest, 5, (some .int))
theorem lcX10_digest : LkC mX10_digest 1 := ⟨(gW_in 821 (by decide +kernel) rfl), by decide +kernel, (gW_in 50 (by decide +kernel) rfl), by decide +kernel⟩
abbrev mX10_status : Mi := (RX10, "status", "(I)I", cX10_status, 2, (some .int))
theorem lcX10_status : LkC mX10_status 1 := ⟨(gW_in 825 (by decide +kernel) rfl), by decide +kernel, (gW_in 50 (by decide +kernel) rfl), by decide +kernel⟩
abbrev mX10_refuse : Mi := (RX10, "refuse", "(I)I", cX10_refuse, 2, (some .int))
theorem lcX10_refuse : LkC mX10_refuse 1 := ⟨(gW_in 405 (by decide +kernel) rfl), by decide +kernel, (gW_in 50 (by decide +kernel) rfl), by decide +kernel⟩
abbrev mX10_carryOut : Mi := (RX10, "carryOut", "()I", cX10_carryOut, 2, (some .int))
theorem lcX10_carryOut : LkC mX10_carryOut 0 := ⟨(gW_in 630 (by decide +kernel) rfl), by decide +kernel, (gW_in 50 (by decide +kernel) rfl), by decide +kernel⟩
abbrev mX10_addAct : Mi := (RX10, "addAct", "(IIIJ)I", cX10_addAct, 6, (some .int))
theorem lcX10_addAct : LkC mX10_addAct 4 := ⟨(gW_in 715 (by decide +kernel) rfl), by decide +kernel, (gW_in 50 (by decide +kernel) rfl), by decide +kernel⟩
abbrev mX10_hasStore : Mi := (RX10, "hasStore", "()Z", cX10_hasStore, 1, (some .boolean))
theorem lcX10_hasStore : LkC mX10_hasStore 0 := ⟨(gW_in 553 (by decide +kernel) rfl), by decide +kernel, (gW_in 50 (by decide +kernel) rfl), by decide +kernel⟩
abbrev mX10_isKind : Mi := (RX10, "isKind", "(I)Z", cX10_isKind, 2, (some .boolean))
theorem lcX10_isKind : LkC mX10_isKind 1 := ⟨(gW_in 514 (by decide +kernel) rfl), by decide +kernel, (gW_in 50 (by decide +kernel) rfl), by decide +kernel⟩
abbrev mX10_isSector : Mi := (RX10, "isSector", "(I)Z", cX10_isSector, 1, (some .boolean))
theorem lcX10_isSector : LkC mX10_isSector 1 := ⟨(gW_in 401 (by decide +kernel) rfl), by decide +kernel, (gW_in 50 (by decide +kernel) rfl), by decide +kernel⟩
abbrev mX10_isPart : Mi := (RX10, "isPart", "(II)Z", cX10_isPart, 2, (some .boolean))
theorem lcX10_isPart : LkC mX10_isPart 2 := ⟨(gW_in 843 (by decide +kernel) rfl), by decide +kernel, (gW_in 50 (by decide +kernel) rfl), by decide +kernel⟩
abbrev mX10_isKey : Mi := (RX10, "isKey", "(I)Z", cX10_isKey, 1, (some .boolean))
theorem lcX10_isKey : LkC mX10_isKey 1 := ⟨(gW_in 556 (by decide +kernel) rfl), by decide +kernel, (gW_in 50 (by decide +kernel) rfl), by decide +kernel⟩
abbrev mX10_areTwoKeys : Mi := (RX10, "areTwoKeys", "(II)Z", cX10_areTwoKeys, 2, (some .boolean))
theorem lcX10_areTwoKeys : LkC mX10_areTwoKeys 2 := ⟨(gW_in 647 (by decide +kernel) rfl), by decide +kernel, (gW_in 50 (by decide +kernel) rfl), by decide +kernel⟩
abbrev mX10_high : Mi := (RX10, "high", "(J)I", cX10_high, 2, (some .int))
theorem lcX10_high : LkC mX10_high 1 := ⟨(gW_in 576 (by decide +kernel) rfl), by decide +kernel, (gW_in 50 (by decide +kernel) rfl), by decide +kernel⟩
abbrev mX10_low : Mi := (RX10, "low", "(J)I", cX10_low, 2, (some .int))
theorem lcX10_low : LkC mX10_low 1 := ⟨(gW_in 579 (by decide +kernel) rfl), by decide +kernel, (gW_in 50 (by decide +kernel) rfl), by decide +kernel⟩
abbrev mX11_init : Mi := (RX11, "<init>", "()V", cX11_init, 1, none)
theorem lcX11_init : LkC mX11_init 0 := ⟨(gW_in 956 (by decide +kernel) rfl), by decide +kernel, (gW_in 61 (by decide +kernel) rfl), by decide +kernel⟩
abbrev mX11_thrown : Mi := (RX11, "thrown", "()I", cX11_thrown, 1, (some .int))
theorem lcX11_thrown : LkC mX11_thrown 0 := ⟨(gW_in 1078 (by decide +kernel) rfl), by decide +kernel, (gW_in 61 (by decide +kernel) rfl), by decide +kernel⟩
abbrev mX11_in : Mi := (RX11, "in", "(III)Z", cX11_in, 3, (some .boolean))
theorem lcX11_in : LkC mX11_in 3 := ⟨(gW_in 1085 (by decide +kernel) rfl), by decide +kernel, (gW_in 61 (by decide +kernel) rfl), by decide +kernel⟩
abbrev mX11_refuse : Mi := (RX11, "refuse", "(I)I", cX11_refuse, 2, (some .int))
theorem lcX11_refuse : LkC mX11_refuse 1 := ⟨(gW_in 1089 (by decide +kernel) rfl), by decide +kernel, (gW_in 61 (by decide +kernel) rfl), by decide +kernel⟩
abbrev mX11_readOf : Mi := (RX11, "readOf", "(III)I", cX11_readOf, 5, (some .int))
theorem lcX11_readOf : LkC mX11_readOf 3 := ⟨(gW_in 1116 (by decide +kernel) rfl), by decide +kernel, (gW_in 61 (by decide +kernel) rfl), by decide +kernel⟩
abbrev mX11_push : Mi := (RX11, "push", "(IIII)Z", cX11_push, 6, (some .boolean))
theorem lcX11_push : LkC mX11_push 4 := ⟨(gW_in 1093 (by decide +kernel) rfl), by decide +kernel, (gW_in 61 (by decide +kernel) rfl), by decide +kernel⟩
abbrev mX11_flushOf : Mi := (RX11, "flushOf", "(I)I", cX11_flushOf, 4, (some .int))
theorem lcX11_flushOf : LkC mX11_flushOf 1 := ⟨(gW_in 1105 (by decide +kernel) rfl), by decide +kernel, (gW_in 61 (by decide +kernel) rfl), by decide +kernel⟩
abbrev mX11_write : Mi := (RX11, "write", "(III)I", cX11_write, 4, (some .int))
theorem lcX11_write : LkC mX11_write 3 := ⟨(gW_in 1082 (by decide +kernel) rfl), by decide +kernel, (gW_in 61 (by decide +kernel) rfl), by decide +kernel⟩
abbrev mX11_fence : Mi := (RX11, "fence", "()I", cX11_fence, 1, (some .int))
theorem lcX11_fence : LkC mX11_fence 0 := ⟨(gW_in 1097 (by decide +kernel) rfl), by decide +kernel, (gW_in 61 (by decide +kernel) rfl), by decide +kernel⟩
abbrev mX11_flush : Mi := (RX11, "flush", "()I", cX11_flush, 1, (some .int))
theorem lcX11_flush : LkC mX11_flush 0 := ⟨(gW_in 1101 (by decide +kernel) rfl), by decide +kernel, (gW_in 61 (by decide +kernel) rfl), by decide +kernel⟩
abbrev mX11_isPart : Mi := (RX11, "isPart", "(II)Z", cX11_isPart, 2, (some .boolean))
theorem lcX11_isPart : LkC mX11_isPart 2 := ⟨(gW_in 1112 (by decide +kernel) rfl), by decide +kernel, (gW_in 61 (by decide +kernel) rfl), by decide +kernel⟩
abbrev mX11_read : Mi := (RX11, "read", "(II)I", cX11_read, 3, (some .int))
theorem lcX11_read : LkC mX11_read 2 := ⟨(gW_in 1109 (by decide +kernel) rfl), by decide +kernel, (gW_in 61 (by decide +kernel) rfl), by decide +kernel⟩
abbrev mX11_plate : Mi := (RX11, "plate", "(II)I", cX11_plate, 3, (some .int))
theorem lcX11_plate : LkC mX11_plate 2 := ⟨(gW_in 1120 (by decide +kernel) rfl), by decide +kernel, (gW_in 61 (by decide +kernel) rfl), by decide +kernel⟩
abbrev mX11_epochOf : Mi := (RX11, "epochOf", "(II)I", cX11_epochOf, 7, (some .int))
theorem lcX11_epochOf : LkC mX11_epochOf 2 := ⟨(gW_in 1140 (by decide +kernel) rfl), by decide +kernel, (gW_in 61 (by decide +kernel) rfl), by decide +kernel⟩
abbrev mX11_entry : Mi := (RX11, "entry", "(II)I", cX11_entry, 4, (some .int))
theorem lcX11_entry : LkC mX11_entry 2 := ⟨(gW_in 1124 (by decide +kernel) rfl), by decide +kernel, (gW_in 61 (by decide +kernel) rfl), by decide +kernel⟩
abbrev mX11_writeEpoch : Mi := (RX11, "writeEpoch", "(II)I", cX11_writeEpoch, 7, (some .int))
theorem lcX11_writeEpoch : LkC mX11_writeEpoch 2 := ⟨(gW_in 1128 (by decide +kernel) rfl), by decide +kernel, (gW_in 61 (by decide +kernel) rfl), by decide +kernel⟩
abbrev mX11_mayBe : Mi := (RX11, "mayBe", "(II)V", cX11_mayBe, 7, none)
theorem lcX11_mayBe : LkC mX11_mayBe 2 := ⟨(gW_in 1148 (by decide +kernel) rfl), by decide +kernel, (gW_in 61 (by decide +kernel) rfl), by decide +kernel⟩
abbrev mX11_compare : Mi := (RX11, "compare", "(I)I", cX11_compare, 5, (some .int))
theorem lcX11_compare : LkC mX11_compare 1 := ⟨(gW_in 1160 (by decide +kernel) rfl), by decide +kernel, (gW_in 61 (by decide +kernel) rfl), by decide +kernel⟩
abbrev mX11_keepState : Mi := (RX11, "keepState", "()Z", cX11_keepState, 5, (some .boolean))
theorem lcX11_keepState : LkC mX11_keepState 0 := ⟨(gW_in 1156 (by decide +kernel) rfl), by decide +kernel, (gW_in 61 (by decide +kernel) rfl), by decide +kernel⟩
abbrev mX11_keepAll : Mi := (RX11, "keepAll", "()Z", cX11_keepAll, 4, (some .boolean))
theorem lcX11_keepAll : LkC mX11_keepAll 0 := ⟨(gW_in 1152 (by decide +kernel) rfl), by decide +kernel, (gW_in 61 (by decide +kernel) rfl), by decide +kernel⟩
abbrev mX11_onlyBase : Mi := (RX11, "onlyBase", "()V", cX11_onlyBase, 2, none)
theorem lcX11_onlyBase : LkC mX11_onlyBase 0 := ⟨(gW_in 1144 (by decide +kernel) rfl), by decide +kernel, (gW_in 61 (by decide +kernel) rfl), by decide +kernel⟩
abbrev mX11_findStates : Mi := (RX11, "findStates", "(I)Z", cX11_findStates, 6, (some .boolean))
theorem lcX11_findStates : LkC mX11_findStates 1 := ⟨(gW_in 1136 (by decide +kernel) rfl), by decide +kernel, (gW_in 61 (by decide +kernel) rfl), by decide +kernel⟩
abbrev mX11_states : Mi := (RX11, "states", "()I", cX11_states, 1, (some .int))
theorem lcX11_states : LkC mX11_states 0 := ⟨(gW_in 1132 (by decide +kernel) rfl), by decide +kernel, (gW_in 61 (by decide +kernel) rfl), by decide +kernel⟩
abbrev mX11_state : Mi := (RX11, "state", "(III)I", cX11_state, 4, (some .int))
theorem lcX11_state : LkC mX11_state 3 := ⟨(gW_in 1164 (by decide +kernel) rfl), by decide +kernel, (gW_in 61 (by decide +kernel) rfl), by decide +kernel⟩
abbrev mX11_fall : Mi := (RX11, "fall", "(I)I", cX11_fall, 3, (some .int))
theorem lcX11_fall : LkC mX11_fall 1 := ⟨(gW_in 1168 (by decide +kernel) rfl), by decide +kernel, (gW_in 61 (by decide +kernel) rfl), by decide +kernel⟩
abbrev mX11_fencesOf : Mi := (RX11, "fencesOf", "(I)I", cX11_fencesOf, 1, (some .int))
theorem lcX11_fencesOf : LkC mX11_fencesOf 1 := ⟨(gW_in 1179 (by decide +kernel) rfl), by decide +kernel, (gW_in 61 (by decide +kernel) rfl), by decide +kernel⟩
abbrev mX11_format : Mi := (RX11, "format", "(II)V", cX11_format, 4, none)
theorem lcX11_format : LkC mX11_format 2 := ⟨(gW_in 1176 (by decide +kernel) rfl), by decide +kernel, (gW_in 61 (by decide +kernel) rfl), by decide +kernel⟩
abbrev mX11_store : Mi := (RX11, "store", "(I)I", cX11_store, 2, (some .int))
theorem lcX11_store : LkC mX11_store 1 := ⟨(gW_in 1172 (by decide +kernel) rfl), by decide +kernel, (gW_in 61 (by decide +kernel) rfl), by decide +kernel⟩
abbrev mX11_high : Mi := (RX11, "high", "(J)I", cX11_high, 2, (some .int))
theorem lcX11_high : LkC mX11_high 1 := ⟨(gW_in 1190 (by decide +kernel) rfl), by decide +kernel, (gW_in 61 (by decide +kernel) rfl), by decide +kernel⟩
abbrev mX11_joined : Mi := (RX11, "joined", "(II)J", cX11_joined, 2, (some .long))
theorem lcX11_joined : LkC mX11_joined 2 := ⟨(gW_in 1223 (by decide +kernel) rfl), by decide +kernel, (gW_in 61 (by decide +kernel) rfl), by decide +kernel⟩
abbrev mX11_root : Mi := (RX11, "root", "(II)I", cX11_root, 5, (some .int))
theorem lcX11_root : LkC mX11_root 2 := ⟨(gW_in 1213 (by decide +kernel) rfl), by decide +kernel, (gW_in 61 (by decide +kernel) rfl), by decide +kernel⟩
abbrev mX11_version : Mi := (RX11, "version", "(I)I", cX11_version, 4, (some .int))
theorem lcX11_version : LkC mX11_version 1 := ⟨(gW_in 1209 (by decide +kernel) rfl), by decide +kernel, (gW_in 61 (by decide +kernel) rfl), by decide +kernel⟩
abbrev mX11_placeOf : Mi := (RX11, "placeOf", "(II)I", cX11_placeOf, 2, (some .int))
theorem lcX11_placeOf : LkC mX11_placeOf 2 := ⟨(gW_in 1220 (by decide +kernel) rfl), by decide +kernel, (gW_in 61 (by decide +kernel) rfl), by decide +kernel⟩
abbrev mX11_keyOf : Mi := (RX11, "keyOf", "(III)J", cX11_keyOf, 6, (some .long))
theorem lcX11_keyOf : LkC mX11_keyOf 3 := ⟨(gW_in 1217 (by decide +kernel) rfl), by decide +kernel, (gW_in 61 (by decide +kernel) rfl), by decide +kernel⟩
abbrev mX11_sum : Mi := (RX11, "sum", "(IIIIIII)I", cX11_sum, 8, (some .int))
theorem lcX11_sum : LkC mX11_sum 7 := ⟨(gW_in 1201 (by decide +kernel) rfl), by decide +kernel, (gW_in 61 (by decide +kernel) rfl), by decide +kernel⟩
abbrev mX11_plan : Mi := (RX11, "plan", "(III)V", cX11_plan, 4, none)
theorem lcX11_plan : LkC mX11_plan 3 := ⟨(gW_in 1194 (by decide +kernel) rfl), by decide +kernel, (gW_in 61 (by decide +kernel) rfl), by decide +kernel⟩
abbrev mX11_planFence : Mi := (RX11, "planFence", "(II)V", cX11_planFence, 3, none)
theorem lcX11_planFence : LkC mX11_planFence 2 := ⟨(gW_in 1198 (by decide +kernel) rfl), by decide +kernel, (gW_in 61 (by decide +kernel) rfl), by decide +kernel⟩
abbrev mX11_planEnd : Mi := (RX11, "planEnd", "(I)V", cX11_planEnd, 2, none)
theorem lcX11_planEnd : LkC mX11_planEnd 1 := ⟨(gW_in 1205 (by decide +kernel) rfl), by decide +kernel, (gW_in 61 (by decide +kernel) rfl), by decide +kernel⟩
abbrev mX11_planChange : Mi := (RX11, "planChange", "(IIIJIJ)V", cX11_planChange, 14, none)
theorem lcX11_planChange : LkC mX11_planChange 6 := ⟨(gW_in 1187 (by decide +kernel) rfl), by decide +kernel, (gW_in 61 (by decide +kernel) rfl), by decide +kernel⟩
abbrev mX11_planRise : Mi := (RX11, "planRise", "(II)V", cX11_planRise, 7, none)
theorem lcX11_planRise : LkC mX11_planRise 2 := ⟨(gW_in 1244 (by decide +kernel) rfl), by decide +kernel, (gW_in 61 (by decide +kernel) rfl), by decide +kernel⟩
abbrev mX11_takePlan : Mi := (RX11, "takePlan", "()I", cX11_takePlan, 3, (some .int))
theorem lcX11_takePlan : LkC mX11_takePlan 0 := ⟨(gW_in 1228 (by decide +kernel) rfl), by decide +kernel, (gW_in 61 (by decide +kernel) rfl), by decide +kernel⟩
abbrev mX11_put : Mi := (RX11, "put", "(IJ)I", cX11_put, 4, (some .int))
theorem lcX11_put : LkC mX11_put 2 := ⟨(gW_in 1183 (by decide +kernel) rfl), by decide +kernel, (gW_in 61 (by decide +kernel) rfl), by decide +kernel⟩
abbrev mX11_move : Mi := (RX11, "move", "(II)I", cX11_move, 3, (some .int))
theorem lcX11_move : LkC mX11_move 2 := ⟨(gW_in 1232 (by decide +kernel) rfl), by decide +kernel, (gW_in 61 (by decide +kernel) rfl), by decide +kernel⟩
abbrev mX11_get : Mi := (RX11, "get", "(I)J", cX11_get, 2, (some .long))
theorem lcX11_get : LkC mX11_get 1 := ⟨(gW_in 1236 (by decide +kernel) rfl), by decide +kernel, (gW_in 61 (by decide +kernel) rfl), by decide +kernel⟩
abbrev mX11_rise : Mi := (RX11, "rise", "()I", cX11_rise, 1, (some .int))
theorem lcX11_rise : LkC mX11_rise 0 := ⟨(gW_in 1240 (by decide +kernel) rfl), by decide +kernel, (gW_in 61 (by decide +kernel) rfl), by decide +kernel⟩
abbrev mX11_isSound : Mi := (RX11, "isSound", "()Z", cX11_isSound, 1, (some .boolean))
theorem lcX11_isSound : LkC mX11_isSound 0 := ⟨(gW_in 1248 (by decide +kernel) rfl), by decide +kernel, (gW_in 61 (by decide +kernel) rfl), by decide +kernel⟩
abbrev mX11_add : Mi := (RX11, "add", "(IIIJ)I", cX11_add, 6, (some .int))
theorem lcX11_add : LkC mX11_add 4 := ⟨(gW_in 1256 (by decide +kernel) rfl), by decide +kernel, (gW_in 61 (by decide +kernel) rfl), by decide +kernel⟩
abbrev mX11_addPut : Mi := (RX11, "addPut", "(IJ)I", cX11_addPut, 4, (some .int))
theorem lcX11_addPut : LkC mX11_addPut 2 := ⟨(gW_in 1252 (by decide +kernel) rfl), by decide +kernel, (gW_in 61 (by decide +kernel) rfl), by decide +kernel⟩
abbrev mX11_addMove : Mi := (RX11, "addMove", "(II)I", cX11_addMove, 3, (some .int))
theorem lcX11_addMove : LkC mX11_addMove 2 := ⟨(gW_in 1260 (by decide +kernel) rfl), by decide +kernel, (gW_in 61 (by decide +kernel) rfl), by decide +kernel⟩
abbrev mX11_addSure : Mi := (RX11, "addSure", "()I", cX11_addSure, 1, (some .int))
theorem lcX11_addSure : LkC mX11_addSure 0 := ⟨(gW_in 1264 (by decide +kernel) rfl), by decide +kernel, (gW_in 61 (by decide +kernel) rfl), by decide +kernel⟩
abbrev mX11_clear : Mi := (RX11, "clear", "()I", cX11_clear, 2, (some .int))
theorem lcX11_clear : LkC mX11_clear 0 := ⟨(gW_in 1268 (by decide +kernel) rfl), by decide +kernel, (gW_in 61 (by decide +kernel) rfl), by decide +kernel⟩
abbrev mX11_findDue : Mi := (RX11, "findDue", "()V", cX11_findDue, 3, none)
theorem lcX11_findDue : LkC mX11_findDue 0 := ⟨(gW_in 1280 (by decide +kernel) rfl), by decide +kernel, (gW_in 61 (by decide +kernel) rfl), by decide +kernel⟩
abbrev mX11_isRight : Mi := (RX11, "isRight", "()Z", cX11_isRight, 4, (some .boolean))
theorem lcX11_isRight : LkC mX11_isRight 0 := ⟨(gW_in 1288 (by decide +kernel) rfl), by decide +kernel, (gW_in 61 (by decide +kernel) rfl), by decide +kernel⟩
abbrev mX11_moment : Mi := (RX11, "moment", "(I)Z", cX11_moment, 6, (some .boolean))
theorem lcX11_moment : LkC mX11_moment 1 := ⟨(gW_in 1284 (by decide +kernel) rfl), by decide +kernel, (gW_in 61 (by decide +kernel) rfl), by decide +kernel⟩
abbrev mX11_goThroughAct : Mi := (RX11, "goThroughAct", "(II)Z", cX11_goThroughAct, 5, (some .boolean))
theorem lcX11_goThroughAct : LkC mX11_goThroughAct 2 := ⟨(gW_in 1292 (by decide +kernel) rfl), by decide +kernel, (gW_in 61 (by decide +kernel) rfl), by decide +kernel⟩
abbrev mX11_goThrough : Mi := (RX11, "goThrough", "(I)Z", cX11_goThrough, 4, (some .boolean))
theorem lcX11_goThrough : LkC mX11_goThrough 1 := ⟨(gW_in 1276 (by decide +kernel) rfl), by decide +kernel, (gW_in 61 (by decide +kernel) rfl), by decide +kernel⟩
abbrev mX11_through : Mi := (RX11, "through", "(I)I", cX11_through, 3, (some .int))
theorem lcX11_through : LkC mX11_through 1 := ⟨(gW_in 1272 (by decide +kernel) rfl), by decide +kernel, (gW_in 61 (by decide +kernel) rfl), by decide +kernel⟩
abbrev mX11_gone : Mi := (RX11, "gone", "(I)I", cX11_gone, 2, (some .int))
theorem lcX11_gone : LkC mX11_gone 1 := ⟨(gW_in 1296 (by decide +kernel) rfl), by decide +kernel, (gW_in 61 (by decide +kernel) rfl), by decide +kernel⟩
abbrev mX11_bad : Mi := (RX11, "bad", "(II)I", cX11_bad, 3, (some .int))
theorem lcX11_bad : LkC mX11_bad 2 := ⟨(gW_in 1300 (by decide +kernel) rfl), by decide +kernel, (gW_in 61 (by decide +kernel) rfl), by decide +kernel⟩
abbrev mX11_spare : Mi := (RX11, "spare", "(IIZ)Z", cX11_spare, 4, (some .boolean))
theorem lcX11_spare : LkC mX11_spare 3 := ⟨(gW_in 1304 (by decide +kernel) rfl), by decide +kernel, (gW_in 61 (by decide +kernel) rfl), by decide +kernel⟩
abbrev mX11_least : Mi := (RX11, "least", "(I)I", cX11_least, 8, (some .int))
theorem lcX11_least : LkC mX11_least 1 := ⟨(gW_in 1308 (by decide +kernel) rfl), by decide +kernel, (gW_in 61 (by decide +kernel) rfl), by decide +kernel⟩
abbrev mX11_digest : Mi := (RX11, "digest", "(I)I", cX11_digest, 4, (some .int))
theorem lcX11_digest : LkC mX11_digest 1 := ⟨(gW_in 1312 (by decide +kernel) rfl), by decide +kernel, (gW_in 61 (by decide +kernel) rfl), by decide +kernel⟩
abbrev mX11_status : Mi := (RX11, "status", "(I)I", cX11_status, 4, (some .int))
theorem lcX11_status : LkC mX11_status 1 := ⟨(gW_in 1316 (by decide +kernel) rfl), by decide +kernel, (gW_in 61 (by decide +kernel) rfl), by decide +kernel⟩
abbrev mJ6_bitCount_0f7a4 : Mi := (RJ6, "bitCount", "(I)I", cJ6_bitCount_0f7a4, 1, (some .int))
theorem lcJ6_bitCount_0f7a4 : LkC mJ6_bitCount_0f7a4 1 := ⟨(gW_in 478 (by decide +kernel) rfl), by decide +kernel, (gW_in 67 (by decide +kernel) rfl), by decide +kernel⟩
abbrev mJ9_max_7cf53 : Mi := (RJ9, "max", "(II)I", cJ9_max_7cf53, 2, (some .int))
abbrev mJ9_min_7cf53 : Mi := (RJ9, "min", "(II)I", cJ9_min_7cf53, 2, (some .int))
abbrev mJ7_fill_53178 : Mi := (RJ7, "fill", "([II)V", cJ7_fill_53178, 4, none)
theorem lcJ7_fill_53178 : LkC mJ7_fill_53178 2 := ⟨(gW_in 521 (by decide +kernel) rfl), by decide +kernel, (gW_in 68 (by decide +kernel) rfl), by decide +kernel⟩
abbrev mL_read : Mi := (RL, "read", "(LOrderedDisc;II[J)I", cL_read, 5, (some .int))
abbrev mL_plate : Mi := (RL, "plate", "(LOrderedDisc;II[J)I", cL_plate, 5, (some .int))
abbrev mL_state : Mi := (RL, "state", "(LOrderedDisc;III[J)I", cL_state, 6, (some .int))
abbrev mL_get : Mi := (RL, "get", "(LOrderedDisc;I[J)I", cL_get, 4, (some .int))
theorem fX0_9 : Flk RX0 9 0 0 true (.array .int) := ⟨_, _, _, _, klX0, by decide, (gW_in 85 (by decide +kernel) rfl), rfl, rfl⟩
theorem eX0_9 : FlkF RX0 9 0 0 (.array .int) := ⟨_, _, _, _, klX0, by decide, (gW_in 85 (by decide +kernel) rfl), rfl, rfl, rfl⟩
theorem fX9_70 : Flk RX9 70 0 0 true (.array .int) := ⟨_, _, _, _, klX0, by decide, (gW_in 86 (by decide +kernel) rfl), rfl, rfl⟩
theorem fX10_114 : Flk RX10 114 0 0 true (.array .int) := ⟨_, _, _, _, klX0, by decide, (gW_in 87 (by decide +kernel) rfl), rfl, rfl⟩
theorem fX0_15 : Flk RX0 15 0 1 true (.array .int) := ⟨_, _, _, _, klX0, by decide, (gW_in 88 (by decide +kernel) rfl), rfl, rfl⟩
theorem eX0_15 : FlkF RX0 15 0 1 (.array .int) := ⟨_, _, _, _, klX0, by decide, (gW_in 88 (by decide +kernel) rfl), rfl, rfl, rfl⟩
theorem fX10_111 : Flk RX10 111 0 1 true (.array .int) := ⟨_, _, _, _, klX0, by decide, (gW_in 89 (by decide +kernel) rfl), rfl, rfl⟩
theorem fX3_117 : Flk RX3 117 0 1 true (.array .int) := ⟨_, _, _, _, klX0, by decide, (gW_in 90 (by decide +kernel) rfl), rfl, rfl⟩
theorem fX0_18 : Flk RX0 18 0 2 true (.array .int) := ⟨_, _, _, _, klX0, by decide, (gW_in 91 (by decide +kernel) rfl), rfl, rfl⟩
theorem eX0_18 : FlkF RX0 18 0 2 (.array .int) := ⟨_, _, _, _, klX0, by decide, (gW_in 91 (by decide +kernel) rfl), rfl, rfl, rfl⟩
theorem fX9_98 : Flk RX9 98 0 2 true (.array .int) := ⟨_, _, _, _, klX0, by decide, (gW_in 92 (by decide +kernel) rfl), rfl, rfl⟩
theorem fX10_117 : Flk RX10 117 0 2 true (.array .int) := ⟨_, _, _, _, klX0, by decide, (gW_in 93 (by decide +kernel) rfl), rfl, rfl⟩
theorem fX0_21 : Flk RX0 21 0 3 true (.array .int) := ⟨_, _, _, _, klX0, by decide, (gW_in 94 (by decide +kernel) rfl), rfl, rfl⟩
theorem eX0_21 : FlkF RX0 21 0 3 (.array .int) := ⟨_, _, _, _, klX0, by decide, (gW_in 94 (by decide +kernel) rfl), rfl, rfl, rfl⟩
theorem fX9_89 : Flk RX9 89 0 3 true (.array .int) := ⟨_, _, _, _, klX0, by decide, (gW_in 95 (by decide +kernel) rfl), rfl, rfl⟩
theorem fX10_120 : Flk RX10 120 0 3 true (.array .int) := ⟨_, _, _, _, klX0, by decide, (gW_in 96 (by decide +kernel) rfl), rfl, rfl⟩
theorem fX0_24 : Flk RX0 24 0 4 true (.array .int) := ⟨_, _, _, _, klX0, by decide, (gW_in 97 (by decide +kernel) rfl), rfl, rfl⟩
theorem eX0_24 : FlkF RX0 24 0 4 (.array .int) := ⟨_, _, _, _, klX0, by decide, (gW_in 97 (by decide +kernel) rfl), rfl, rfl, rfl⟩
theorem fX9_92 : Flk RX9 92 0 4 true (.array .int) := ⟨_, _, _, _, klX0, by decide, (gW_in 98 (by decide +kernel) rfl), rfl, rfl⟩
theorem fX10_123 : Flk RX10 123 0 4 true (.array .int) := ⟨_, _, _, _, klX0, by decide, (gW_in 99 (by decide +kernel) rfl), rfl, rfl⟩
theorem fX0_27 : Flk RX0 27 0 5 true (.array .int) := ⟨_, _, _, _, klX0, by decide, (gW_in 100 (by decide +kernel) rfl), rfl, rfl⟩
theorem eX0_27 : FlkF RX0 27 0 5 (.array .int) := ⟨_, _, _, _, klX0, by decide, (gW_in 100 (by decide +kernel) rfl), rfl, rfl, rfl⟩
theorem fX9_101 : Flk RX9 101 0 5 true (.array .int) := ⟨_, _, _, _, klX0, by decide, (gW_in 101 (by decide +kernel) rfl), rfl, rfl⟩
theorem fX10_126 : Flk RX10 126 0 5 true (.array .int) := ⟨_, _, _, _, klX0, by decide, (gW_in 102 (by decide +kernel) rfl), rfl, rfl⟩
theorem fX0_30 : Flk RX0 30 0 6 false .int := ⟨_, _, _, _, klX0, by decide, (gW_in 103 (by decide +kernel) rfl), rfl, rfl⟩
theorem fX10_88 : Flk RX10 88 0 6 false .int := ⟨_, _, _, _, klX0, by decide, (gW_in 104 (by decide +kernel) rfl), rfl, rfl⟩
theorem fX9_95 : Flk RX9 95 0 6 false .int := ⟨_, _, _, _, klX0, by decide, (gW_in 105 (by decide +kernel) rfl), rfl, rfl⟩
theorem fX0_34 : Flk RX0 34 0 7 false .int := ⟨_, _, _, _, klX0, by decide, (gW_in 106 (by decide +kernel) rfl), rfl, rfl⟩
theorem fX10_94 : Flk RX10 94 0 7 false .int := ⟨_, _, _, _, klX0, by decide, (gW_in 107 (by decide +kernel) rfl), rfl, rfl⟩
theorem fX0_37 : Flk RX0 37 0 8 false .int := ⟨_, _, _, _, klX0, by decide, (gW_in 108 (by decide +kernel) rfl), rfl, rfl⟩
theorem fX9_60 : Flk RX9 60 0 8 false .int := ⟨_, _, _, _, klX0, by decide, (gW_in 109 (by decide +kernel) rfl), rfl, rfl⟩
theorem fX10_235 : Flk RX10 235 0 8 false .int := ⟨_, _, _, _, klX0, by decide, (gW_in 110 (by decide +kernel) rfl), rfl, rfl⟩
theorem fX0_40 : Flk RX0 40 0 9 false .boolean := ⟨_, _, _, _, klX0, by decide, (gW_in 111 (by decide +kernel) rfl), rfl, rfl⟩
theorem fX0_44 : Flk RX0 44 0 10 false .int := ⟨_, _, _, _, klX0, by decide, (gW_in 112 (by decide +kernel) rfl), rfl, rfl⟩
theorem fX9_73 : Flk RX9 73 0 10 false .int := ⟨_, _, _, _, klX0, by decide, (gW_in 113 (by decide +kernel) rfl), rfl, rfl⟩
theorem fX0_47 : Flk RX0 47 0 11 false .int := ⟨_, _, _, _, klX0, by decide, (gW_in 114 (by decide +kernel) rfl), rfl, rfl⟩
theorem fX10_242 : Flk RX10 242 0 11 false .int := ⟨_, _, _, _, klX0, by decide, (gW_in 115 (by decide +kernel) rfl), rfl, rfl⟩
theorem fX0_50 : Flk RX0 50 0 12 false .int := ⟨_, _, _, _, klX0, by decide, (gW_in 116 (by decide +kernel) rfl), rfl, rfl⟩
theorem fX9_55 : Flk RX9 55 0 12 false .int := ⟨_, _, _, _, klX0, by decide, (gW_in 117 (by decide +kernel) rfl), rfl, rfl⟩
theorem fX9_9 : Flk RX9 9 8 0 true (.array .int) := ⟨_, _, _, _, klX9, by decide, (gW_in 152 (by decide +kernel) rfl), rfl, rfl⟩
theorem eX9_9 : FlkF RX9 9 8 0 (.array .int) := ⟨_, _, _, _, klX9, by decide, (gW_in 152 (by decide +kernel) rfl), rfl, rfl, rfl⟩
theorem fX3_164 : Flk RX3 164 8 0 true (.array .int) := ⟨_, _, _, _, klX9, by decide, (gW_in 153 (by decide +kernel) rfl), rfl, rfl⟩
theorem fX10_142 : Flk RX10 142 8 0 true (.array .int) := ⟨_, _, _, _, klX9, by decide, (gW_in 154 (by decide +kernel) rfl), rfl, rfl⟩
theorem fX9_15 : Flk RX9 15 8 1 true (.array .int) := ⟨_, _, _, _, klX9, by decide, (gW_in 155 (by decide +kernel) rfl), rfl, rfl⟩
theorem eX9_15 : FlkF RX9 15 8 1 (.array .int) := ⟨_, _, _, _, klX9, by decide, (gW_in 155 (by decide +kernel) rfl), rfl, rfl, rfl⟩
theorem fX9_18 : Flk RX9 18 8 2 true (.array .int) := ⟨_, _, _, _, klX9, by decide, (gW_in 156 (by decide +kernel) rfl), rfl, rfl⟩
theorem eX9_18 : FlkF RX9 18 8 2 (.array .int) := ⟨_, _, _, _, klX9, by decide, (gW_in 156 (by decide +kernel) rfl), rfl, rfl, rfl⟩
theorem fX9_21 : Flk RX9 21 8 3 true (.array .int) := ⟨_, _, _, _, klX9, by decide, (gW_in 157 (by decide +kernel) rfl), rfl, rfl⟩
theorem eX9_21 : FlkF RX9 21 8 3 (.array .int) := ⟨_, _, _, _, klX9, by decide, (gW_in 157 (by decide +kernel) rfl), rfl, rfl, rfl⟩
theorem fX9_24 : Flk RX9 24 8 4 true (.array .int) := ⟨_, _, _, _, klX9, by decide, (gW_in 158 (by decide +kernel) rfl), rfl, rfl⟩
theorem eX9_24 : FlkF RX9 24 8 4 (.array .int) := ⟨_, _, _, _, klX9, by decide, (gW_in 158 (by decide +kernel) rfl), rfl, rfl, rfl⟩
theorem fX9_27 : Flk RX9 27 8 5 true (.array .int) := ⟨_, _, _, _, klX9, by decide, (gW_in 159 (by decide +kernel) rfl), rfl, rfl⟩
theorem eX9_27 : FlkF RX9 27 8 5 (.array .int) := ⟨_, _, _, _, klX9, by decide, (gW_in 159 (by decide +kernel) rfl), rfl, rfl, rfl⟩
theorem fX9_30 : Flk RX9 30 8 6 true (.array .int) := ⟨_, _, _, _, klX9, by decide, (gW_in 160 (by decide +kernel) rfl), rfl, rfl⟩
theorem eX9_30 : FlkF RX9 30 8 6 (.array .int) := ⟨_, _, _, _, klX9, by decide, (gW_in 160 (by decide +kernel) rfl), rfl, rfl, rfl⟩
theorem fX9_33 : Flk RX9 33 8 7 true (.array .int) := ⟨_, _, _, _, klX9, by decide, (gW_in 161 (by decide +kernel) rfl), rfl, rfl⟩
theorem eX9_33 : FlkF RX9 33 8 7 (.array .int) := ⟨_, _, _, _, klX9, by decide, (gW_in 161 (by decide +kernel) rfl), rfl, rfl, rfl⟩
theorem fX9_36 : Flk RX9 36 8 8 false .int := ⟨_, _, _, _, klX9, by decide, (gW_in 162 (by decide +kernel) rfl), rfl, rfl⟩
theorem fX9_40 : Flk RX9 40 8 9 false .int := ⟨_, _, _, _, klX9, by decide, (gW_in 163 (by decide +kernel) rfl), rfl, rfl⟩
theorem fX9_43 : Flk RX9 43 8 10 false .int := ⟨_, _, _, _, klX9, by decide, (gW_in 164 (by decide +kernel) rfl), rfl, rfl⟩
theorem fX9_46 : Flk RX9 46 8 11 false .int := ⟨_, _, _, _, klX9, by decide, (gW_in 165 (by decide +kernel) rfl), rfl, rfl⟩
theorem fX3_158 : Flk RX3 158 8 11 false .int := ⟨_, _, _, _, klX9, by decide, (gW_in 166 (by decide +kernel) rfl), rfl, rfl⟩
theorem fX10_133 : Flk RX10 133 8 11 false .int := ⟨_, _, _, _, klX9, by decide, (gW_in 167 (by decide +kernel) rfl), rfl, rfl⟩
theorem fX9_49 : Flk RX9 49 8 12 false .int := ⟨_, _, _, _, klX9, by decide, (gW_in 168 (by decide +kernel) rfl), rfl, rfl⟩
theorem fX9_52 : Flk RX9 52 8 13 false .int := ⟨_, _, _, _, klX9, by decide, (gW_in 169 (by decide +kernel) rfl), rfl, rfl⟩
theorem fX5_9 : Flk RX5 9 4 0 true (.array .int) := ⟨_, _, _, _, klX5, by decide, (gW_in 205 (by decide +kernel) rfl), rfl, rfl⟩
theorem eX5_9 : FlkF RX5 9 4 0 (.array .int) := ⟨_, _, _, _, klX5, by decide, (gW_in 205 (by decide +kernel) rfl), rfl, rfl, rfl⟩
theorem fX0_65 : Flk RX0 65 4 0 true (.array .int) := ⟨_, _, _, _, klX5, by decide, (gW_in 206 (by decide +kernel) rfl), rfl, rfl⟩
theorem fX5_13 : Flk RX5 13 4 1 true (.array .int) := ⟨_, _, _, _, klX5, by decide, (gW_in 207 (by decide +kernel) rfl), rfl, rfl⟩
theorem eX5_13 : FlkF RX5 13 4 1 (.array .int) := ⟨_, _, _, _, klX5, by decide, (gW_in 207 (by decide +kernel) rfl), rfl, rfl, rfl⟩
theorem fX0_66 : Flk RX0 66 4 1 true (.array .int) := ⟨_, _, _, _, klX5, by decide, (gW_in 208 (by decide +kernel) rfl), rfl, rfl⟩
theorem fX5_16 : Flk RX5 16 4 2 true (.array .int) := ⟨_, _, _, _, klX5, by decide, (gW_in 209 (by decide +kernel) rfl), rfl, rfl⟩
theorem eX5_16 : FlkF RX5 16 4 2 (.array .int) := ⟨_, _, _, _, klX5, by decide, (gW_in 209 (by decide +kernel) rfl), rfl, rfl, rfl⟩
theorem fX0_67 : Flk RX0 67 4 2 true (.array .int) := ⟨_, _, _, _, klX5, by decide, (gW_in 210 (by decide +kernel) rfl), rfl, rfl⟩
theorem fX5_19 : Flk RX5 19 4 3 false .int := ⟨_, _, _, _, klX5, by decide, (gW_in 211 (by decide +kernel) rfl), rfl, rfl⟩
theorem fX3_140 : Flk RX3 140 4 3 false .int := ⟨_, _, _, _, klX5, by decide, (gW_in 212 (by decide +kernel) rfl), rfl, rfl⟩
theorem fX10_245 : Flk RX10 245 4 3 false .int := ⟨_, _, _, _, klX5, by decide, (gW_in 213 (by decide +kernel) rfl), rfl, rfl⟩
theorem fX5_23 : Flk RX5 23 4 4 false .int := ⟨_, _, _, _, klX5, by decide, (gW_in 214 (by decide +kernel) rfl), rfl, rfl⟩
theorem fX7_9 : Flk RX7 9 6 0 true (.array .int) := ⟨_, _, _, _, klX7, by decide, (gW_in 232 (by decide +kernel) rfl), rfl, rfl⟩
theorem eX7_9 : FlkF RX7 9 6 0 (.array .int) := ⟨_, _, _, _, klX7, by decide, (gW_in 232 (by decide +kernel) rfl), rfl, rfl, rfl⟩
theorem fX3_98 : Flk RX3 98 6 0 true (.array .int) := ⟨_, _, _, _, klX7, by decide, (gW_in 233 (by decide +kernel) rfl), rfl, rfl⟩
theorem fX7_15 : Flk RX7 15 6 1 true (.array .int) := ⟨_, _, _, _, klX7, by decide, (gW_in 234 (by decide +kernel) rfl), rfl, rfl⟩
theorem eX7_15 : FlkF RX7 15 6 1 (.array .int) := ⟨_, _, _, _, klX7, by decide, (gW_in 234 (by decide +kernel) rfl), rfl, rfl, rfl⟩
theorem fX3_120 : Flk RX3 120 6 1 true (.array .int) := ⟨_, _, _, _, klX7, by decide, (gW_in 235 (by decide +kernel) rfl), rfl, rfl⟩
theorem fX7_18 : Flk RX7 18 6 2 true (.array .int) := ⟨_, _, _, _, klX7, by decide, (gW_in 236 (by decide +kernel) rfl), rfl, rfl⟩
theorem eX7_18 : FlkF RX7 18 6 2 (.array .int) := ⟨_, _, _, _, klX7, by decide, (gW_in 236 (by decide +kernel) rfl), rfl, rfl, rfl⟩
theorem fX3_133 : Flk RX3 133 6 2 true (.array .int) := ⟨_, _, _, _, klX7, by decide, (gW_in 237 (by decide +kernel) rfl), rfl, rfl⟩
theorem fX7_21 : Flk RX7 21 6 3 true (.array .long) := ⟨_, _, _, _, klX7, by decide, (gW_in 238 (by decide +kernel) rfl), rfl, rfl⟩
theorem eX7_21 : FlkF RX7 21 6 3 (.array .long) := ⟨_, _, _, _, klX7, by decide, (gW_in 238 (by decide +kernel) rfl), rfl, rfl, rfl⟩
theorem fX3_123 : Flk RX3 123 6 3 true (.array .long) := ⟨_, _, _, _, klX7, by decide, (gW_in 239 (by decide +kernel) rfl), rfl, rfl⟩
theorem fX7_25 : Flk RX7 25 6 4 false .int := ⟨_, _, _, _, klX7, by decide, (gW_in 240 (by decide +kernel) rfl), rfl, rfl⟩
theorem fX3_95 : Flk RX3 95 6 4 false .int := ⟨_, _, _, _, klX7, by decide, (gW_in 241 (by decide +kernel) rfl), rfl, rfl⟩
theorem fX10_207 : Flk RX10 207 6 4 false .int := ⟨_, _, _, _, klX7, by decide, (gW_in 242 (by decide +kernel) rfl), rfl, rfl⟩
theorem fX6_11 : Flk RX6 11 5 0 true (.array .int) := ⟨_, _, _, _, klX6, by decide, (gW_in 285 (by decide +kernel) rfl), rfl, rfl⟩
theorem eX6_11 : FlkF RX6 11 5 0 (.array .int) := ⟨_, _, _, _, klX6, by decide, (gW_in 285 (by decide +kernel) rfl), rfl, rfl, rfl⟩
theorem fX3_111 : Flk RX3 111 5 0 true (.array .int) := ⟨_, _, _, _, klX6, by decide, (gW_in 286 (by decide +kernel) rfl), rfl, rfl⟩
theorem fX10_221 : Flk RX10 221 5 0 true (.array .int) := ⟨_, _, _, _, klX6, by decide, (gW_in 287 (by decide +kernel) rfl), rfl, rfl⟩
theorem fX6_15 : Flk RX6 15 5 1 true (.array .int) := ⟨_, _, _, _, klX6, by decide, (gW_in 288 (by decide +kernel) rfl), rfl, rfl⟩
theorem eX6_15 : FlkF RX6 15 5 1 (.array .int) := ⟨_, _, _, _, klX6, by decide, (gW_in 288 (by decide +kernel) rfl), rfl, rfl, rfl⟩
theorem fX3_203 : Flk RX3 203 5 1 true (.array .int) := ⟨_, _, _, _, klX6, by decide, (gW_in 289 (by decide +kernel) rfl), rfl, rfl⟩
theorem fX10_229 : Flk RX10 229 5 1 true (.array .int) := ⟨_, _, _, _, klX6, by decide, (gW_in 290 (by decide +kernel) rfl), rfl, rfl⟩
theorem fX6_18 : Flk RX6 18 5 2 false .int := ⟨_, _, _, _, klX6, by decide, (gW_in 291 (by decide +kernel) rfl), rfl, rfl⟩
theorem fX3_200 : Flk RX3 200 5 2 false .int := ⟨_, _, _, _, klX6, by decide, (gW_in 292 (by decide +kernel) rfl), rfl, rfl⟩
theorem fX10_226 : Flk RX10 226 5 2 false .int := ⟨_, _, _, _, klX6, by decide, (gW_in 293 (by decide +kernel) rfl), rfl, rfl⟩
theorem fX3_12 : Flk RX3 12 2 0 true (.object "OrderedDisc$Disc") := ⟨_, _, _, _, klX3, by decide, (gW_in 301 (by decide +kernel) rfl), rfl, rfl⟩
theorem eX3_12 : FlkF RX3 12 2 0 (.object "OrderedDisc$Disc") := ⟨_, _, _, _, klX3, by decide, (gW_in 301 (by decide +kernel) rfl), rfl, rfl, rfl⟩
theorem fX3_21 : Flk RX3 21 2 1 true (.object "OrderedDisc$States") := ⟨_, _, _, _, klX3, by decide, (gW_in 302 (by decide +kernel) rfl), rfl, rfl⟩
theorem eX3_21 : FlkF RX3 21 2 1 (.object "OrderedDisc$States") := ⟨_, _, _, _, klX3, by decide, (gW_in 302 (by decide +kernel) rfl), rfl, rfl, rfl⟩
theorem fX3_28 : Flk RX3 28 2 2 true (.object "OrderedDisc$Plan") := ⟨_, _, _, _, klX3, by decide, (gW_in 303 (by decide +kernel) rfl), rfl, rfl⟩
theorem eX3_28 : FlkF RX3 28 2 2 (.object "OrderedDisc$Plan") := ⟨_, _, _, _, klX3, by decide, (gW_in 303 (by decide +kernel) rfl), rfl, rfl, rfl⟩
theorem fX3_32 : Flk RX3 32 2 3 true (.object "OrderedDisc$Plan") := ⟨_, _, _, _, klX3, by decide, (gW_in 304 (by decide +kernel) rfl), rfl, rfl⟩
theorem eX3_32 : FlkF RX3 32 2 3 (.object "OrderedDisc$Plan") := ⟨_, _, _, _, klX3, by decide, (gW_in 304 (by decide +kernel) rfl), rfl, rfl, rfl⟩
theorem fX3_37 : Flk RX3 37 2 4 true (.array (.array .int)) := ⟨_, _, _, _, klX3, by decide, (gW_in 305 (by decide +kernel) rfl), rfl, rfl⟩
theorem eX3_37 : FlkF RX3 37 2 4 (.array (.array .int)) := ⟨_, _, _, _, klX3, by decide, (gW_in 305 (by decide +kernel) rfl), rfl, rfl, rfl⟩
theorem fX3_40 : Flk RX3 40 2 5 true (.array .int) := ⟨_, _, _, _, klX3, by decide, (gW_in 306 (by decide +kernel) rfl), rfl, rfl⟩
theorem eX3_40 : FlkF RX3 40 2 5 (.array .int) := ⟨_, _, _, _, klX3, by decide, (gW_in 306 (by decide +kernel) rfl), rfl, rfl, rfl⟩
theorem fX3_44 : Flk RX3 44 2 6 true (.array .int) := ⟨_, _, _, _, klX3, by decide, (gW_in 307 (by decide +kernel) rfl), rfl, rfl⟩
theorem eX3_44 : FlkF RX3 44 2 6 (.array .int) := ⟨_, _, _, _, klX3, by decide, (gW_in 307 (by decide +kernel) rfl), rfl, rfl, rfl⟩
theorem fX3_50 : Flk RX3 50 2 7 false (.object "OrderedDisc$Kind") := ⟨_, _, _, _, klX3, by decide, (gW_in 308 (by decide +kernel) rfl), rfl, rfl⟩
theorem fX3_57 : Flk RX3 57 2 8 false (.object "OrderedDisc$Report") := ⟨_, _, _, _, klX3, by decide, (gW_in 309 (by decide +kernel) rfl), rfl, rfl⟩
theorem fX10_217 : Flk RX10 217 2 8 false (.object "OrderedDisc$Report") := ⟨_, _, _, _, klX3, by decide, (gW_in 310 (by decide +kernel) rfl), rfl, rfl⟩
theorem fX3_61 : Flk RX3 61 2 9 false (.object "OrderedDisc$Report") := ⟨_, _, _, _, klX3, by decide, (gW_in 311 (by decide +kernel) rfl), rfl, rfl⟩
theorem fX10_232 : Flk RX10 232 2 9 false (.object "OrderedDisc$Report") := ⟨_, _, _, _, klX3, by decide, (gW_in 312 (by decide +kernel) rfl), rfl, rfl⟩
theorem fX3_64 : Flk RX3 64 2 10 false .int := ⟨_, _, _, _, klX3, by decide, (gW_in 313 (by decide +kernel) rfl), rfl, rfl⟩
theorem fX3_68 : Flk RX3 68 2 11 false .int := ⟨_, _, _, _, klX3, by decide, (gW_in 314 (by decide +kernel) rfl), rfl, rfl⟩
theorem fX3_71 : Flk RX3 71 2 12 false .int := ⟨_, _, _, _, klX3, by decide, (gW_in 315 (by decide +kernel) rfl), rfl, rfl⟩
theorem fX3_74 : Flk RX3 74 2 13 false .boolean := ⟨_, _, _, _, klX3, by decide, (gW_in 316 (by decide +kernel) rfl), rfl, rfl⟩
theorem fX10_12 : Flk RX10 12 9 0 true (.object "OrderedDisc$Disc") := ⟨_, _, _, _, klX10, by decide, (gW_in 364 (by decide +kernel) rfl), rfl, rfl⟩
theorem eX10_12 : FlkF RX10 12 9 0 (.object "OrderedDisc$Disc") := ⟨_, _, _, _, klX10, by decide, (gW_in 364 (by decide +kernel) rfl), rfl, rfl, rfl⟩
theorem fX10_19 : Flk RX10 19 9 1 true (.object "OrderedDisc$States") := ⟨_, _, _, _, klX10, by decide, (gW_in 365 (by decide +kernel) rfl), rfl, rfl⟩
theorem eX10_19 : FlkF RX10 19 9 1 (.object "OrderedDisc$States") := ⟨_, _, _, _, klX10, by decide, (gW_in 365 (by decide +kernel) rfl), rfl, rfl, rfl⟩
theorem fX10_26 : Flk RX10 26 9 2 true (.object "OrderedDisc$Plan") := ⟨_, _, _, _, klX10, by decide, (gW_in 366 (by decide +kernel) rfl), rfl, rfl⟩
theorem eX10_26 : FlkF RX10 26 9 2 (.object "OrderedDisc$Plan") := ⟨_, _, _, _, klX10, by decide, (gW_in 366 (by decide +kernel) rfl), rfl, rfl, rfl⟩
theorem fX10_33 : Flk RX10 33 9 3 true (.object "OrderedDisc$Script") := ⟨_, _, _, _, klX10, by decide, (gW_in 367 (by decide +kernel) rfl), rfl, rfl⟩
theorem eX10_33 : FlkF RX10 33 9 3 (.object "OrderedDisc$Script") := ⟨_, _, _, _, klX10, by decide, (gW_in 367 (by decide +kernel) rfl), rfl, rfl, rfl⟩
theorem fX10_40 : Flk RX10 40 9 4 true (.object "OrderedDisc$Passage") := ⟨_, _, _, _, klX10, by decide, (gW_in 368 (by decide +kernel) rfl), rfl, rfl⟩
theorem eX10_40 : FlkF RX10 40 9 4 (.object "OrderedDisc$Passage") := ⟨_, _, _, _, klX10, by decide, (gW_in 368 (by decide +kernel) rfl), rfl, rfl, rfl⟩
theorem fX10_55 : Flk RX10 55 9 5 true (.array (.object "OrderedDisc$Kind")) := ⟨_, _, _, _, klX10, by decide, (gW_in 369 (by decide +kernel) rfl), rfl, rfl⟩
theorem eX10_55 : FlkF RX10 55 9 5 (.array (.object "OrderedDisc$Kind")) := ⟨_, _, _, _, klX10, by decide, (gW_in 369 (by decide +kernel) rfl), rfl, rfl, rfl⟩
theorem fX10_59 : Flk RX10 59 9 6 true (.array .int) := ⟨_, _, _, _, klX10, by decide, (gW_in 370 (by decide +kernel) rfl), rfl, rfl⟩
theorem eX10_59 : FlkF RX10 59 9 6 (.array .int) := ⟨_, _, _, _, klX10, by decide, (gW_in 370 (by decide +kernel) rfl), rfl, rfl, rfl⟩
theorem fX10_63 : Flk RX10 63 9 7 true (.array .int) := ⟨_, _, _, _, klX10, by decide, (gW_in 371 (by decide +kernel) rfl), rfl, rfl⟩
theorem eX10_63 : FlkF RX10 63 9 7 (.array .int) := ⟨_, _, _, _, klX10, by decide, (gW_in 371 (by decide +kernel) rfl), rfl, rfl, rfl⟩
theorem fX10_66 : Flk RX10 66 9 8 false .int := ⟨_, _, _, _, klX10, by decide, (gW_in 372 (by decide +kernel) rfl), rfl, rfl⟩
theorem fX10_70 : Flk RX10 70 9 9 false .int := ⟨_, _, _, _, klX10, by decide, (gW_in 373 (by decide +kernel) rfl), rfl, rfl⟩
theorem fX11_104 : Flk RX11 104 10 0 false .int := ⟨_, _, _, _, klX11, by decide, (gW_in 959 (by decide +kernel) rfl), rfl, rfl⟩
theorem fX11_7 : Flk RX11 7 10 1 true (.array .int) := ⟨_, _, _, _, klX11, by decide, (gW_in 960 (by decide +kernel) rfl), rfl, rfl⟩
theorem eX11_7 : FlkF RX11 7 10 1 (.array .int) := ⟨_, _, _, _, klX11, by decide, (gW_in 960 (by decide +kernel) rfl), rfl, rfl, rfl⟩
theorem fX11_13 : Flk RX11 13 10 2 true (.array .int) := ⟨_, _, _, _, klX11, by decide, (gW_in 961 (by decide +kernel) rfl), rfl, rfl⟩
theorem eX11_13 : FlkF RX11 13 10 2 (.array .int) := ⟨_, _, _, _, klX11, by decide, (gW_in 961 (by decide +kernel) rfl), rfl, rfl, rfl⟩
theorem fX11_16 : Flk RX11 16 10 3 true (.array .int) := ⟨_, _, _, _, klX11, by decide, (gW_in 962 (by decide +kernel) rfl), rfl, rfl⟩
theorem eX11_16 : FlkF RX11 16 10 3 (.array .int) := ⟨_, _, _, _, klX11, by decide, (gW_in 962 (by decide +kernel) rfl), rfl, rfl, rfl⟩
theorem fX11_19 : Flk RX11 19 10 4 true (.array .int) := ⟨_, _, _, _, klX11, by decide, (gW_in 963 (by decide +kernel) rfl), rfl, rfl⟩
theorem eX11_19 : FlkF RX11 19 10 4 (.array .int) := ⟨_, _, _, _, klX11, by decide, (gW_in 963 (by decide +kernel) rfl), rfl, rfl, rfl⟩
theorem fX11_22 : Flk RX11 22 10 5 true (.array .int) := ⟨_, _, _, _, klX11, by decide, (gW_in 964 (by decide +kernel) rfl), rfl, rfl⟩
theorem eX11_22 : FlkF RX11 22 10 5 (.array .int) := ⟨_, _, _, _, klX11, by decide, (gW_in 964 (by decide +kernel) rfl), rfl, rfl, rfl⟩
theorem fX11_25 : Flk RX11 25 10 6 false .int := ⟨_, _, _, _, klX11, by decide, (gW_in 965 (by decide +kernel) rfl), rfl, rfl⟩
theorem fX11_29 : Flk RX11 29 10 7 true (.array .boolean) := ⟨_, _, _, _, klX11, by decide, (gW_in 966 (by decide +kernel) rfl), rfl, rfl⟩
theorem eX11_29 : FlkF RX11 29 10 7 (.array .boolean) := ⟨_, _, _, _, klX11, by decide, (gW_in 966 (by decide +kernel) rfl), rfl, rfl, rfl⟩
theorem fX11_107 : Flk RX11 107 10 8 false .int := ⟨_, _, _, _, klX11, by decide, (gW_in 967 (by decide +kernel) rfl), rfl, rfl⟩
theorem fX11_164 : Flk RX11 164 10 9 false .int := ⟨_, _, _, _, klX11, by decide, (gW_in 968 (by decide +kernel) rfl), rfl, rfl⟩
theorem fX11_33 : Flk RX11 33 10 10 true (.array .int) := ⟨_, _, _, _, klX11, by decide, (gW_in 969 (by decide +kernel) rfl), rfl, rfl⟩
theorem eX11_33 : FlkF RX11 33 10 10 (.array .int) := ⟨_, _, _, _, klX11, by decide, (gW_in 969 (by decide +kernel) rfl), rfl, rfl, rfl⟩
theorem fX11_137 : Flk RX11 137 10 11 false .int := ⟨_, _, _, _, klX11, by decide, (gW_in 970 (by decide +kernel) rfl), rfl, rfl⟩
theorem fX11_37 : Flk RX11 37 10 12 true (.array .int) := ⟨_, _, _, _, klX11, by decide, (gW_in 971 (by decide +kernel) rfl), rfl, rfl⟩
theorem eX11_37 : FlkF RX11 37 10 12 (.array .int) := ⟨_, _, _, _, klX11, by decide, (gW_in 971 (by decide +kernel) rfl), rfl, rfl, rfl⟩
theorem fX11_40 : Flk RX11 40 10 13 true (.array .int) := ⟨_, _, _, _, klX11, by decide, (gW_in 972 (by decide +kernel) rfl), rfl, rfl⟩
theorem eX11_40 : FlkF RX11 40 10 13 (.array .int) := ⟨_, _, _, _, klX11, by decide, (gW_in 972 (by decide +kernel) rfl), rfl, rfl, rfl⟩
theorem fX11_43 : Flk RX11 43 10 14 true (.array .int) := ⟨_, _, _, _, klX11, by decide, (gW_in 973 (by decide +kernel) rfl), rfl, rfl⟩
theorem eX11_43 : FlkF RX11 43 10 14 (.array .int) := ⟨_, _, _, _, klX11, by decide, (gW_in 973 (by decide +kernel) rfl), rfl, rfl, rfl⟩
theorem fX11_46 : Flk RX11 46 10 15 true (.array .int) := ⟨_, _, _, _, klX11, by decide, (gW_in 974 (by decide +kernel) rfl), rfl, rfl⟩
theorem eX11_46 : FlkF RX11 46 10 15 (.array .int) := ⟨_, _, _, _, klX11, by decide, (gW_in 974 (by decide +kernel) rfl), rfl, rfl, rfl⟩
theorem fX11_49 : Flk RX11 49 10 16 true (.array .int) := ⟨_, _, _, _, klX11, by decide, (gW_in 975 (by decide +kernel) rfl), rfl, rfl⟩
theorem eX11_49 : FlkF RX11 49 10 16 (.array .int) := ⟨_, _, _, _, klX11, by decide, (gW_in 975 (by decide +kernel) rfl), rfl, rfl, rfl⟩
theorem fX11_52 : Flk RX11 52 10 17 true (.array .int) := ⟨_, _, _, _, klX11, by decide, (gW_in 976 (by decide +kernel) rfl), rfl, rfl⟩
theorem eX11_52 : FlkF RX11 52 10 17 (.array .int) := ⟨_, _, _, _, klX11, by decide, (gW_in 976 (by decide +kernel) rfl), rfl, rfl, rfl⟩
theorem fX11_55 : Flk RX11 55 10 18 true (.array .int) := ⟨_, _, _, _, klX11, by decide, (gW_in 977 (by decide +kernel) rfl), rfl, rfl⟩
theorem eX11_55 : FlkF RX11 55 10 18 (.array .int) := ⟨_, _, _, _, klX11, by decide, (gW_in 977 (by decide +kernel) rfl), rfl, rfl, rfl⟩
theorem fX11_58 : Flk RX11 58 10 19 true (.array .int) := ⟨_, _, _, _, klX11, by decide, (gW_in 978 (by decide +kernel) rfl), rfl, rfl⟩
theorem eX11_58 : FlkF RX11 58 10 19 (.array .int) := ⟨_, _, _, _, klX11, by decide, (gW_in 978 (by decide +kernel) rfl), rfl, rfl, rfl⟩
theorem fX11_61 : Flk RX11 61 10 20 true (.array .int) := ⟨_, _, _, _, klX11, by decide, (gW_in 979 (by decide +kernel) rfl), rfl, rfl⟩
theorem eX11_61 : FlkF RX11 61 10 20 (.array .int) := ⟨_, _, _, _, klX11, by decide, (gW_in 979 (by decide +kernel) rfl), rfl, rfl, rfl⟩
theorem fX11_188 : Flk RX11 188 10 21 false .int := ⟨_, _, _, _, klX11, by decide, (gW_in 980 (by decide +kernel) rfl), rfl, rfl⟩
theorem fX11_225 : Flk RX11 225 10 22 false .int := ⟨_, _, _, _, klX11, by decide, (gW_in 981 (by decide +kernel) rfl), rfl, rfl⟩
theorem fX11_64 : Flk RX11 64 10 23 true (.array .int) := ⟨_, _, _, _, klX11, by decide, (gW_in 982 (by decide +kernel) rfl), rfl, rfl⟩
theorem eX11_64 : FlkF RX11 64 10 23 (.array .int) := ⟨_, _, _, _, klX11, by decide, (gW_in 982 (by decide +kernel) rfl), rfl, rfl, rfl⟩
theorem fX11_67 : Flk RX11 67 10 24 true (.array .int) := ⟨_, _, _, _, klX11, by decide, (gW_in 983 (by decide +kernel) rfl), rfl, rfl⟩
theorem eX11_67 : FlkF RX11 67 10 24 (.array .int) := ⟨_, _, _, _, klX11, by decide, (gW_in 983 (by decide +kernel) rfl), rfl, rfl, rfl⟩
theorem fX11_70 : Flk RX11 70 10 25 true (.array .int) := ⟨_, _, _, _, klX11, by decide, (gW_in 984 (by decide +kernel) rfl), rfl, rfl⟩
theorem eX11_70 : FlkF RX11 70 10 25 (.array .int) := ⟨_, _, _, _, klX11, by decide, (gW_in 984 (by decide +kernel) rfl), rfl, rfl, rfl⟩
theorem fX11_73 : Flk RX11 73 10 26 true (.array .long) := ⟨_, _, _, _, klX11, by decide, (gW_in 985 (by decide +kernel) rfl), rfl, rfl⟩
theorem eX11_73 : FlkF RX11 73 10 26 (.array .long) := ⟨_, _, _, _, klX11, by decide, (gW_in 985 (by decide +kernel) rfl), rfl, rfl, rfl⟩
theorem fX11_77 : Flk RX11 77 10 27 true (.array .long) := ⟨_, _, _, _, klX11, by decide, (gW_in 986 (by decide +kernel) rfl), rfl, rfl⟩
theorem eX11_77 : FlkF RX11 77 10 27 (.array .long) := ⟨_, _, _, _, klX11, by decide, (gW_in 986 (by decide +kernel) rfl), rfl, rfl, rfl⟩
theorem fX11_80 : Flk RX11 80 10 28 true (.array .int) := ⟨_, _, _, _, klX11, by decide, (gW_in 987 (by decide +kernel) rfl), rfl, rfl⟩
theorem eX11_80 : FlkF RX11 80 10 28 (.array .int) := ⟨_, _, _, _, klX11, by decide, (gW_in 987 (by decide +kernel) rfl), rfl, rfl, rfl⟩
theorem fX11_83 : Flk RX11 83 10 29 true (.array .int) := ⟨_, _, _, _, klX11, by decide, (gW_in 988 (by decide +kernel) rfl), rfl, rfl⟩
theorem eX11_83 : FlkF RX11 83 10 29 (.array .int) := ⟨_, _, _, _, klX11, by decide, (gW_in 988 (by decide +kernel) rfl), rfl, rfl, rfl⟩
theorem fX11_86 : Flk RX11 86 10 30 true (.array .int) := ⟨_, _, _, _, klX11, by decide, (gW_in 989 (by decide +kernel) rfl), rfl, rfl⟩
theorem eX11_86 : FlkF RX11 86 10 30 (.array .int) := ⟨_, _, _, _, klX11, by decide, (gW_in 989 (by decide +kernel) rfl), rfl, rfl, rfl⟩
theorem fX11_89 : Flk RX11 89 10 31 true (.array .int) := ⟨_, _, _, _, klX11, by decide, (gW_in 990 (by decide +kernel) rfl), rfl, rfl⟩
theorem eX11_89 : FlkF RX11 89 10 31 (.array .int) := ⟨_, _, _, _, klX11, by decide, (gW_in 990 (by decide +kernel) rfl), rfl, rfl, rfl⟩
theorem fX11_232 : Flk RX11 232 10 32 false .int := ⟨_, _, _, _, klX11, by decide, (gW_in 991 (by decide +kernel) rfl), rfl, rfl⟩
theorem fX11_235 : Flk RX11 235 10 33 false .int := ⟨_, _, _, _, klX11, by decide, (gW_in 992 (by decide +kernel) rfl), rfl, rfl⟩
theorem fX11_92 : Flk RX11 92 10 34 true (.array .long) := ⟨_, _, _, _, klX11, by decide, (gW_in 993 (by decide +kernel) rfl), rfl, rfl⟩
theorem eX11_92 : FlkF RX11 92 10 34 (.array .long) := ⟨_, _, _, _, klX11, by decide, (gW_in 993 (by decide +kernel) rfl), rfl, rfl, rfl⟩
theorem fX11_95 : Flk RX11 95 10 35 true (.array .int) := ⟨_, _, _, _, klX11, by decide, (gW_in 994 (by decide +kernel) rfl), rfl, rfl⟩
theorem eX11_95 : FlkF RX11 95 10 35 (.array .int) := ⟨_, _, _, _, klX11, by decide, (gW_in 994 (by decide +kernel) rfl), rfl, rfl, rfl⟩
theorem fX11_98 : Flk RX11 98 10 36 true (.array .int) := ⟨_, _, _, _, klX11, by decide, (gW_in 995 (by decide +kernel) rfl), rfl, rfl⟩
theorem eX11_98 : FlkF RX11 98 10 36 (.array .int) := ⟨_, _, _, _, klX11, by decide, (gW_in 995 (by decide +kernel) rfl), rfl, rfl, rfl⟩
theorem fX11_101 : Flk RX11 101 10 37 true (.array .int) := ⟨_, _, _, _, klX11, by decide, (gW_in 996 (by decide +kernel) rfl), rfl, rfl⟩
theorem eX11_101 : FlkF RX11 101 10 37 (.array .int) := ⟨_, _, _, _, klX11, by decide, (gW_in 996 (by decide +kernel) rfl), rfl, rfl, rfl⟩
theorem lL_32 : LkV RL 32 mX10_write := ⟨(gW_in 395 (by decide +kernel) rfl), (gW_in 396 (by decide +kernel) rfl), (gW_in 397 (by decide +kernel) rfl)⟩
theorem lX10_73 : LkS RX10 73 mX10_isSector ∨ LkN RX10 73 mX10_isSector := Or.inl ⟨(gW_in 399 (by decide +kernel) rfl), (gW_in 400 (by decide +kernel) rfl)⟩
theorem lX10_77 : LkV RX10 77 mX10_refuse := ⟨(gW_in 402 (by decide +kernel) rfl), (gW_in 404 (by decide +kernel) rfl), (gW_in 0 (by decide +kernel) rfl)⟩
theorem lX10_81 : LkV RX10 81 mX0_hasRoom := ⟨(gW_in 406 (by decide +kernel) rfl), (gW_in 407 (by decide +kernel) rfl), (gW_in 408 (by decide +kernel) rfl)⟩
theorem lX10_84 : LkV RX10 84 mX0_enqueueWrite := ⟨(gW_in 410 (by decide +kernel) rfl), (gW_in 411 (by decide +kernel) rfl), (gW_in 412 (by decide +kernel) rfl)⟩
theorem lX0_53 : LkS RX0 53 mX10_isSector ∨ LkN RX0 53 mX10_isSector := Or.inr ⟨⟨"OrderedDisc", (nW_in 414 (by decide +kernel) rfl)⟩, (gW_in 400 (by decide +kernel) rfl)⟩
theorem lL_36 : LkV RL 36 mX10_fence := ⟨(gW_in 415 (by decide +kernel) rfl), (gW_in 416 (by decide +kernel) rfl), (gW_in 417 (by decide +kernel) rfl)⟩
theorem lX10_91 : LkV RX10 91 mX0_enqueueFence := ⟨(gW_in 419 (by decide +kernel) rfl), (gW_in 420 (by decide +kernel) rfl), (gW_in 421 (by decide +kernel) rfl)⟩
theorem lL_41 : LkV RL 41 mX10_flush := ⟨(gW_in 423 (by decide +kernel) rfl), (gW_in 424 (by decide +kernel) rfl), (gW_in 425 (by decide +kernel) rfl)⟩
theorem lX10_97 : LkV RX10 97 mX0_settle := ⟨(gW_in 427 (by decide +kernel) rfl), (gW_in 428 (by decide +kernel) rfl), (gW_in 429 (by decide +kernel) rfl)⟩
theorem lX0_72 : LkV RX0 72 mX0_comeUpWith := ⟨(gW_in 431 (by decide +kernel) rfl), (gW_in 432 (by decide +kernel) rfl), (gW_in 433 (by decide +kernel) rfl)⟩
theorem lL_57 : LkV RL 57 mX10_entry := ⟨(gW_in 435 (by decide +kernel) rfl), (gW_in 436 (by decide +kernel) rfl), (gW_in 437 (by decide +kernel) rfl)⟩
theorem lL_61 : LkV RL 61 mX10_states := ⟨(gW_in 439 (by decide +kernel) rfl), (gW_in 440 (by decide +kernel) rfl), (gW_in 441 (by decide +kernel) rfl)⟩
theorem lX10_129 : LkV RX10 129 mX9_refresh := ⟨(gW_in 443 (by decide +kernel) rfl), (gW_in 444 (by decide +kernel) rfl), (gW_in 445 (by decide +kernel) rfl)⟩
theorem lX9_76 : LkV RX9 76 mX9_gather := ⟨(gW_in 453 (by decide +kernel) rfl), (gW_in 455 (by decide +kernel) rfl), (gW_in 1 (by decide +kernel) rfl)⟩
theorem lX9_83 : LkS RX9 83 mX9_span ∨ LkN RX9 83 mX9_span := Or.inl ⟨(gW_in 457 (by decide +kernel) rfl), (gW_in 458 (by decide +kernel) rfl)⟩
theorem lX9_104 : LkV RX9 104 mX9_allow := ⟨(gW_in 460 (by decide +kernel) rfl), (gW_in 462 (by decide +kernel) rfl), (gW_in 2 (by decide +kernel) rfl)⟩
theorem lX9_80 : LkV RX9 80 mX9_countAlone := ⟨(gW_in 464 (by decide +kernel) rfl), (gW_in 466 (by decide +kernel) rfl), (gW_in 3 (by decide +kernel) rfl)⟩
theorem lX9_108 : LkV RX9 108 mX9_choicesOf := ⟨(gW_in 468 (by decide +kernel) rfl), (gW_in 470 (by decide +kernel) rfl), (gW_in 4 (by decide +kernel) rfl)⟩
theorem lX9_86 : LkV RX9 86 mX9_countFrom := ⟨(gW_in 472 (by decide +kernel) rfl), (gW_in 474 (by decide +kernel) rfl), (gW_in 5 (by decide +kernel) rfl)⟩
theorem lX9_111 : LkS RX9 111 mJ6_bitCount_0f7a4 ∨ LkN RX9 111 mJ6_bitCount_0f7a4 := Or.inl ⟨(gW_in 476 (by decide +kernel) rfl), (gW_in 477 (by decide +kernel) rfl)⟩
theorem lL_69 : LkV RL 69 mX10_fall := ⟨(gW_in 482 (by decide +kernel) rfl), (gW_in 483 (by decide +kernel) rfl), (gW_in 484 (by decide +kernel) rfl)⟩
theorem lX10_138 : LkV RX10 138 mX9_seek := ⟨(gW_in 486 (by decide +kernel) rfl), (gW_in 487 (by decide +kernel) rfl), (gW_in 488 (by decide +kernel) rfl)⟩
theorem lX9_117 : LkV RX9 117 mX9_advance := ⟨(gW_in 490 (by decide +kernel) rfl), (gW_in 492 (by decide +kernel) rfl), (gW_in 6 (by decide +kernel) rfl)⟩
theorem lX9_124 : LkV RX9 124 mX9_step := ⟨(gW_in 494 (by decide +kernel) rfl), (gW_in 496 (by decide +kernel) rfl), (gW_in 7 (by decide +kernel) rfl)⟩
theorem lX9_128 : LkV RX9 128 mX9_pick := ⟨(gW_in 498 (by decide +kernel) rfl), (gW_in 500 (by decide +kernel) rfl), (gW_in 8 (by decide +kernel) rfl)⟩
theorem lX9_120 : LkV RX9 120 mX9_descend := ⟨(gW_in 502 (by decide +kernel) rfl), (gW_in 504 (by decide +kernel) rfl), (gW_in 9 (by decide +kernel) rfl)⟩
theorem lX10_145 : LkV RX10 145 mX0_comeUpWith := ⟨(gW_in 506 (by decide +kernel) rfl), (gW_in 432 (by decide +kernel) rfl), (gW_in 433 (by decide +kernel) rfl)⟩
theorem lL_74 : LkV RL 74 mX10_store := ⟨(gW_in 507 (by decide +kernel) rfl), (gW_in 508 (by decide +kernel) rfl), (gW_in 509 (by decide +kernel) rfl)⟩
theorem lX10_149 : LkV RX10 149 mX10_isKind := ⟨(gW_in 511 (by decide +kernel) rfl), (gW_in 513 (by decide +kernel) rfl), (gW_in 10 (by decide +kernel) rfl)⟩
theorem lX10_152 : LkV RX10 152 mX0_format := ⟨(gW_in 515 (by decide +kernel) rfl), (gW_in 516 (by decide +kernel) rfl), (gW_in 517 (by decide +kernel) rfl)⟩
theorem lX0_76 : LkS RX0 76 mJ7_fill_53178 ∨ LkN RX0 76 mJ7_fill_53178 := Or.inl ⟨(gW_in 519 (by decide +kernel) rfl), (gW_in 520 (by decide +kernel) rfl)⟩
theorem lX0_82_X2 : LkU RX0 82 RX2 mX1_layOut 1 := ⟨"OrderedDisc$Kind", ⟨"OrderedDisc$Kind", "layOut", "([I)V"⟩, (gW_in 522 (by decide +kernel) rfl), (gW_in 524 (by decide +kernel) rfl), (gW_in 525 (by decide +kernel) rfl), (gW_in 523 (by decide +kernel) rfl), by decide +kernel, (Or.inl rfl)⟩
theorem lX0_82_X4 : LkU RX0 82 RX4 mX1_layOut 1 := ⟨"OrderedDisc$Kind", ⟨"OrderedDisc$Kind", "layOut", "([I)V"⟩, (gW_in 522 (by decide +kernel) rfl), (gW_in 524 (by decide +kernel) rfl), (gW_in 526 (by decide +kernel) rfl), (gW_in 523 (by decide +kernel) rfl), by decide +kernel, (Or.inl rfl)⟩
theorem lX0_82_X8 : LkU RX0 82 RX8 mX8_layOut 1 := ⟨"OrderedDisc$Kind", ⟨"OrderedDisc$Kind", "layOut", "([I)V"⟩, (gW_in 522 (by decide +kernel) rfl), (gW_in 524 (by decide +kernel) rfl), (gW_in 527 (by decide +kernel) rfl), (gW_in 528 (by decide +kernel) rfl), by decide +kernel, (Or.inr (Or.inl ⟨cX1_layOut, 2, none, (gW_in 523 (by decide +kernel) rfl), (gW_in 533 (by decide +kernel) rfl)⟩))⟩
theorem lX8_47 : LkS RX8 47 mX8_seal ∨ LkN RX8 47 mX8_seal := Or.inl ⟨(gW_in 530 (by decide +kernel) rfl), (gW_in 531 (by decide +kernel) rfl)⟩
theorem lX10_156_X2 : LkU RX10 156 RX2 mX2_fences 0 := ⟨"OrderedDisc$Kind", ⟨"OrderedDisc$Kind", "fences", "()I"⟩, (gW_in 534 (by decide +kernel) rfl), (gW_in 536 (by decide +kernel) rfl), (gW_in 537 (by decide +kernel) rfl), (gW_in 538 (by decide +kernel) rfl), by decide +kernel, (Or.inr (Or.inr (nW_in 535 (by decide +kernel) rfl)))⟩
theorem lX10_156_X4 : LkU RX10 156 RX4 mX4_fences 0 := ⟨"OrderedDisc$Kind", ⟨"OrderedDisc$Kind", "fences", "()I"⟩, (gW_in 534 (by decide +kernel) rfl), (gW_in 536 (by decide +kernel) rfl), (gW_in 540 (by decide +kernel) rfl), (gW_in 541 (by decide +kernel) rfl), by decide +kernel, (Or.inr (Or.inr (nW_in 535 (by decide +kernel) rfl)))⟩
theorem lX10_156_X8 : LkU RX10 156 RX8 mX8_fences 0 := ⟨"OrderedDisc$Kind", ⟨"OrderedDisc$Kind", "fences", "()I"⟩, (gW_in 534 (by decide +kernel) rfl), (gW_in 536 (by decide +kernel) rfl), (gW_in 543 (by decide +kernel) rfl), (gW_in 544 (by decide +kernel) rfl), by decide +kernel, (Or.inr (Or.inr (nW_in 535 (by decide +kernel) rfl)))⟩
theorem lL_80 : LkV RL 80 mX10_put := ⟨(gW_in 546 (by decide +kernel) rfl), (gW_in 547 (by decide +kernel) rfl), (gW_in 548 (by decide +kernel) rfl)⟩
theorem lX10_160 : LkV RX10 160 mX10_hasStore := ⟨(gW_in 550 (by decide +kernel) rfl), (gW_in 552 (by decide +kernel) rfl), (gW_in 11 (by decide +kernel) rfl)⟩
theorem lX10_164 : LkS RX10 164 mX10_isKey ∨ LkN RX10 164 mX10_isKey := Or.inl ⟨(gW_in 554 (by decide +kernel) rfl), (gW_in 555 (by decide +kernel) rfl)⟩
theorem lX10_167 : LkV RX10 167 mX5_begin := ⟨(gW_in 557 (by decide +kernel) rfl), (gW_in 558 (by decide +kernel) rfl), (gW_in 559 (by decide +kernel) rfl)⟩
theorem lX10_170_X2 : LkU RX10 170 RX2 mX1_planPut 4 := ⟨"OrderedDisc$Kind", ⟨"OrderedDisc$Kind", "planPut", "([IIJLOrderedDisc$Plan;)V"⟩, (gW_in 561 (by decide +kernel) rfl), (gW_in 563 (by decide +kernel) rfl), (gW_in 564 (by decide +kernel) rfl), (gW_in 562 (by decide +kernel) rfl), by decide +kernel, (Or.inl rfl)⟩
theorem lX10_170_X4 : LkU RX10 170 RX4 mX1_planPut 4 := ⟨"OrderedDisc$Kind", ⟨"OrderedDisc$Kind", "planPut", "([IIJLOrderedDisc$Plan;)V"⟩, (gW_in 561 (by decide +kernel) rfl), (gW_in 563 (by decide +kernel) rfl), (gW_in 565 (by decide +kernel) rfl), (gW_in 562 (by decide +kernel) rfl), by decide +kernel, (Or.inl rfl)⟩
theorem lX10_170_X8 : LkU RX10 170 RX8 mX1_planPut 4 := ⟨"OrderedDisc$Kind", ⟨"OrderedDisc$Kind", "planPut", "([IIJLOrderedDisc$Plan;)V"⟩, (gW_in 561 (by decide +kernel) rfl), (gW_in 563 (by decide +kernel) rfl), (gW_in 566 (by decide +kernel) rfl), (gW_in 562 (by decide +kernel) rfl), by decide +kernel, (Or.inl rfl)⟩
theorem lX1_9_X2 : LkU RX1 9 RX2 mX2_planChange 6 := ⟨"OrderedDisc$Kind", ⟨"OrderedDisc$Kind", "planChange", "([IIJIJLOrderedDisc$Plan;)V"⟩, (gW_in 568 (by decide +kernel) rfl), (gW_in 570 (by decide +kernel) rfl), (gW_in 571 (by decide +kernel) rfl), (gW_in 572 (by decide +kernel) rfl), by decide +kernel, (Or.inr (Or.inr (nW_in 569 (by decide +kernel) rfl)))⟩
theorem lX1_9_X4 : LkU RX1 9 RX4 mX4_planChange 6 := ⟨"OrderedDisc$Kind", ⟨"OrderedDisc$Kind", "planChange", "([IIJIJLOrderedDisc$Plan;)V"⟩, (gW_in 568 (by decide +kernel) rfl), (gW_in 570 (by decide +kernel) rfl), (gW_in 594 (by decide +kernel) rfl), (gW_in 595 (by decide +kernel) rfl), by decide +kernel, (Or.inr (Or.inr (nW_in 569 (by decide +kernel) rfl)))⟩
theorem lX1_9_X8 : LkU RX1 9 RX8 mX8_planChange 6 := ⟨"OrderedDisc$Kind", ⟨"OrderedDisc$Kind", "planChange", "([IIJIJLOrderedDisc$Plan;)V"⟩, (gW_in 568 (by decide +kernel) rfl), (gW_in 570 (by decide +kernel) rfl), (gW_in 600 (by decide +kernel) rfl), (gW_in 601 (by decide +kernel) rfl), by decide +kernel, (Or.inr (Or.inr (nW_in 569 (by decide +kernel) rfl)))⟩
theorem lX2_11 : LkS RX2 11 mX10_high ∨ LkN RX2 11 mX10_high := Or.inr ⟨⟨"OrderedDisc", (nW_in 574 (by decide +kernel) rfl)⟩, (gW_in 575 (by decide +kernel) rfl)⟩
theorem lX2_15 : LkS RX2 15 mX10_low ∨ LkN RX2 15 mX10_low := Or.inr ⟨⟨"OrderedDisc", (nW_in 577 (by decide +kernel) rfl)⟩, (gW_in 578 (by decide +kernel) rfl)⟩
theorem lX2_18 : LkS RX2 18 mX2_sum ∨ LkN RX2 18 mX2_sum := Or.inl ⟨(gW_in 580 (by decide +kernel) rfl), (gW_in 581 (by decide +kernel) rfl)⟩
theorem lX2_22 : LkV RX2 22 mX5_planWrite := ⟨(gW_in 583 (by decide +kernel) rfl), (gW_in 584 (by decide +kernel) rfl), (gW_in 585 (by decide +kernel) rfl)⟩
theorem lX2_28 : LkV RX2 28 mX5_planFence := ⟨(gW_in 587 (by decide +kernel) rfl), (gW_in 588 (by decide +kernel) rfl), (gW_in 589 (by decide +kernel) rfl)⟩
theorem lX2_32 : LkS RX2 32 mX2_planUnmark ∨ LkN RX2 32 mX2_planUnmark := Or.inl ⟨(gW_in 591 (by decide +kernel) rfl), (gW_in 592 (by decide +kernel) rfl)⟩
theorem lX4_9 : LkS RX4 9 mX10_high ∨ LkN RX4 9 mX10_high := Or.inr ⟨⟨"OrderedDisc", (nW_in 597 (by decide +kernel) rfl)⟩, (gW_in 575 (by decide +kernel) rfl)⟩
theorem lX4_13 : LkS RX4 13 mX10_low ∨ LkN RX4 13 mX10_low := Or.inr ⟨⟨"OrderedDisc", (nW_in 598 (by decide +kernel) rfl)⟩, (gW_in 578 (by decide +kernel) rfl)⟩
theorem lX4_16 : LkV RX4 16 mX5_planWrite := ⟨(gW_in 599 (by decide +kernel) rfl), (gW_in 584 (by decide +kernel) rfl), (gW_in 585 (by decide +kernel) rfl)⟩
theorem lX8_9 : LkV RX8 9 mX8_version := ⟨(gW_in 603 (by decide +kernel) rfl), (gW_in 604 (by decide +kernel) rfl), (gW_in 605 (by decide +kernel) rfl)⟩
theorem lX8_43 : LkS RX8 43 mX8_isOdd ∨ LkN RX8 43 mX8_isOdd := Or.inl ⟨(gW_in 607 (by decide +kernel) rfl), (gW_in 608 (by decide +kernel) rfl)⟩
theorem lX8_19 : LkV RX8 19 mX8_homeOfKeys := ⟨(gW_in 611 (by decide +kernel) rfl), (gW_in 612 (by decide +kernel) rfl), (gW_in 613 (by decide +kernel) rfl)⟩
theorem lX8_15 : LkS RX8 15 mX8_homeWith ∨ LkN RX8 15 mX8_homeWith := Or.inl ⟨(gW_in 615 (by decide +kernel) rfl), (gW_in 616 (by decide +kernel) rfl)⟩
theorem lX8_26 : LkS RX8 26 mX10_high ∨ LkN RX8 26 mX10_high := Or.inr ⟨⟨"OrderedDisc", (nW_in 623 (by decide +kernel) rfl)⟩, (gW_in 575 (by decide +kernel) rfl)⟩
theorem lX8_30 : LkS RX8 30 mX10_low ∨ LkN RX8 30 mX10_low := Or.inr ⟨⟨"OrderedDisc", (nW_in 624 (by decide +kernel) rfl)⟩, (gW_in 578 (by decide +kernel) rfl)⟩
theorem lX8_33 : LkV RX8 33 mX5_planWrite := ⟨(gW_in 625 (by decide +kernel) rfl), (gW_in 584 (by decide +kernel) rfl), (gW_in 585 (by decide +kernel) rfl)⟩
theorem lX8_39 : LkV RX8 39 mX5_planFence := ⟨(gW_in 626 (by decide +kernel) rfl), (gW_in 588 (by decide +kernel) rfl), (gW_in 589 (by decide +kernel) rfl)⟩
theorem lX10_174 : LkV RX10 174 mX10_carryOut := ⟨(gW_in 627 (by decide +kernel) rfl), (gW_in 629 (by decide +kernel) rfl), (gW_in 12 (by decide +kernel) rfl)⟩
theorem lX10_248 : LkV RX10 248 mX0_enqueuePlanned := ⟨(gW_in 631 (by decide +kernel) rfl), (gW_in 632 (by decide +kernel) rfl), (gW_in 633 (by decide +kernel) rfl)⟩
theorem lX0_57 : LkV RX0 57 mX5_isFence := ⟨(gW_in 635 (by decide +kernel) rfl), (gW_in 636 (by decide +kernel) rfl), (gW_in 637 (by decide +kernel) rfl)⟩
theorem lX0_62 : LkV RX0 62 mX0_enqueueFence := ⟨(gW_in 639 (by decide +kernel) rfl), (gW_in 420 (by decide +kernel) rfl), (gW_in 421 (by decide +kernel) rfl)⟩
theorem lX0_68 : LkV RX0 68 mX0_enqueueWrite := ⟨(gW_in 640 (by decide +kernel) rfl), (gW_in 411 (by decide +kernel) rfl), (gW_in 412 (by decide +kernel) rfl)⟩
theorem lL_85 : LkV RL 85 mX10_move := ⟨(gW_in 641 (by decide +kernel) rfl), (gW_in 642 (by decide +kernel) rfl), (gW_in 643 (by decide +kernel) rfl)⟩
theorem lX10_177 : LkS RX10 177 mX10_areTwoKeys ∨ LkN RX10 177 mX10_areTwoKeys := Or.inl ⟨(gW_in 645 (by decide +kernel) rfl), (gW_in 646 (by decide +kernel) rfl)⟩
theorem lX10_180_X2 : LkU RX10 180 RX2 mX1_planMove 4 := ⟨"OrderedDisc$Kind", ⟨"OrderedDisc$Kind", "planMove", "([IIILOrderedDisc$Plan;)V"⟩, (gW_in 648 (by decide +kernel) rfl), (gW_in 650 (by decide +kernel) rfl), (gW_in 651 (by decide +kernel) rfl), (gW_in 649 (by decide +kernel) rfl), by decide +kernel, (Or.inl rfl)⟩
theorem lX10_180_X4 : LkU RX10 180 RX4 mX1_planMove 4 := ⟨"OrderedDisc$Kind", ⟨"OrderedDisc$Kind", "planMove", "([IIILOrderedDisc$Plan;)V"⟩, (gW_in 648 (by decide +kernel) rfl), (gW_in 650 (by decide +kernel) rfl), (gW_in 652 (by decide +kernel) rfl), (gW_in 649 (by decide +kernel) rfl), by decide +kernel, (Or.inl rfl)⟩
theorem lX10_180_X8 : LkU RX10 180 RX8 mX1_planMove 4 := ⟨"OrderedDisc$Kind", ⟨"OrderedDisc$Kind", "planMove", "([IIILOrderedDisc$Plan;)V"⟩, (gW_in 648 (by decide +kernel) rfl), (gW_in 650 (by decide +kernel) rfl), (gW_in 653 (by decide +kernel) rfl), (gW_in 649 (by decide +kernel) rfl), by decide +kernel, (Or.inl rfl)⟩
theorem lX1_15_X2 : LkU RX1 15 RX2 mX1_valueOf 2 := ⟨"OrderedDisc$Kind", ⟨"OrderedDisc$Kind", "valueOf", "([II)J"⟩, (gW_in 655 (by decide +kernel) rfl), (gW_in 657 (by decide +kernel) rfl), (gW_in 658 (by decide +kernel) rfl), (gW_in 656 (by decide +kernel) rfl), by decide +kernel, (Or.inl rfl)⟩
theorem lX1_15_X4 : LkU RX1 15 RX4 mX1_valueOf 2 := ⟨"OrderedDisc$Kind", ⟨"OrderedDisc$Kind", "valueOf", "([II)J"⟩, (gW_in 655 (by decide +kernel) rfl), (gW_in 657 (by decide +kernel) rfl), (gW_in 659 (by decide +kernel) rfl), (gW_in 656 (by decide +kernel) rfl), by decide +kernel, (Or.inl rfl)⟩
theorem lX1_15_X8 : LkU RX1 15 RX8 mX1_valueOf 2 := ⟨"OrderedDisc$Kind", ⟨"OrderedDisc$Kind", "valueOf", "([II)J"⟩, (gW_in 655 (by decide +kernel) rfl), (gW_in 657 (by decide +kernel) rfl), (gW_in 660 (by decide +kernel) rfl), (gW_in 656 (by decide +kernel) rfl), by decide +kernel, (Or.inl rfl)⟩
theorem lX1_19_X2 : LkU RX1 19 RX2 mX2_homeOfKeys 1 := ⟨"OrderedDisc$Kind", ⟨"OrderedDisc$Kind", "homeOfKeys", "([I)I"⟩, (gW_in 662 (by decide +kernel) rfl), (gW_in 664 (by decide +kernel) rfl), (gW_in 665 (by decide +kernel) rfl), (gW_in 666 (by decide +kernel) rfl), by decide +kernel, (Or.inr (Or.inr (nW_in 663 (by decide +kernel) rfl)))⟩
theorem lX1_19_X4 : LkU RX1 19 RX4 mX4_homeOfKeys 1 := ⟨"OrderedDisc$Kind", ⟨"OrderedDisc$Kind", "homeOfKeys", "([I)I"⟩, (gW_in 662 (by decide +kernel) rfl), (gW_in 664 (by decide +kernel) rfl), (gW_in 668 (by decide +kernel) rfl), (gW_in 669 (by decide +kernel) rfl), by decide +kernel, (Or.inr (Or.inr (nW_in 663 (by decide +kernel) rfl)))⟩
theorem lX1_19_X8 : LkU RX1 19 RX8 mX8_homeOfKeys 1 := ⟨"OrderedDisc$Kind", ⟨"OrderedDisc$Kind", "homeOfKeys", "([I)I"⟩, (gW_in 662 (by decide +kernel) rfl), (gW_in 664 (by decide +kernel) rfl), (gW_in 671 (by decide +kernel) rfl), (gW_in 612 (by decide +kernel) rfl), by decide +kernel, (Or.inr (Or.inr (nW_in 663 (by decide +kernel) rfl)))⟩
theorem lX1_23 : LkS RX1 23 mX1_valueAt ∨ LkN RX1 23 mX1_valueAt := Or.inl ⟨(gW_in 672 (by decide +kernel) rfl), (gW_in 620 (by decide +kernel) rfl)⟩
theorem lL_93 : LkV RL 93 mX10_rise := ⟨(gW_in 673 (by decide +kernel) rfl), (gW_in 674 (by decide +kernel) rfl), (gW_in 675 (by decide +kernel) rfl)⟩
theorem lX10_195_X2 : LkU RX10 195 RX2 mX2_planRising 2 := ⟨"OrderedDisc$Kind", ⟨"OrderedDisc$Kind", "planRising", "([ILOrderedDisc$Plan;)V"⟩, (gW_in 677 (by decide +kernel) rfl), (gW_in 679 (by decide +kernel) rfl), (gW_in 680 (by decide +kernel) rfl), (gW_in 681 (by decide +kernel) rfl), by decide +kernel, (Or.inr (Or.inl ⟨cX1_planRising, 3, none, (gW_in 678 (by decide +kernel) rfl), (gW_in 693 (by decide +kernel) rfl)⟩))⟩
theorem lX10_195_X4 : LkU RX10 195 RX4 mX1_planRising 2 := ⟨"OrderedDisc$Kind", ⟨"OrderedDisc$Kind", "planRising", "([ILOrderedDisc$Plan;)V"⟩, (gW_in 677 (by decide +kernel) rfl), (gW_in 679 (by decide +kernel) rfl), (gW_in 691 (by decide +kernel) rfl), (gW_in 678 (by decide +kernel) rfl), by decide +kernel, (Or.inl rfl)⟩
theorem lX10_195_X8 : LkU RX10 195 RX8 mX1_planRising 2 := ⟨"OrderedDisc$Kind", ⟨"OrderedDisc$Kind", "planRising", "([ILOrderedDisc$Plan;)V"⟩, (gW_in 677 (by decide +kernel) rfl), (gW_in 679 (by decide +kernel) rfl), (gW_in 692 (by decide +kernel) rfl), (gW_in 678 (by decide +kernel) rfl), by decide +kernel, (Or.inl rfl)⟩
theorem lX2_36 : LkS RX2 36 mX2_isLogWhole ∨ LkN RX2 36 mX2_isLogWhole := Or.inl ⟨(gW_in 683 (by decide +kernel) rfl), (gW_in 684 (by decide +kernel) rfl)⟩
theorem lX2_43 : LkS RX2 43 mX10_isKey ∨ LkN RX2 43 mX10_isKey := Or.inr ⟨⟨"OrderedDisc", (nW_in 686 (by decide +kernel) rfl)⟩, (gW_in 555 (by decide +kernel) rfl)⟩
theorem lX2_40 : LkV RX2 40 mX2_allIsWell := ⟨(gW_in 687 (by decide +kernel) rfl), (gW_in 688 (by decide +kernel) rfl), (gW_in 689 (by decide +kernel) rfl)⟩
theorem lL_97 : LkV RL 97 mX10_isSound := ⟨(gW_in 694 (by decide +kernel) rfl), (gW_in 695 (by decide +kernel) rfl), (gW_in 696 (by decide +kernel) rfl)⟩
theorem lX10_199_X2 : LkU RX10 199 RX2 mX2_allIsWell 1 := ⟨"OrderedDisc$Kind", ⟨"OrderedDisc$Kind", "allIsWell", "([I)Z"⟩, (gW_in 698 (by decide +kernel) rfl), (gW_in 700 (by decide +kernel) rfl), (gW_in 701 (by decide +kernel) rfl), (gW_in 688 (by decide +kernel) rfl), by decide +kernel, (Or.inr (Or.inr (nW_in 699 (by decide +kernel) rfl)))⟩
theorem lX10_199_X4 : LkU RX10 199 RX4 mX4_allIsWell 1 := ⟨"OrderedDisc$Kind", ⟨"OrderedDisc$Kind", "allIsWell", "([I)Z"⟩, (gW_in 698 (by decide +kernel) rfl), (gW_in 700 (by decide +kernel) rfl), (gW_in 702 (by decide +kernel) rfl), (gW_in 703 (by decide +kernel) rfl), by decide +kernel, (Or.inr (Or.inr (nW_in 699 (by decide +kernel) rfl)))⟩
theorem lX10_199_X8 : LkU RX10 199 RX8 mX8_allIsWell 1 := ⟨"OrderedDisc$Kind", ⟨"OrderedDisc$Kind", "allIsWell", "([I)Z"⟩, (gW_in 698 (by decide +kernel) rfl), (gW_in 700 (by decide +kernel) rfl), (gW_in 705 (by decide +kernel) rfl), (gW_in 706 (by decide +kernel) rfl), by decide +kernel, (Or.inr (Or.inr (nW_in 699 (by decide +kernel) rfl)))⟩
theorem lL_102 : LkV RL 102 mX10_addPut := ⟨(gW_in 708 (by decide +kernel) rfl), (gW_in 709 (by decide +kernel) rfl), (gW_in 710 (by decide +kernel) rfl)⟩
theorem lX10_203 : LkV RX10 203 mX10_addAct := ⟨(gW_in 712 (by decide +kernel) rfl), (gW_in 714 (by decide +kernel) rfl), (gW_in 13 (by decide +kernel) rfl)⟩
theorem lX10_252 : LkV RX10 252 mX7_append := ⟨(gW_in 716 (by decide +kernel) rfl), (gW_in 717 (by decide +kernel) rfl), (gW_in 718 (by decide +kernel) rfl)⟩
theorem lL_106 : LkV RL 106 mX10_addMove := ⟨(gW_in 720 (by decide +kernel) rfl), (gW_in 721 (by decide +kernel) rfl), (gW_in 722 (by decide +kernel) rfl)⟩
theorem lL_110 : LkV RL 110 mX10_addSure := ⟨(gW_in 724 (by decide +kernel) rfl), (gW_in 725 (by decide +kernel) rfl), (gW_in 726 (by decide +kernel) rfl)⟩
theorem lL_114 : LkV RL 114 mX10_clear := ⟨(gW_in 728 (by decide +kernel) rfl), (gW_in 729 (by decide +kernel) rfl), (gW_in 730 (by decide +kernel) rfl)⟩
theorem lL_118 : LkV RL 118 mX10_through := ⟨(gW_in 732 (by decide +kernel) rfl), (gW_in 733 (by decide +kernel) rfl), (gW_in 734 (by decide +kernel) rfl)⟩
theorem lX10_210 : LkV RX10 210 mX3_walk := ⟨(gW_in 736 (by decide +kernel) rfl), (gW_in 737 (by decide +kernel) rfl), (gW_in 738 (by decide +kernel) rfl)⟩
theorem lX3_78 : LkV RX3 78 mX6_begin := ⟨(gW_in 740 (by decide +kernel) rfl), (gW_in 741 (by decide +kernel) rfl), (gW_in 742 (by decide +kernel) rfl)⟩
theorem lX6_22 : LkS RX6 22 mJ7_fill_53178 ∨ LkN RX6 22 mJ7_fill_53178 := Or.inl ⟨(gW_in 744 (by decide +kernel) rfl), (gW_in 520 (by decide +kernel) rfl)⟩
theorem lX3_81 : LkV RX3 81 mX7_foresee := ⟨(gW_in 745 (by decide +kernel) rfl), (gW_in 746 (by decide +kernel) rfl), (gW_in 747 (by decide +kernel) rfl)⟩
theorem lX7_29 : LkS RX7 29 mJ7_fill_53178 ∨ LkN RX7 29 mJ7_fill_53178 := Or.inl ⟨(gW_in 749 (by decide +kernel) rfl), (gW_in 520 (by decide +kernel) rfl)⟩
theorem lX7_41 : LkS RX7 41 mX10_high ∨ LkN RX7 41 mX10_high := Or.inr ⟨⟨"OrderedDisc", (nW_in 753 (by decide +kernel) rfl)⟩, (gW_in 575 (by decide +kernel) rfl)⟩
theorem lX7_45 : LkS RX7 45 mX10_low ∨ LkN RX7 45 mX10_low := Or.inr ⟨⟨"OrderedDisc", (nW_in 754 (by decide +kernel) rfl)⟩, (gW_in 578 (by decide +kernel) rfl)⟩
theorem lX3_87 : LkV RX3 87 mX0_format := ⟨(gW_in 755 (by decide +kernel) rfl), (gW_in 516 (by decide +kernel) rfl), (gW_in 517 (by decide +kernel) rfl)⟩
theorem lX3_91 : LkV RX3 91 mX3_lookAround := ⟨(gW_in 756 (by decide +kernel) rfl), (gW_in 758 (by decide +kernel) rfl), (gW_in 14 (by decide +kernel) rfl)⟩
theorem lX3_154 : LkV RX3 154 mX9_refresh := ⟨(gW_in 760 (by decide +kernel) rfl), (gW_in 444 (by decide +kernel) rfl), (gW_in 445 (by decide +kernel) rfl)⟩
theorem lX3_161 : LkV RX3 161 mX9_seek := ⟨(gW_in 761 (by decide +kernel) rfl), (gW_in 487 (by decide +kernel) rfl), (gW_in 488 (by decide +kernel) rfl)⟩
theorem lX3_167 : LkV RX3 167 mX3_riseFrom := ⟨(gW_in 762 (by decide +kernel) rfl), (gW_in 764 (by decide +kernel) rfl), (gW_in 15 (by decide +kernel) rfl)⟩
theorem lX3_114 : LkV RX3 114 mX5_begin := ⟨(gW_in 766 (by decide +kernel) rfl), (gW_in 558 (by decide +kernel) rfl), (gW_in 559 (by decide +kernel) rfl)⟩
theorem lX3_183_X2 : LkU RX3 183 RX2 mX2_planRising 2 := ⟨"OrderedDisc$Kind", ⟨"OrderedDisc$Kind", "planRising", "([ILOrderedDisc$Plan;)V"⟩, (gW_in 767 (by decide +kernel) rfl), (gW_in 679 (by decide +kernel) rfl), (gW_in 680 (by decide +kernel) rfl), (gW_in 681 (by decide +kernel) rfl), by decide +kernel, (Or.inr (Or.inl ⟨cX1_planRising, 3, none, (gW_in 678 (by decide +kernel) rfl), (gW_in 693 (by decide +kernel) rfl)⟩))⟩
theorem lX3_183_X4 : LkU RX3 183 RX4 mX1_planRising 2 := ⟨"OrderedDisc$Kind", ⟨"OrderedDisc$Kind", "planRising", "([ILOrderedDisc$Plan;)V"⟩, (gW_in 767 (by decide +kernel) rfl), (gW_in 679 (by decide +kernel) rfl), (gW_in 691 (by decide +kernel) rfl), (gW_in 678 (by decide +kernel) rfl), by decide +kernel, (Or.inl rfl)⟩
theorem lX3_183_X8 : LkU RX3 183 RX8 mX1_planRising 2 := ⟨"OrderedDisc$Kind", ⟨"OrderedDisc$Kind", "planRising", "([ILOrderedDisc$Plan;)V"⟩, (gW_in 767 (by decide +kernel) rfl), (gW_in 679 (by decide +kernel) rfl), (gW_in 692 (by decide +kernel) rfl), (gW_in 678 (by decide +kernel) rfl), by decide +kernel, (Or.inl rfl)⟩
theorem lX3_193 : LkV RX3 193 mX5_writeInto := ⟨(gW_in 769 (by decide +kernel) rfl), (gW_in 770 (by decide +kernel) rfl), (gW_in 771 (by decide +kernel) rfl)⟩
theorem lX5_28 : LkV RX5 28 mX5_isFence := ⟨(gW_in 773 (by decide +kernel) rfl), (gW_in 636 (by decide +kernel) rfl), (gW_in 637 (by decide +kernel) rfl)⟩
theorem lX3_196_X2 : LkU RX3 196 RX2 mX2_homeOfKeys 1 := ⟨"OrderedDisc$Kind", ⟨"OrderedDisc$Kind", "homeOfKeys", "([I)I"⟩, (gW_in 774 (by decide +kernel) rfl), (gW_in 664 (by decide +kernel) rfl), (gW_in 665 (by decide +kernel) rfl), (gW_in 666 (by decide +kernel) rfl), by decide +kernel, (Or.inr (Or.inr (nW_in 663 (by decide +kernel) rfl)))⟩
theorem lX3_196_X4 : LkU RX3 196 RX4 mX4_homeOfKeys 1 := ⟨"OrderedDisc$Kind", ⟨"OrderedDisc$Kind", "homeOfKeys", "([I)I"⟩, (gW_in 774 (by decide +kernel) rfl), (gW_in 664 (by decide +kernel) rfl), (gW_in 668 (by decide +kernel) rfl), (gW_in 669 (by decide +kernel) rfl), by decide +kernel, (Or.inr (Or.inr (nW_in 663 (by decide +kernel) rfl)))⟩
theorem lX3_196_X8 : LkU RX3 196 RX8 mX8_homeOfKeys 1 := ⟨"OrderedDisc$Kind", ⟨"OrderedDisc$Kind", "homeOfKeys", "([I)I"⟩, (gW_in 774 (by decide +kernel) rfl), (gW_in 664 (by decide +kernel) rfl), (gW_in 671 (by decide +kernel) rfl), (gW_in 612 (by decide +kernel) rfl), by decide +kernel, (Or.inr (Or.inr (nW_in 663 (by decide +kernel) rfl)))⟩
theorem lX3_171 : LkV RX3 171 mX3_isRight := ⟨(gW_in 775 (by decide +kernel) rfl), (gW_in 777 (by decide +kernel) rfl), (gW_in 16 (by decide +kernel) rfl)⟩
theorem lX3_174 : LkV RX3 174 mX3_keepBad := ⟨(gW_in 779 (by decide +kernel) rfl), (gW_in 781 (by decide +kernel) rfl), (gW_in 17 (by decide +kernel) rfl)⟩
theorem lX3_101 : LkV RX3 101 mX3_makeSure := ⟨(gW_in 784 (by decide +kernel) rfl), (gW_in 786 (by decide +kernel) rfl), (gW_in 18 (by decide +kernel) rfl)⟩
theorem lX3_108 : LkV RX3 108 mX0_settle := ⟨(gW_in 788 (by decide +kernel) rfl), (gW_in 428 (by decide +kernel) rfl), (gW_in 429 (by decide +kernel) rfl)⟩
theorem lX3_104 : LkV RX3 104 mX3_change := ⟨(gW_in 789 (by decide +kernel) rfl), (gW_in 791 (by decide +kernel) rfl), (gW_in 19 (by decide +kernel) rfl)⟩
theorem lX3_127_X2 : LkU RX3 127 RX2 mX1_planPut 4 := ⟨"OrderedDisc$Kind", ⟨"OrderedDisc$Kind", "planPut", "([IIJLOrderedDisc$Plan;)V"⟩, (gW_in 793 (by decide +kernel) rfl), (gW_in 563 (by decide +kernel) rfl), (gW_in 564 (by decide +kernel) rfl), (gW_in 562 (by decide +kernel) rfl), by decide +kernel, (Or.inl rfl)⟩
theorem lX3_127_X4 : LkU RX3 127 RX4 mX1_planPut 4 := ⟨"OrderedDisc$Kind", ⟨"OrderedDisc$Kind", "planPut", "([IIJLOrderedDisc$Plan;)V"⟩, (gW_in 793 (by decide +kernel) rfl), (gW_in 563 (by decide +kernel) rfl), (gW_in 565 (by decide +kernel) rfl), (gW_in 562 (by decide +kernel) rfl), by decide +kernel, (Or.inl rfl)⟩
theorem lX3_127_X8 : LkU RX3 127 RX8 mX1_planPut 4 := ⟨"OrderedDisc$Kind", ⟨"OrderedDisc$Kind", "planPut", "([IIJLOrderedDisc$Plan;)V"⟩, (gW_in 793 (by decide +kernel) rfl), (gW_in 563 (by decide +kernel) rfl), (gW_in 566 (by decide +kernel) rfl), (gW_in 562 (by decide +kernel) rfl), by decide +kernel, (Or.inl rfl)⟩
theorem lX3_136_X2 : LkU RX3 136 RX2 mX1_planMove 4 := ⟨"OrderedDisc$Kind", ⟨"OrderedDisc$Kind", "planMove", "([IIILOrderedDisc$Plan;)V"⟩, (gW_in 794 (by decide +kernel) rfl), (gW_in 650 (by decide +kernel) rfl), (gW_in 651 (by decide +kernel) rfl), (gW_in 649 (by decide +kernel) rfl), by decide +kernel, (Or.inl rfl)⟩
theorem lX3_136_X4 : LkU RX3 136 RX4 mX1_planMove 4 := ⟨"OrderedDisc$Kind", ⟨"OrderedDisc$Kind", "planMove", "([IIILOrderedDisc$Plan;)V"⟩, (gW_in 794 (by decide +kernel) rfl), (gW_in 650 (by decide +kernel) rfl), (gW_in 652 (by decide +kernel) rfl), (gW_in 649 (by decide +kernel) rfl), by decide +kernel, (Or.inl rfl)⟩
theorem lX3_136_X8 : LkU RX3 136 RX8 mX1_planMove 4 := ⟨"OrderedDisc$Kind", ⟨"OrderedDisc$Kind", "planMove", "([IIILOrderedDisc$Plan;)V"⟩, (gW_in 794 (by decide +kernel) rfl), (gW_in 650 (by decide +kernel) rfl), (gW_in 653 (by decide +kernel) rfl), (gW_in 649 (by decide +kernel) rfl), by decide +kernel, (Or.inl rfl)⟩
theorem lX3_143 : LkV RX3 143 mX0_hasRoom := ⟨(gW_in 795 (by decide +kernel) rfl), (gW_in 407 (by decide +kernel) rfl), (gW_in 408 (by decide +kernel) rfl)⟩
theorem lX3_147 : LkV RX3 147 mX0_enqueuePlanned := ⟨(gW_in 796 (by decide +kernel) rfl), (gW_in 632 (by decide +kernel) rfl), (gW_in 633 (by decide +kernel) rfl)⟩
theorem lX3_151 : LkV RX3 151 mX5_isFence := ⟨(gW_in 797 (by decide +kernel) rfl), (gW_in 636 (by decide +kernel) rfl), (gW_in 637 (by decide +kernel) rfl)⟩
theorem lX10_214 : LkV RX10 214 mX3_keepReport := ⟨(gW_in 798 (by decide +kernel) rfl), (gW_in 799 (by decide +kernel) rfl), (gW_in 800 (by decide +kernel) rfl)⟩
theorem lL_122 : LkV RL 122 mX10_gone := ⟨(gW_in 802 (by decide +kernel) rfl), (gW_in 803 (by decide +kernel) rfl), (gW_in 804 (by decide +kernel) rfl)⟩
theorem lL_126 : LkV RL 126 mX10_bad := ⟨(gW_in 806 (by decide +kernel) rfl), (gW_in 807 (by decide +kernel) rfl), (gW_in 808 (by decide +kernel) rfl)⟩
theorem lL_130 : LkV RL 130 mX10_spare := ⟨(gW_in 810 (by decide +kernel) rfl), (gW_in 811 (by decide +kernel) rfl), (gW_in 812 (by decide +kernel) rfl)⟩
theorem lL_135 : LkV RL 135 mX10_least := ⟨(gW_in 814 (by decide +kernel) rfl), (gW_in 815 (by decide +kernel) rfl), (gW_in 816 (by decide +kernel) rfl)⟩
theorem lL_139 : LkV RL 139 mX10_digest := ⟨(gW_in 818 (by decide +kernel) rfl), (gW_in 819 (by decide +kernel) rfl), (gW_in 820 (by decide +kernel) rfl)⟩
theorem lL_143 : LkV RL 143 mX10_status := ⟨(gW_in 822 (by decide +kernel) rfl), (gW_in 823 (by decide +kernel) rfl), (gW_in 824 (by decide +kernel) rfl)⟩
theorem lX10_238_X2 : LkU RX10 238 RX2 mX1_version 1 := ⟨"OrderedDisc$Kind", ⟨"OrderedDisc$Kind", "version", "([I)I"⟩, (gW_in 826 (by decide +kernel) rfl), (gW_in 828 (by decide +kernel) rfl), (gW_in 829 (by decide +kernel) rfl), (gW_in 827 (by decide +kernel) rfl), by decide +kernel, (Or.inl rfl)⟩
theorem lX10_238_X4 : LkU RX10 238 RX4 mX1_version 1 := ⟨"OrderedDisc$Kind", ⟨"OrderedDisc$Kind", "version", "([I)I"⟩, (gW_in 826 (by decide +kernel) rfl), (gW_in 828 (by decide +kernel) rfl), (gW_in 830 (by decide +kernel) rfl), (gW_in 827 (by decide +kernel) rfl), by decide +kernel, (Or.inl rfl)⟩
theorem lX10_238_X8 : LkU RX10 238 RX8 mX8_version 1 := ⟨"OrderedDisc$Kind", ⟨"OrderedDisc$Kind", "version", "([I)I"⟩, (gW_in 826 (by decide +kernel) rfl), (gW_in 828 (by decide +kernel) rfl), (gW_in 831 (by decide +kernel) rfl), (gW_in 604 (by decide +kernel) rfl), by decide +kernel, (Or.inr (Or.inl ⟨cX1_version, 2, (some .int), (gW_in 827 (by decide +kernel) rfl), (gW_in 832 (by decide +kernel) rfl)⟩))⟩
theorem lL_7 : LkV RL 7 mX10_read := ⟨(gW_in 837 (by decide +kernel) rfl), (gW_in 838 (by decide +kernel) rfl), (gW_in 839 (by decide +kernel) rfl)⟩
theorem lX10_100 : LkS RX10 100 mX10_isPart ∨ LkN RX10 100 mX10_isPart := Or.inl ⟨(gW_in 841 (by decide +kernel) rfl), (gW_in 842 (by decide +kernel) rfl)⟩
theorem lL_15 : LkV RL 15 mX10_plate := ⟨(gW_in 914 (by decide +kernel) rfl), (gW_in 915 (by decide +kernel) rfl), (gW_in 916 (by decide +kernel) rfl)⟩
theorem lL_18 : LkV RL 18 mX10_state := ⟨(gW_in 921 (by decide +kernel) rfl), (gW_in 922 (by decide +kernel) rfl), (gW_in 923 (by decide +kernel) rfl)⟩
theorem lL_22 : LkV RL 22 mX10_get := ⟨(gW_in 930 (by decide +kernel) rfl), (gW_in 931 (by decide +kernel) rfl), (gW_in 932 (by decide +kernel) rfl)⟩
theorem lX10_191_X2 : LkU RX10 191 RX2 mX1_valueOf 2 := ⟨"OrderedDisc$Kind", ⟨"OrderedDisc$Kind", "valueOf", "([II)J"⟩, (gW_in 951 (by decide +kernel) rfl), (gW_in 657 (by decide +kernel) rfl), (gW_in 658 (by decide +kernel) rfl), (gW_in 656 (by decide +kernel) rfl), by decide +kernel, (Or.inl rfl)⟩
theorem lX10_191_X4 : LkU RX10 191 RX4 mX1_valueOf 2 := ⟨"OrderedDisc$Kind", ⟨"OrderedDisc$Kind", "valueOf", "([II)J"⟩, (gW_in 951 (by decide +kernel) rfl), (gW_in 657 (by decide +kernel) rfl), (gW_in 659 (by decide +kernel) rfl), (gW_in 656 (by decide +kernel) rfl), by decide +kernel, (Or.inl rfl)⟩
theorem lX10_191_X8 : LkU RX10 191 RX8 mX1_valueOf 2 := ⟨"OrderedDisc$Kind", ⟨"OrderedDisc$Kind", "valueOf", "([II)J"⟩, (gW_in 951 (by decide +kernel) rfl), (gW_in 657 (by decide +kernel) rfl), (gW_in 660 (by decide +kernel) rfl), (gW_in 656 (by decide +kernel) rfl), by decide +kernel, (Or.inl rfl)⟩
theorem lL_51 : LkV RL 51 mX11_thrown := ⟨(gW_in 1075 (by decide +kernel) rfl), (gW_in 1076 (by decide +kernel) rfl), (gW_in 1077 (by decide +kernel) rfl)⟩
theorem lL_35 : LkV RL 35 mX11_write := ⟨(gW_in 1079 (by decide +kernel) rfl), (gW_in 1080 (by decide +kernel) rfl), (gW_in 1081 (by decide +kernel) rfl)⟩
theorem lX11_110 : LkS RX11 110 mX11_in ∨ LkN RX11 110 mX11_in := Or.inl ⟨(gW_in 1083 (by decide +kernel) rfl), (gW_in 1084 (by decide +kernel) rfl)⟩
theorem lX11_114 : LkV RX11 114 mX11_refuse := ⟨(gW_in 1086 (by decide +kernel) rfl), (gW_in 1088 (by decide +kernel) rfl), (gW_in 21 (by decide +kernel) rfl)⟩
theorem lX11_118 : LkV RX11 118 mX11_push := ⟨(gW_in 1090 (by decide +kernel) rfl), (gW_in 1092 (by decide +kernel) rfl), (gW_in 22 (by decide +kernel) rfl)⟩
theorem lL_40 : LkV RL 40 mX11_fence := ⟨(gW_in 1094 (by decide +kernel) rfl), (gW_in 1095 (by decide +kernel) rfl), (gW_in 1096 (by decide +kernel) rfl)⟩
theorem lL_44 : LkV RL 44 mX11_flush := ⟨(gW_in 1098 (by decide +kernel) rfl), (gW_in 1099 (by decide +kernel) rfl), (gW_in 1100 (by decide +kernel) rfl)⟩
theorem lX11_122 : LkV RX11 122 mX11_flushOf := ⟨(gW_in 1102 (by decide +kernel) rfl), (gW_in 1104 (by decide +kernel) rfl), (gW_in 23 (by decide +kernel) rfl)⟩
theorem lL_50 : LkV RL 50 mX11_read := ⟨(gW_in 1106 (by decide +kernel) rfl), (gW_in 1107 (by decide +kernel) rfl), (gW_in 1108 (by decide +kernel) rfl)⟩
theorem lX11_125 : LkS RX11 125 mX11_isPart ∨ LkN RX11 125 mX11_isPart := Or.inl ⟨(gW_in 1110 (by decide +kernel) rfl), (gW_in 1111 (by decide +kernel) rfl)⟩
theorem lX11_129 : LkV RX11 129 mX11_readOf := ⟨(gW_in 1113 (by decide +kernel) rfl), (gW_in 1115 (by decide +kernel) rfl), (gW_in 24 (by decide +kernel) rfl)⟩
theorem lL_56 : LkV RL 56 mX11_plate := ⟨(gW_in 1117 (by decide +kernel) rfl), (gW_in 1118 (by decide +kernel) rfl), (gW_in 1119 (by decide +kernel) rfl)⟩
theorem lL_60 : LkV RL 60 mX11_entry := ⟨(gW_in 1121 (by decide +kernel) rfl), (gW_in 1122 (by decide +kernel) rfl), (gW_in 1123 (by decide +kernel) rfl)⟩
theorem lX11_133 : LkV RX11 133 mX11_writeEpoch := ⟨(gW_in 1125 (by decide +kernel) rfl), (gW_in 1127 (by decide +kernel) rfl), (gW_in 25 (by decide +kernel) rfl)⟩
theorem lL_64 : LkV RL 64 mX11_states := ⟨(gW_in 1129 (by decide +kernel) rfl), (gW_in 1130 (by decide +kernel) rfl), (gW_in 1131 (by decide +kernel) rfl)⟩
theorem lX11_160 : LkV RX11 160 mX11_findStates := ⟨(gW_in 1133 (by decide +kernel) rfl), (gW_in 1135 (by decide +kernel) rfl), (gW_in 26 (by decide +kernel) rfl)⟩
theorem lX11_151 : LkV RX11 151 mX11_epochOf := ⟨(gW_in 1137 (by decide +kernel) rfl), (gW_in 1139 (by decide +kernel) rfl), (gW_in 27 (by decide +kernel) rfl)⟩
theorem lX11_154 : LkV RX11 154 mX11_onlyBase := ⟨(gW_in 1141 (by decide +kernel) rfl), (gW_in 1143 (by decide +kernel) rfl), (gW_in 28 (by decide +kernel) rfl)⟩
theorem lX11_147 : LkV RX11 147 mX11_mayBe := ⟨(gW_in 1145 (by decide +kernel) rfl), (gW_in 1147 (by decide +kernel) rfl), (gW_in 29 (by decide +kernel) rfl)⟩
theorem lX11_157 : LkV RX11 157 mX11_keepAll := ⟨(gW_in 1149 (by decide +kernel) rfl), (gW_in 1151 (by decide +kernel) rfl), (gW_in 30 (by decide +kernel) rfl)⟩
theorem lX11_143 : LkV RX11 143 mX11_keepState := ⟨(gW_in 1153 (by decide +kernel) rfl), (gW_in 1155 (by decide +kernel) rfl), (gW_in 31 (by decide +kernel) rfl)⟩
theorem lX11_140 : LkV RX11 140 mX11_compare := ⟨(gW_in 1157 (by decide +kernel) rfl), (gW_in 1159 (by decide +kernel) rfl), (gW_in 32 (by decide +kernel) rfl)⟩
theorem lL_68 : LkV RL 68 mX11_state := ⟨(gW_in 1161 (by decide +kernel) rfl), (gW_in 1162 (by decide +kernel) rfl), (gW_in 1163 (by decide +kernel) rfl)⟩
theorem lL_73 : LkV RL 73 mX11_fall := ⟨(gW_in 1165 (by decide +kernel) rfl), (gW_in 1166 (by decide +kernel) rfl), (gW_in 1167 (by decide +kernel) rfl)⟩
theorem lL_77 : LkV RL 77 mX11_store := ⟨(gW_in 1169 (by decide +kernel) rfl), (gW_in 1170 (by decide +kernel) rfl), (gW_in 1171 (by decide +kernel) rfl)⟩
theorem lX11_167 : LkV RX11 167 mX11_format := ⟨(gW_in 1173 (by decide +kernel) rfl), (gW_in 1175 (by decide +kernel) rfl), (gW_in 33 (by decide +kernel) rfl)⟩
theorem lX11_170 : LkS RX11 170 mX11_fencesOf ∨ LkN RX11 170 mX11_fencesOf := Or.inl ⟨(gW_in 1177 (by decide +kernel) rfl), (gW_in 1178 (by decide +kernel) rfl)⟩
theorem lL_84 : LkV RL 84 mX11_put := ⟨(gW_in 1180 (by decide +kernel) rfl), (gW_in 1181 (by decide +kernel) rfl), (gW_in 1182 (by decide +kernel) rfl)⟩
theorem lX11_214 : LkV RX11 214 mX11_planChange := ⟨(gW_in 1184 (by decide +kernel) rfl), (gW_in 1186 (by decide +kernel) rfl), (gW_in 34 (by decide +kernel) rfl)⟩
theorem lX11_198 : LkS RX11 198 mX11_high ∨ LkN RX11 198 mX11_high := Or.inl ⟨(gW_in 1188 (by decide +kernel) rfl), (gW_in 1189 (by decide +kernel) rfl)⟩
theorem lX11_191 : LkV RX11 191 mX11_plan := ⟨(gW_in 1191 (by decide +kernel) rfl), (gW_in 1193 (by decide +kernel) rfl), (gW_in 35 (by decide +kernel) rfl)⟩
theorem lX11_195 : LkV RX11 195 mX11_planFence := ⟨(gW_in 1195 (by decide +kernel) rfl), (gW_in 1197 (by decide +kernel) rfl), (gW_in 36 (by decide +kernel) rfl)⟩
theorem lX11_202 : LkS RX11 202 mX11_sum ∨ LkN RX11 202 mX11_sum := Or.inl ⟨(gW_in 1199 (by decide +kernel) rfl), (gW_in 1200 (by decide +kernel) rfl)⟩
theorem lX11_206 : LkV RX11 206 mX11_planEnd := ⟨(gW_in 1202 (by decide +kernel) rfl), (gW_in 1204 (by decide +kernel) rfl), (gW_in 37 (by decide +kernel) rfl)⟩
theorem lX11_178 : LkV RX11 178 mX11_version := ⟨(gW_in 1206 (by decide +kernel) rfl), (gW_in 1208 (by decide +kernel) rfl), (gW_in 38 (by decide +kernel) rfl)⟩
theorem lX11_175 : LkV RX11 175 mX11_root := ⟨(gW_in 1210 (by decide +kernel) rfl), (gW_in 1212 (by decide +kernel) rfl), (gW_in 39 (by decide +kernel) rfl)⟩
theorem lX11_210 : LkV RX11 210 mX11_keyOf := ⟨(gW_in 1214 (by decide +kernel) rfl), (gW_in 1216 (by decide +kernel) rfl), (gW_in 40 (by decide +kernel) rfl)⟩
theorem lX11_181 : LkS RX11 181 mX11_placeOf ∨ LkN RX11 181 mX11_placeOf := Or.inl ⟨(gW_in 1218 (by decide +kernel) rfl), (gW_in 1219 (by decide +kernel) rfl)⟩
theorem lX11_184 : LkS RX11 184 mX11_joined ∨ LkN RX11 184 mX11_joined := Or.inl ⟨(gW_in 1221 (by decide +kernel) rfl), (gW_in 1222 (by decide +kernel) rfl)⟩
theorem lX11_218 : LkV RX11 218 mX11_takePlan := ⟨(gW_in 1225 (by decide +kernel) rfl), (gW_in 1227 (by decide +kernel) rfl), (gW_in 41 (by decide +kernel) rfl)⟩
theorem lL_88 : LkV RL 88 mX11_move := ⟨(gW_in 1229 (by decide +kernel) rfl), (gW_in 1230 (by decide +kernel) rfl), (gW_in 1231 (by decide +kernel) rfl)⟩
theorem lL_92 : LkV RL 92 mX11_get := ⟨(gW_in 1233 (by decide +kernel) rfl), (gW_in 1234 (by decide +kernel) rfl), (gW_in 1235 (by decide +kernel) rfl)⟩
theorem lL_96 : LkV RL 96 mX11_rise := ⟨(gW_in 1237 (by decide +kernel) rfl), (gW_in 1238 (by decide +kernel) rfl), (gW_in 1239 (by decide +kernel) rfl)⟩
theorem lX11_222 : LkV RX11 222 mX11_planRise := ⟨(gW_in 1241 (by decide +kernel) rfl), (gW_in 1243 (by decide +kernel) rfl), (gW_in 42 (by decide +kernel) rfl)⟩
theorem lL_101 : LkV RL 101 mX11_isSound := ⟨(gW_in 1245 (by decide +kernel) rfl), (gW_in 1246 (by decide +kernel) rfl), (gW_in 1247 (by decide +kernel) rfl)⟩
theorem lL_105 : LkV RL 105 mX11_addPut := ⟨(gW_in 1249 (by decide +kernel) rfl), (gW_in 1250 (by decide +kernel) rfl), (gW_in 1251 (by decide +kernel) rfl)⟩
theorem lX11_228 : LkV RX11 228 mX11_add := ⟨(gW_in 1253 (by decide +kernel) rfl), (gW_in 1255 (by decide +kernel) rfl), (gW_in 43 (by decide +kernel) rfl)⟩
theorem lL_109 : LkV RL 109 mX11_addMove := ⟨(gW_in 1257 (by decide +kernel) rfl), (gW_in 1258 (by decide +kernel) rfl), (gW_in 1259 (by decide +kernel) rfl)⟩
theorem lL_113 : LkV RL 113 mX11_addSure := ⟨(gW_in 1261 (by decide +kernel) rfl), (gW_in 1262 (by decide +kernel) rfl), (gW_in 1263 (by decide +kernel) rfl)⟩
theorem lL_117 : LkV RL 117 mX11_clear := ⟨(gW_in 1265 (by decide +kernel) rfl), (gW_in 1266 (by decide +kernel) rfl), (gW_in 1267 (by decide +kernel) rfl)⟩
theorem lL_121 : LkV RL 121 mX11_through := ⟨(gW_in 1269 (by decide +kernel) rfl), (gW_in 1270 (by decide +kernel) rfl), (gW_in 1271 (by decide +kernel) rfl)⟩
theorem lX11_250 : LkV RX11 250 mX11_goThrough := ⟨(gW_in 1273 (by decide +kernel) rfl), (gW_in 1275 (by decide +kernel) rfl), (gW_in 44 (by decide +kernel) rfl)⟩
theorem lX11_244 : LkV RX11 244 mX11_findDue := ⟨(gW_in 1277 (by decide +kernel) rfl), (gW_in 1279 (by decide +kernel) rfl), (gW_in 45 (by decide +kernel) rfl)⟩
theorem lX11_241 : LkV RX11 241 mX11_moment := ⟨(gW_in 1281 (by decide +kernel) rfl), (gW_in 1283 (by decide +kernel) rfl), (gW_in 46 (by decide +kernel) rfl)⟩
theorem lX11_238 : LkV RX11 238 mX11_isRight := ⟨(gW_in 1285 (by decide +kernel) rfl), (gW_in 1287 (by decide +kernel) rfl), (gW_in 47 (by decide +kernel) rfl)⟩
theorem lX11_247 : LkV RX11 247 mX11_goThroughAct := ⟨(gW_in 1289 (by decide +kernel) rfl), (gW_in 1291 (by decide +kernel) rfl), (gW_in 48 (by decide +kernel) rfl)⟩
theorem lL_125 : LkV RL 125 mX11_gone := ⟨(gW_in 1293 (by decide +kernel) rfl), (gW_in 1294 (by decide +kernel) rfl), (gW_in 1295 (by decide +kernel) rfl)⟩
theorem lL_129 : LkV RL 129 mX11_bad := ⟨(gW_in 1297 (by decide +kernel) rfl), (gW_in 1298 (by decide +kernel) rfl), (gW_in 1299 (by decide +kernel) rfl)⟩
theorem lL_134 : LkV RL 134 mX11_spare := ⟨(gW_in 1301 (by decide +kernel) rfl), (gW_in 1302 (by decide +kernel) rfl), (gW_in 1303 (by decide +kernel) rfl)⟩
theorem lL_138 : LkV RL 138 mX11_least := ⟨(gW_in 1305 (by decide +kernel) rfl), (gW_in 1306 (by decide +kernel) rfl), (gW_in 1307 (by decide +kernel) rfl)⟩
theorem lL_142 : LkV RL 142 mX11_digest := ⟨(gW_in 1309 (by decide +kernel) rfl), (gW_in 1310 (by decide +kernel) rfl), (gW_in 1311 (by decide +kernel) rfl)⟩
theorem lL_146 : LkV RL 146 mX11_status := ⟨(gW_in 1313 (by decide +kernel) rfl), (gW_in 1314 (by decide +kernel) rfl), (gW_in 1315 (by decide +kernel) rfl)⟩
end
section
theorem dX0_init_0 : decode cX0_init 0 = .ok (.aload_n 0, 1) := by decide +kernel
theorem dX0_init_1 : decode cX0_init 1 = .ok (.invokespecial 3, 3) := by decide +kernel
theorem dX0_init_4 : decode cX0_init 4 = .ok (.aload_n 0, 1) := by decide +kernel
theorem dX0_init_5 : decode cX0_init 5 = .ok (.bipush 32, 2) := by decide +kernel
theorem dX0_init_7 : decode cX0_init 7 = .ok (.newarray .int, 2) := by decide +kernel
theorem dX0_init_9 : decode cX0_init 9 = .ok (.putfield 9, 3) := by decide +kernel
theorem dX0_init_12 : decode cX0_init 12 = .ok (.aload_n 0, 1) := by decide +kernel
theorem dX0_init_13 : decode cX0_init 13 = .ok (.bipush 32, 2) := by decide +kernel
theorem dX0_init_15 : decode cX0_init 15 = .ok (.newarray .int, 2) := by decide +kernel
theorem dX0_init_17 : decode cX0_init 17 = .ok (.putfield 15, 3) := by decide +kernel
theorem dX0_init_20 : decode cX0_init 20 = .ok (.aload_n 0, 1) := by decide +kernel
theorem dX0_init_21 : decode cX0_init 21 = .ok (.bipush 60, 2) := by decide +kernel
theorem dX0_init_23 : decode cX0_init 23 = .ok (.newarray .int, 2) := by decide +kernel
theorem dX0_init_25 : decode cX0_init 25 = .ok (.putfield 18, 3) := by decide +kernel
theorem dX0_init_28 : decode cX0_init 28 = .ok (.aload_n 0, 1) := by decide +kernel
theorem dX0_init_29 : decode cX0_init 29 = .ok (.bipush 60, 2) := by decide +kernel
theorem dX0_init_31 : decode cX0_init 31 = .ok (.newarray .int, 2) := by decide +kernel
theorem dX0_init_33 : decode cX0_init 33 = .ok (.putfield 21, 3) := by decide +kernel
theorem dX0_init_36 : decode cX0_init 36 = .ok (.aload_n 0, 1) := by decide +kernel
theorem dX0_init_37 : decode cX0_init 37 = .ok (.bipush 60, 2) := by decide +kernel
theorem dX0_init_39 : decode cX0_init 39 = .ok (.newarray .int, 2) := by decide +kernel
theorem dX0_init_41 : decode cX0_init 41 = .ok (.putfield 24, 3) := by decide +kernel
theorem dX0_init_44 : decode cX0_init 44 = .ok (.aload_n 0, 1) := by decide +kernel
theorem dX0_init_45 : decode cX0_init 45 = .ok (.bipush 60, 2) := by decide +kernel
theorem dX0_init_47 : decode cX0_init 47 = .ok (.newarray .int, 2) := by decide +kernel
theorem dX0_init_49 : decode cX0_init 49 = .ok (.putfield 27, 3) := by decide +kernel
theorem dX0_init_52 : decode cX0_init 52 = .ok (.aload_n 0, 1) := by decide +kernel
theorem dX0_init_53 : decode cX0_init 53 = .ok (.iconst 0, 1) := by decide +kernel
theorem dX0_init_54 : decode cX0_init 54 = .ok (.putfield 30, 3) := by decide +kernel
theorem dX0_init_57 : decode cX0_init 57 = .ok (.aload_n 0, 1) := by decide +kernel
theorem dX0_init_58 : decode cX0_init 58 = .ok (.iconst 0, 1) := by decide +kernel
theorem dX0_init_59 : decode cX0_init 59 = .ok (.putfield 34, 3) := by decide +kernel
theorem dX0_init_62 : decode cX0_init 62 = .ok (.aload_n 0, 1) := by decide +kernel
theorem dX0_init_63 : decode cX0_init 63 = .ok (.iconst 0, 1) := by decide +kernel
theorem dX0_init_64 : decode cX0_init 64 = .ok (.putfield 37, 3) := by decide +kernel
theorem dX0_init_67 : decode cX0_init 67 = .ok (.aload_n 0, 1) := by decide +kernel
theorem dX0_init_68 : decode cX0_init 68 = .ok (.iconst 0, 1) := by decide +kernel
theorem dX0_init_69 : decode cX0_init 69 = .ok (.putfield 40, 3) := by decide +kernel
theorem dX0_init_72 : decode cX0_init 72 = .ok (.aload_n 0, 1) := by decide +kernel
theorem dX0_init_73 : decode cX0_init 73 = .ok (.iconst 0, 1) := by decide +kernel
theorem dX0_init_74 : decode cX0_init 74 = .ok (.putfield 44, 3) := by decide +kernel
theorem dX0_init_77 : decode cX0_init 77 = .ok (.aload_n 0, 1) := by decide +kernel
theorem dX0_init_78 : decode cX0_init 78 = .ok (.iconst 0, 1) := by decide +kernel
theorem dX0_init_79 : decode cX0_init 79 = .ok (.putfield 47, 3) := by decide +kernel
theorem dX0_init_82 : decode cX0_init 82 = .ok (.aload_n 0, 1) := by decide +kernel
theorem dX0_init_83 : decode cX0_init 83 = .ok (.iconst 0, 1) := by decide +kernel
theorem dX0_init_84 : decode cX0_init 84 = .ok (.putfield 50, 3) := by decide +kernel
theorem dX0_init_87 : decode cX0_init 87 = .ok (.return_, 1) := by decide +kernel
theorem dX0_hasRoom_0 : decode cX0_hasRoom 0 = .ok (.aload_n 0, 1) := by decide +kernel
theorem dX0_hasRoom_1 : decode cX0_hasRoom 1 = .ok (.getfield 30, 3) := by decide +kernel
theorem dX0_hasRoom_4 : decode cX0_hasRoom 4 = .ok (.iload_n 1, 1) := by decide +kernel
theorem dX0_hasRoom_5 : decode cX0_hasRoom 5 = .ok (.iadd, 1) := by decide +kernel
theorem dX0_hasRoom_6 : decode cX0_hasRoom 6 = .ok (.bipush 60, 2) := by decide +kernel
theorem dX0_hasRoom_8 : decode cX0_hasRoom 8 = .ok (.if_icmp .gt 7, 3) := by decide +kernel
theorem dX0_hasRoom_11 : decode cX0_hasRoom 11 = .ok (.iconst 1, 1) := by decide +kernel
theorem dX0_hasRoom_12 : decode cX0_hasRoom 12 = .ok (.goto 4, 3) := by decide +kernel
theorem dX0_hasRoom_15 : decode cX0_hasRoom 15 = .ok (.iconst 0, 1) := by decide +kernel
theorem dX0_hasRoom_16 : decode cX0_hasRoom 16 = .ok (.ireturn, 1) := by decide +kernel
theorem dX0_enqueueWrite_0 : decode cX0_enqueueWrite 0 = .ok (.iload_n 1, 1) := by decide +kernel
theorem dX0_enqueueWrite_1 : decode cX0_enqueueWrite 1 = .ok (.invokestatic 53, 3) := by decide +kernel
theorem dX0_enqueueWrite_4 : decode cX0_enqueueWrite 4 = .ok (.ifCond .eq 12, 3) := by decide +kernel
theorem dX0_enqueueWrite_7 : decode cX0_enqueueWrite 7 = .ok (.aload_n 0, 1) := by decide +kernel
theorem dX0_enqueueWrite_8 : decode cX0_enqueueWrite 8 = .ok (.getfield 30, 3) := by decide +kernel
theorem dX0_enqueueWrite_11 : decode cX0_enqueueWrite 11 = .ok (.bipush 60, 2) := by decide +kernel
theorem dX0_enqueueWrite_13 : decode cX0_enqueueWrite 13 = .ok (.if_icmp .lt 4, 3) := by decide +kernel
theorem dX0_enqueueWrite_16 : decode cX0_enqueueWrite 16 = .ok (.return_, 1) := by decide +kernel
theorem dX0_enqueueWrite_17 : decode cX0_enqueueWrite 17 = .ok (.aload_n 0, 1) := by decide +kernel
theorem dX0_enqueueWrite_18 : decode cX0_enqueueWrite 18 = .ok (.getfield 37, 3) := by decide +kernel
theorem dX0_enqueueWrite_21 : decode cX0_enqueueWrite 21 = .ok (.ifCond .eq 10, 3) := by decide +kernel
theorem dX0_enqueueWrite_24 : decode cX0_enqueueWrite 24 = .ok (.aload_n 0, 1) := by decide +kernel
theorem dX0_enqueueWrite_25 : decode cX0_enqueueWrite 25 = .ok (.getfield 40, 3) := by decide +kernel
theorem dX0_enqueueWrite_28 : decode cX0_enqueueWrite 28 = .ok (.ifCond .eq 18, 3) := by decide +kernel
theorem dX0_enqueueWrite_31 : decode cX0_enqueueWrite 31 = .ok (.aload_n 0, 1) := by decide +kernel
theorem dX0_enqueueWrite_32 : decode cX0_enqueueWrite 32 = .ok (.dup, 1) := by decide +kernel
theorem dX0_enqueueWrite_33 : decode cX0_enqueueWrite 33 = .ok (.getfield 37, 3) := by decide +kernel
theorem dX0_enqueueWrite_36 : decode cX0_enqueueWrite 36 = .ok (.iconst 1, 1) := by decide +kernel
theorem dX0_enqueueWrite_37 : decode cX0_enqueueWrite 37 = .ok (.iadd, 1) := by decide +kernel
theorem dX0_enqueueWrite_38 : decode cX0_enqueueWrite 38 = .ok (.putfield 37, 3) := by decide +kernel
theorem dX0_enqueueWrite_41 : decode cX0_enqueueWrite 41 = .ok (.aload_n 0, 1) := by decide +kernel
theorem dX0_enqueueWrite_42 : decode cX0_enqueueWrite 42 = .ok (.iconst 0, 1) := by decide +kernel
theorem dX0_enqueueWrite_43 : decode cX0_enqueueWrite 43 = .ok (.putfield 40, 3) := by decide +kernel
theorem dX0_enqueueWrite_46 : decode cX0_enqueueWrite 46 = .ok (.aload_n 0, 1) := by decide +kernel
theorem dX0_enqueueWrite_47 : decode cX0_enqueueWrite 47 = .ok (.getfield 18, 3) := by decide +kernel
theorem dX0_enqueueWrite_50 : decode cX0_enqueueWrite 50 = .ok (.aload_n 0, 1) := by decide +kernel
theorem dX0_enqueueWrite_51 : decode cX0_enqueueWrite 51 = .ok (.getfield 30, 3) := by decide +kernel
theorem dX0_enqueueWrite_54 : decode cX0_enqueueWrite 54 = .ok (.iload_n 1, 1) := by decide +kernel
theorem dX0_enqueueWrite_55 : decode cX0_enqueueWrite 55 = .ok (.iastore, 1) := by decide +kernel
theorem dX0_enqueueWrite_56 : decode cX0_enqueueWrite 56 = .ok (.aload_n 0, 1) := by decide +kernel
theorem dX0_enqueueWrite_57 : decode cX0_enqueueWrite 57 = .ok (.getfield 21, 3) := by decide +kernel
theorem dX0_enqueueWrite_60 : decode cX0_enqueueWrite 60 = .ok (.aload_n 0, 1) := by decide +kernel
theorem dX0_enqueueWrite_61 : decode cX0_enqueueWrite 61 = .ok (.getfield 30, 3) := by decide +kernel
theorem dX0_enqueueWrite_64 : decode cX0_enqueueWrite 64 = .ok (.iload_n 2, 1) := by decide +kernel
theorem dX0_enqueueWrite_65 : decode cX0_enqueueWrite 65 = .ok (.iastore, 1) := by decide +kernel
theorem dX0_enqueueWrite_66 : decode cX0_enqueueWrite 66 = .ok (.aload_n 0, 1) := by decide +kernel
theorem dX0_enqueueWrite_67 : decode cX0_enqueueWrite 67 = .ok (.getfield 24, 3) := by decide +kernel
theorem dX0_enqueueWrite_70 : decode cX0_enqueueWrite 70 = .ok (.aload_n 0, 1) := by decide +kernel
theorem dX0_enqueueWrite_71 : decode cX0_enqueueWrite 71 = .ok (.getfield 30, 3) := by decide +kernel
theorem dX0_enqueueWrite_74 : decode cX0_enqueueWrite 74 = .ok (.iload_n 3, 1) := by decide +kernel
theorem dX0_enqueueWrite_75 : decode cX0_enqueueWrite 75 = .ok (.iastore, 1) := by decide +kernel
theorem dX0_enqueueWrite_76 : decode cX0_enqueueWrite 76 = .ok (.aload_n 0, 1) := by decide +kernel
theorem dX0_enqueueWrite_77 : decode cX0_enqueueWrite 77 = .ok (.getfield 27, 3) := by decide +kernel
theorem dX0_enqueueWrite_80 : decode cX0_enqueueWrite 80 = .ok (.aload_n 0, 1) := by decide +kernel
theorem dX0_enqueueWrite_81 : decode cX0_enqueueWrite 81 = .ok (.getfield 30, 3) := by decide +kernel
theorem dX0_enqueueWrite_84 : decode cX0_enqueueWrite 84 = .ok (.aload_n 0, 1) := by decide +kernel
theorem dX0_enqueueWrite_85 : decode cX0_enqueueWrite 85 = .ok (.getfield 37, 3) := by decide +kernel
theorem dX0_enqueueWrite_88 : decode cX0_enqueueWrite 88 = .ok (.iconst 1, 1) := by decide +kernel
theorem dX0_enqueueWrite_89 : decode cX0_enqueueWrite 89 = .ok (.isub, 1) := by decide +kernel
theorem dX0_enqueueWrite_90 : decode cX0_enqueueWrite 90 = .ok (.iastore, 1) := by decide +kernel
theorem dX0_enqueueWrite_91 : decode cX0_enqueueWrite 91 = .ok (.aload_n 0, 1) := by decide +kernel
theorem dX0_enqueueWrite_92 : decode cX0_enqueueWrite 92 = .ok (.getfield 15, 3) := by decide +kernel
theorem dX0_enqueueWrite_95 : decode cX0_enqueueWrite 95 = .ok (.iconst 2, 1) := by decide +kernel
theorem dX0_enqueueWrite_96 : decode cX0_enqueueWrite 96 = .ok (.iload_n 1, 1) := by decide +kernel
theorem dX0_enqueueWrite_97 : decode cX0_enqueueWrite 97 = .ok (.imul, 1) := by decide +kernel
theorem dX0_enqueueWrite_98 : decode cX0_enqueueWrite 98 = .ok (.iload_n 2, 1) := by decide +kernel
theorem dX0_enqueueWrite_99 : decode cX0_enqueueWrite 99 = .ok (.iastore, 1) := by decide +kernel
theorem dX0_enqueueWrite_100 : decode cX0_enqueueWrite 100 = .ok (.aload_n 0, 1) := by decide +kernel
theorem dX0_enqueueWrite_101 : decode cX0_enqueueWrite 101 = .ok (.getfield 15, 3) := by decide +kernel
theorem dX0_enqueueWrite_104 : decode cX0_enqueueWrite 104 = .ok (.iconst 2, 1) := by decide +kernel
theorem dX0_enqueueWrite_105 : decode cX0_enqueueWrite 105 = .ok (.iload_n 1, 1) := by decide +kernel
theorem dX0_enqueueWrite_106 : decode cX0_enqueueWrite 106 = .ok (.imul, 1) := by decide +kernel
theorem dX0_enqueueWrite_107 : decode cX0_enqueueWrite 107 = .ok (.iconst 1, 1) := by decide +kernel
theorem dX0_enqueueWrite_108 : decode cX0_enqueueWrite 108 = .ok (.iadd, 1) := by decide +kernel
theorem dX0_enqueueWrite_109 : decode cX0_enqueueWrite 109 = .ok (.iload_n 3, 1) := by decide +kernel
theorem dX0_enqueueWrite_110 : decode cX0_enqueueWrite 110 = .ok (.iastore, 1) := by decide +kernel
theorem dX0_enqueueWrite_111 : decode cX0_enqueueWrite 111 = .ok (.aload_n 0, 1) := by decide +kernel
theorem dX0_enqueueWrite_112 : decode cX0_enqueueWrite 112 = .ok (.dup, 1) := by decide +kernel
theorem dX0_enqueueWrite_113 : decode cX0_enqueueWrite 113 = .ok (.getfield 44, 3) := by decide +kernel
theorem dX0_enqueueWrite_116 : decode cX0_enqueueWrite 116 = .ok (.iconst 1, 1) := by decide +kernel
theorem dX0_enqueueWrite_117 : decode cX0_enqueueWrite 117 = .ok (.iload_n 1, 1) := by decide +kernel
theorem dX0_enqueueWrite_118 : decode cX0_enqueueWrite 118 = .ok (.ishl, 1) := by decide +kernel
theorem dX0_enqueueWrite_119 : decode cX0_enqueueWrite 119 = .ok (.ior, 1) := by decide +kernel
theorem dX0_enqueueWrite_120 : decode cX0_enqueueWrite 120 = .ok (.putfield 44, 3) := by decide +kernel
theorem dX0_enqueueWrite_123 : decode cX0_enqueueWrite 123 = .ok (.aload_n 0, 1) := by decide +kernel
theorem dX0_enqueueWrite_124 : decode cX0_enqueueWrite 124 = .ok (.dup, 1) := by decide +kernel
theorem dX0_enqueueWrite_125 : decode cX0_enqueueWrite 125 = .ok (.getfield 30, 3) := by decide +kernel
theorem dX0_enqueueWrite_128 : decode cX0_enqueueWrite 128 = .ok (.iconst 1, 1) := by decide +kernel
theorem dX0_enqueueWrite_129 : decode cX0_enqueueWrite 129 = .ok (.iadd, 1) := by decide +kernel
theorem dX0_enqueueWrite_130 : decode cX0_enqueueWrite 130 = .ok (.putfield 30, 3) := by decide +kernel
theorem dX0_enqueueWrite_133 : decode cX0_enqueueWrite 133 = .ok (.aload_n 0, 1) := by decide +kernel
theorem dX0_enqueueWrite_134 : decode cX0_enqueueWrite 134 = .ok (.dup, 1) := by decide +kernel
theorem dX0_enqueueWrite_135 : decode cX0_enqueueWrite 135 = .ok (.getfield 34, 3) := by decide +kernel
theorem dX0_enqueueWrite_138 : decode cX0_enqueueWrite 138 = .ok (.iconst 1, 1) := by decide +kernel
theorem dX0_enqueueWrite_139 : decode cX0_enqueueWrite 139 = .ok (.iadd, 1) := by decide +kernel
theorem dX0_enqueueWrite_140 : decode cX0_enqueueWrite 140 = .ok (.putfield 34, 3) := by decide +kernel
theorem dX0_enqueueWrite_143 : decode cX0_enqueueWrite 143 = .ok (.aload_n 0, 1) := by decide +kernel
theorem dX0_enqueueWrite_144 : decode cX0_enqueueWrite 144 = .ok (.dup, 1) := by decide +kernel
theorem dX0_enqueueWrite_145 : decode cX0_enqueueWrite 145 = .ok (.getfield 47, 3) := by decide +kernel
theorem dX0_enqueueWrite_148 : decode cX0_enqueueWrite 148 = .ok (.iconst 1, 1) := by decide +kernel
theorem dX0_enqueueWrite_149 : decode cX0_enqueueWrite 149 = .ok (.iadd, 1) := by decide +kernel
theorem dX0_enqueueWrite_150 : decode cX0_enqueueWrite 150 = .ok (.putfield 47, 3) := by decide +kernel
theorem dX0_enqueueWrite_153 : decode cX0_enqueueWrite 153 = .ok (.aload_n 0, 1) := by decide +kernel
theorem dX0_enqueueWrite_154 : decode cX0_enqueueWrite 154 = .ok (.dup, 1) := by decide +kernel
theorem dX0_enqueueWrite_155 : decode cX0_enqueueWrite 155 = .ok (.getfield 50, 3) := by decide +kernel
theorem dX0_enqueueWrite_158 : decode cX0_enqueueWrite 158 = .ok (.iconst 1, 1) := by decide +kernel
theorem dX0_enqueueWrite_159 : decode cX0_enqueueWrite 159 = .ok (.iadd, 1) := by decide +kernel
theorem dX0_enqueueWrite_160 : decode cX0_enqueueWrite 160 = .ok (.putfield 50, 3) := by decide +kernel
theorem dX0_enqueueWrite_163 : decode cX0_enqueueWrite 163 = .ok (.return_, 1) := by decide +kernel
theorem dX0_enqueueFence_0 : decode cX0_enqueueFence 0 = .ok (.aload_n 0, 1) := by decide +kernel
theorem dX0_enqueueFence_1 : decode cX0_enqueueFence 1 = .ok (.getfield 30, 3) := by decide +kernel
theorem dX0_enqueueFence_4 : decode cX0_enqueueFence 4 = .ok (.bipush 60, 2) := by decide +kernel
theorem dX0_enqueueFence_6 : decode cX0_enqueueFence 6 = .ok (.if_icmp .lt 4, 3) := by decide +kernel
theorem dX0_enqueueFence_9 : decode cX0_enqueueFence 9 = .ok (.return_, 1) := by decide +kernel
theorem dX0_enqueueFence_10 : decode cX0_enqueueFence 10 = .ok (.aload_n 0, 1) := by decide +kernel
theorem dX0_enqueueFence_11 : decode cX0_enqueueFence 11 = .ok (.getfield 18, 3) := by decide +kernel
theorem dX0_enqueueFence_14 : decode cX0_enqueueFence 14 = .ok (.aload_n 0, 1) := by decide +kernel
theorem dX0_enqueueFence_15 : decode cX0_enqueueFence 15 = .ok (.getfield 30, 3) := by decide +kernel
theorem dX0_enqueueFence_18 : decode cX0_enqueueFence 18 = .ok (.iconst (-1), 1) := by decide +kernel
theorem dX0_enqueueFence_19 : decode cX0_enqueueFence 19 = .ok (.iastore, 1) := by decide +kernel
theorem dX0_enqueueFence_20 : decode cX0_enqueueFence 20 = .ok (.aload_n 0, 1) := by decide +kernel
theorem dX0_enqueueFence_21 : decode cX0_enqueueFence 21 = .ok (.getfield 21, 3) := by decide +kernel
theorem dX0_enqueueFence_24 : decode cX0_enqueueFence 24 = .ok (.aload_n 0, 1) := by decide +kernel
theorem dX0_enqueueFence_25 : decode cX0_enqueueFence 25 = .ok (.getfield 30, 3) := by decide +kernel
theorem dX0_enqueueFence_28 : decode cX0_enqueueFence 28 = .ok (.iconst 0, 1) := by decide +kernel
theorem dX0_enqueueFence_29 : decode cX0_enqueueFence 29 = .ok (.iastore, 1) := by decide +kernel
theorem dX0_enqueueFence_30 : decode cX0_enqueueFence 30 = .ok (.aload_n 0, 1) := by decide +kernel
theorem dX0_enqueueFence_31 : decode cX0_enqueueFence 31 = .ok (.getfield 24, 3) := by decide +kernel
theorem dX0_enqueueFence_34 : decode cX0_enqueueFence 34 = .ok (.aload_n 0, 1) := by decide +kernel
theorem dX0_enqueueFence_35 : decode cX0_enqueueFence 35 = .ok (.getfield 30, 3) := by decide +kernel
theorem dX0_enqueueFence_38 : decode cX0_enqueueFence 38 = .ok (.iconst 0, 1) := by decide +kernel
theorem dX0_enqueueFence_39 : decode cX0_enqueueFence 39 = .ok (.iastore, 1) := by decide +kernel
theorem dX0_enqueueFence_40 : decode cX0_enqueueFence 40 = .ok (.aload_n 0, 1) := by decide +kernel
theorem dX0_enqueueFence_41 : decode cX0_enqueueFence 41 = .ok (.getfield 27, 3) := by decide +kernel
theorem dX0_enqueueFence_44 : decode cX0_enqueueFence 44 = .ok (.aload_n 0, 1) := by decide +kernel
theorem dX0_enqueueFence_45 : decode cX0_enqueueFence 45 = .ok (.getfield 30, 3) := by decide +kernel
theorem dX0_enqueueFence_48 : decode cX0_enqueueFence 48 = .ok (.iconst (-1), 1) := by decide +kernel
theorem dX0_enqueueFence_49 : decode cX0_enqueueFence 49 = .ok (.iastore, 1) := by decide +kernel
theorem dX0_enqueueFence_50 : decode cX0_enqueueFence 50 = .ok (.aload_n 0, 1) := by decide +kernel
theorem dX0_enqueueFence_51 : decode cX0_enqueueFence 51 = .ok (.dup, 1) := by decide +kernel
theorem dX0_enqueueFence_52 : decode cX0_enqueueFence 52 = .ok (.getfield 30, 3) := by decide +kernel
theorem dX0_enqueueFence_55 : decode cX0_enqueueFence 55 = .ok (.iconst 1, 1) := by decide +kernel
theorem dX0_enqueueFence_56 : decode cX0_enqueueFence 56 = .ok (.iadd, 1) := by decide +kernel
theorem dX0_enqueueFence_57 : decode cX0_enqueueFence 57 = .ok (.putfield 30, 3) := by decide +kernel
theorem dX0_enqueueFence_60 : decode cX0_enqueueFence 60 = .ok (.aload_n 0, 1) := by decide +kernel
theorem dX0_enqueueFence_61 : decode cX0_enqueueFence 61 = .ok (.iconst 1, 1) := by decide +kernel
theorem dX0_enqueueFence_62 : decode cX0_enqueueFence 62 = .ok (.putfield 40, 3) := by decide +kernel
theorem dX0_enqueueFence_65 : decode cX0_enqueueFence 65 = .ok (.aload_n 0, 1) := by decide +kernel
theorem dX0_enqueueFence_66 : decode cX0_enqueueFence 66 = .ok (.dup, 1) := by decide +kernel
theorem dX0_enqueueFence_67 : decode cX0_enqueueFence 67 = .ok (.getfield 50, 3) := by decide +kernel
theorem dX0_enqueueFence_70 : decode cX0_enqueueFence 70 = .ok (.iconst 1, 1) := by decide +kernel
theorem dX0_enqueueFence_71 : decode cX0_enqueueFence 71 = .ok (.iadd, 1) := by decide +kernel
theorem dX0_enqueueFence_72 : decode cX0_enqueueFence 72 = .ok (.putfield 50, 3) := by decide +kernel
theorem dX0_enqueueFence_75 : decode cX0_enqueueFence 75 = .ok (.return_, 1) := by decide +kernel
theorem dX0_enqueuePlanned_0 : decode cX0_enqueuePlanned 0 = .ok (.aload_n 1, 1) := by decide +kernel
theorem dX0_enqueuePlanned_1 : decode cX0_enqueuePlanned 1 = .ok (.iload_n 2, 1) := by decide +kernel
theorem dX0_enqueuePlanned_2 : decode cX0_enqueuePlanned 2 = .ok (.invokevirtual 57, 3) := by decide +kernel
theorem dX0_enqueuePlanned_5 : decode cX0_enqueuePlanned 5 = .ok (.ifCond .eq 10, 3) := by decide +kernel
theorem dX0_enqueuePlanned_8 : decode cX0_enqueuePlanned 8 = .ok (.aload_n 0, 1) := by decide +kernel
theorem dX0_enqueuePlanned_9 : decode cX0_enqueuePlanned 9 = .ok (.invokevirtual 62, 3) := by decide +kernel
theorem dX0_enqueuePlanned_12 : decode cX0_enqueuePlanned 12 = .ok (.goto 25, 3) := by decide +kernel
theorem dX0_enqueuePlanned_15 : decode cX0_enqueuePlanned 15 = .ok (.aload_n 0, 1) := by decide +kernel
theorem dX0_enqueuePlanned_16 : decode cX0_enqueuePlanned 16 = .ok (.aload_n 1, 1) := by decide +kernel
theorem dX0_enqueuePlanned_17 : decode cX0_enqueuePlanned 17 = .ok (.getfield 65, 3) := by decide +kernel
theorem dX0_enqueuePlanned_20 : decode cX0_enqueuePlanned 20 = .ok (.iload_n 2, 1) := by decide +kernel
theorem dX0_enqueuePlanned_21 : decode cX0_enqueuePlanned 21 = .ok (.iaload, 1) := by decide +kernel
theorem dX0_enqueuePlanned_22 : decode cX0_enqueuePlanned 22 = .ok (.aload_n 1, 1) := by decide +kernel
theorem dX0_enqueuePlanned_23 : decode cX0_enqueuePlanned 23 = .ok (.getfield 66, 3) := by decide +kernel
theorem dX0_enqueuePlanned_26 : decode cX0_enqueuePlanned 26 = .ok (.iload_n 2, 1) := by decide +kernel
theorem dX0_enqueuePlanned_27 : decode cX0_enqueuePlanned 27 = .ok (.iaload, 1) := by decide +kernel
theorem dX0_enqueuePlanned_28 : decode cX0_enqueuePlanned 28 = .ok (.aload_n 1, 1) := by decide +kernel
theorem dX0_enqueuePlanned_29 : decode cX0_enqueuePlanned 29 = .ok (.getfield 67, 3) := by decide +kernel
theorem dX0_enqueuePlanned_32 : decode cX0_enqueuePlanned 32 = .ok (.iload_n 2, 1) := by decide +kernel
theorem dX0_enqueuePlanned_33 : decode cX0_enqueuePlanned 33 = .ok (.iaload, 1) := by decide +kernel
theorem dX0_enqueuePlanned_34 : decode cX0_enqueuePlanned 34 = .ok (.invokevirtual 68, 3) := by decide +kernel
theorem dX0_enqueuePlanned_37 : decode cX0_enqueuePlanned 37 = .ok (.return_, 1) := by decide +kernel
theorem dX0_settle_0 : decode cX0_settle 0 = .ok (.aload_n 0, 1) := by decide +kernel
theorem dX0_settle_1 : decode cX0_settle 1 = .ok (.aload_n 0, 1) := by decide +kernel
theorem dX0_settle_2 : decode cX0_settle 2 = .ok (.getfield 15, 3) := by decide +kernel
theorem dX0_settle_5 : decode cX0_settle 5 = .ok (.invokevirtual 72, 3) := by decide +kernel
theorem dX0_settle_8 : decode cX0_settle 8 = .ok (.return_, 1) := by decide +kernel
theorem dX0_format_0 : decode cX0_format 0 = .ok (.aload_n 0, 1) := by decide +kernel
theorem dX0_format_1 : decode cX0_format 1 = .ok (.getfield 15, 3) := by decide +kernel
theorem dX0_format_4 : decode cX0_format 4 = .ok (.iconst 0, 1) := by decide +kernel
theorem dX0_format_5 : decode cX0_format 5 = .ok (.invokestatic 76, 3) := by decide +kernel
theorem dX0_format_8 : decode cX0_format 8 = .ok (.aload_n 1, 1) := by decide +kernel
theorem dX0_format_9 : decode cX0_format 9 = .ok (.aload_n 0, 1) := by decide +kernel
theorem dX0_format_10 : decode cX0_format 10 = .ok (.getfield 15, 3) := by decide +kernel
theorem dX0_format_13 : decode cX0_format 13 = .ok (.invokevirtual 82, 3) := by decide +kernel
theorem dX0_format_16 : decode cX0_format 16 = .ok (.aload_n 0, 1) := by decide +kernel
theorem dX0_format_17 : decode cX0_format 17 = .ok (.aload_n 0, 1) := by decide +kernel
theorem dX0_format_18 : decode cX0_format 18 = .ok (.getfield 15, 3) := by decide +kernel
theorem dX0_format_21 : decode cX0_format 21 = .ok (.invokevirtual 72, 3) := by decide +kernel
theorem dX0_format_24 : decode cX0_format 24 = .ok (.return_, 1) := by decide +kernel
theorem dX0_comeUpWith_0 : decode cX0_comeUpWith 0 = .ok (.iconst 0, 1) := by decide +kernel
theorem dX0_comeUpWith_1 : decode cX0_comeUpWith 1 = .ok (.istore_n 2, 1) := by decide +kernel
theorem dX0_comeUpWith_2 : decode cX0_comeUpWith 2 = .ok (.iload_n 2, 1) := by decide +kernel
theorem dX0_comeUpWith_3 : decode cX0_comeUpWith 3 = .ok (.bipush 32, 2) := by decide +kernel
theorem dX0_comeUpWith_5 : decode cX0_comeUpWith 5 = .ok (.if_icmp .ge 27, 3) := by decide +kernel
theorem dX0_comeUpWith_8 : decode cX0_comeUpWith 8 = .ok (.aload_n 0, 1) := by decide +kernel
theorem dX0_comeUpWith_9 : decode cX0_comeUpWith 9 = .ok (.getfield 9, 3) := by decide +kernel
theorem dX0_comeUpWith_12 : decode cX0_comeUpWith 12 = .ok (.iload_n 2, 1) := by decide +kernel
theorem dX0_comeUpWith_13 : decode cX0_comeUpWith 13 = .ok (.aload_n 1, 1) := by decide +kernel
theorem dX0_comeUpWith_14 : decode cX0_comeUpWith 14 = .ok (.iload_n 2, 1) := by decide +kernel
theorem dX0_comeUpWith_15 : decode cX0_comeUpWith 15 = .ok (.iaload, 1) := by decide +kernel
theorem dX0_comeUpWith_16 : decode cX0_comeUpWith 16 = .ok (.iastore, 1) := by decide +kernel
theorem dX0_comeUpWith_17 : decode cX0_comeUpWith 17 = .ok (.aload_n 0, 1) := by decide +kernel
theorem dX0_comeUpWith_18 : decode cX0_comeUpWith 18 = .ok (.getfield 15, 3) := by decide +kernel
theorem dX0_comeUpWith_21 : decode cX0_comeUpWith 21 = .ok (.iload_n 2, 1) := by decide +kernel
theorem dX0_comeUpWith_22 : decode cX0_comeUpWith 22 = .ok (.aload_n 1, 1) := by decide +kernel
theorem dX0_comeUpWith_23 : decode cX0_comeUpWith 23 = .ok (.iload_n 2, 1) := by decide +kernel
theorem dX0_comeUpWith_24 : decode cX0_comeUpWith 24 = .ok (.iaload, 1) := by decide +kernel
theorem dX0_comeUpWith_25 : decode cX0_comeUpWith 25 = .ok (.iastore, 1) := by decide +kernel
theorem dX0_comeUpWith_26 : decode cX0_comeUpWith 26 = .ok (.iinc 2 1, 3) := by decide +kernel
theorem dX0_comeUpWith_29 : decode cX0_comeUpWith 29 = .ok (.goto (-27), 3) := by decide +kernel
theorem dX0_comeUpWith_32 : decode cX0_comeUpWith 32 = .ok (.aload_n 0, 1) := by decide +kernel
theorem dX0_comeUpWith_33 : decode cX0_comeUpWith 33 = .ok (.iconst 0, 1) := by decide +kernel
theorem dX0_comeUpWith_34 : decode cX0_comeUpWith 34 = .ok (.putfield 30, 3) := by decide +kernel
theorem dX0_comeUpWith_37 : decode cX0_comeUpWith 37 = .ok (.aload_n 0, 1) := by decide +kernel
theorem dX0_comeUpWith_38 : decode cX0_comeUpWith 38 = .ok (.iconst 0, 1) := by decide +kernel
theorem dX0_comeUpWith_39 : decode cX0_comeUpWith 39 = .ok (.putfield 34, 3) := by decide +kernel
theorem dX0_comeUpWith_42 : decode cX0_comeUpWith 42 = .ok (.aload_n 0, 1) := by decide +kernel
theorem dX0_comeUpWith_43 : decode cX0_comeUpWith 43 = .ok (.iconst 0, 1) := by decide +kernel
theorem dX0_comeUpWith_44 : decode cX0_comeUpWith 44 = .ok (.putfield 37, 3) := by decide +kernel
theorem dX0_comeUpWith_47 : decode cX0_comeUpWith 47 = .ok (.aload_n 0, 1) := by decide +kernel
theorem dX0_comeUpWith_48 : decode cX0_comeUpWith 48 = .ok (.iconst 0, 1) := by decide +kernel
theorem dX0_comeUpWith_49 : decode cX0_comeUpWith 49 = .ok (.putfield 40, 3) := by decide +kernel
theorem dX0_comeUpWith_52 : decode cX0_comeUpWith 52 = .ok (.aload_n 0, 1) := by decide +kernel
theorem dX0_comeUpWith_53 : decode cX0_comeUpWith 53 = .ok (.iconst 0, 1) := by decide +kernel
theorem dX0_comeUpWith_54 : decode cX0_comeUpWith 54 = .ok (.putfield 44, 3) := by decide +kernel
theorem dX0_comeUpWith_57 : decode cX0_comeUpWith 57 = .ok (.aload_n 0, 1) := by decide +kernel
theorem dX0_comeUpWith_58 : decode cX0_comeUpWith 58 = .ok (.dup, 1) := by decide +kernel
theorem dX0_comeUpWith_59 : decode cX0_comeUpWith 59 = .ok (.getfield 50, 3) := by decide +kernel
theorem dX0_comeUpWith_62 : decode cX0_comeUpWith 62 = .ok (.iconst 1, 1) := by decide +kernel
theorem dX0_comeUpWith_63 : decode cX0_comeUpWith 63 = .ok (.iadd, 1) := by decide +kernel
theorem dX0_comeUpWith_64 : decode cX0_comeUpWith 64 = .ok (.putfield 50, 3) := by decide +kernel
theorem dX0_comeUpWith_67 : decode cX0_comeUpWith 67 = .ok (.return_, 1) := by decide +kernel
theorem dX1_init_0 : decode cX1_init 0 = .ok (.aload_n 0, 1) := by decide +kernel
theorem dX1_init_1 : decode cX1_init 1 = .ok (.invokespecial 3, 3) := by decide +kernel
theorem dX1_init_4 : decode cX1_init 4 = .ok (.return_, 1) := by decide +kernel
theorem dX1_planRising_0 : decode cX1_planRising 0 = .ok (.return_, 1) := by decide +kernel
theorem dX1_layOut_0 : decode cX1_layOut 0 = .ok (.return_, 1) := by decide +kernel
theorem dX1_version_0 : decode cX1_version 0 = .ok (.iconst 0, 1) := by decide +kernel
theorem dX1_version_1 : decode cX1_version 1 = .ok (.ireturn, 1) := by decide +kernel
theorem dX1_planPut_0 : decode cX1_planPut 0 = .ok (.aload_n 0, 1) := by decide +kernel
theorem dX1_planPut_1 : decode cX1_planPut 1 = .ok (.aload_n 1, 1) := by decide +kernel
theorem dX1_planPut_2 : decode cX1_planPut 2 = .ok (.iload_n 2, 1) := by decide +kernel
theorem dX1_planPut_3 : decode cX1_planPut 3 = .ok (.lload_n 3, 1) := by decide +kernel
theorem dX1_planPut_4 : decode cX1_planPut 4 = .ok (.iconst (-1), 1) := by decide +kernel
theorem dX1_planPut_5 : decode cX1_planPut 5 = .ok (.lconst 0, 1) := by decide +kernel
theorem dX1_planPut_6 : decode cX1_planPut 6 = .ok (.aload 5, 2) := by decide +kernel
theorem dX1_planPut_8 : decode cX1_planPut 8 = .ok (.invokevirtual 9, 3) := by decide +kernel
theorem dX1_planPut_11 : decode cX1_planPut 11 = .ok (.return_, 1) := by decide +kernel
theorem dX1_planMove_0 : decode cX1_planMove 0 = .ok (.aload_n 0, 1) := by decide +kernel
theorem dX1_planMove_1 : decode cX1_planMove 1 = .ok (.aload_n 1, 1) := by decide +kernel
theorem dX1_planMove_2 : decode cX1_planMove 2 = .ok (.iload_n 3, 1) := by decide +kernel
theorem dX1_planMove_3 : decode cX1_planMove 3 = .ok (.aload_n 0, 1) := by decide +kernel
theorem dX1_planMove_4 : decode cX1_planMove 4 = .ok (.aload_n 1, 1) := by decide +kernel
theorem dX1_planMove_5 : decode cX1_planMove 5 = .ok (.iload_n 2, 1) := by decide +kernel
theorem dX1_planMove_6 : decode cX1_planMove 6 = .ok (.invokevirtual 15, 3) := by decide +kernel
theorem dX1_planMove_9 : decode cX1_planMove 9 = .ok (.iload_n 2, 1) := by decide +kernel
theorem dX1_planMove_10 : decode cX1_planMove 10 = .ok (.lconst 0, 1) := by decide +kernel
theorem dX1_planMove_11 : decode cX1_planMove 11 = .ok (.aload 4, 2) := by decide +kernel
theorem dX1_planMove_13 : decode cX1_planMove 13 = .ok (.invokevirtual 9, 3) := by decide +kernel
theorem dX1_planMove_16 : decode cX1_planMove 16 = .ok (.return_, 1) := by decide +kernel
theorem dX1_valueOf_0 : decode cX1_valueOf 0 = .ok (.aload_n 1, 1) := by decide +kernel
theorem dX1_valueOf_1 : decode cX1_valueOf 1 = .ok (.aload_n 0, 1) := by decide +kernel
theorem dX1_valueOf_2 : decode cX1_valueOf 2 = .ok (.aload_n 1, 1) := by decide +kernel
theorem dX1_valueOf_3 : decode cX1_valueOf 3 = .ok (.invokevirtual 19, 3) := by decide +kernel
theorem dX1_valueOf_6 : decode cX1_valueOf 6 = .ok (.iload_n 2, 1) := by decide +kernel
theorem dX1_valueOf_7 : decode cX1_valueOf 7 = .ok (.invokestatic 23, 3) := by decide +kernel
theorem dX1_valueOf_10 : decode cX1_valueOf 10 = .ok (.lreturn, 1) := by decide +kernel
theorem dX1_valueAt_0 : decode cX1_valueAt 0 = .ok (.iload_n 1, 1) := by decide +kernel
theorem dX1_valueAt_1 : decode cX1_valueAt 1 = .ok (.iconst (-1), 1) := by decide +kernel
theorem dX1_valueAt_2 : decode cX1_valueAt 2 = .ok (.if_icmp .ne 5, 3) := by decide +kernel
theorem dX1_valueAt_5 : decode cX1_valueAt 5 = .ok (.lconst 0, 1) := by decide +kernel
theorem dX1_valueAt_6 : decode cX1_valueAt 6 = .ok (.lreturn, 1) := by decide +kernel
theorem dX1_valueAt_7 : decode cX1_valueAt 7 = .ok (.iconst 2, 1) := by decide +kernel
theorem dX1_valueAt_8 : decode cX1_valueAt 8 = .ok (.iload_n 1, 1) := by decide +kernel
theorem dX1_valueAt_9 : decode cX1_valueAt 9 = .ok (.iload_n 2, 1) := by decide +kernel
theorem dX1_valueAt_10 : decode cX1_valueAt 10 = .ok (.iadd, 1) := by decide +kernel
theorem dX1_valueAt_11 : decode cX1_valueAt 11 = .ok (.imul, 1) := by decide +kernel
theorem dX1_valueAt_12 : decode cX1_valueAt 12 = .ok (.istore_n 3, 1) := by decide +kernel
theorem dX1_valueAt_13 : decode cX1_valueAt 13 = .ok (.aload_n 0, 1) := by decide +kernel
theorem dX1_valueAt_14 : decode cX1_valueAt 14 = .ok (.iload_n 3, 1) := by decide +kernel
theorem dX1_valueAt_15 : decode cX1_valueAt 15 = .ok (.iaload, 1) := by decide +kernel
theorem dX1_valueAt_16 : decode cX1_valueAt 16 = .ok (.i2l, 1) := by decide +kernel
theorem dX1_valueAt_17 : decode cX1_valueAt 17 = .ok (.bipush 32, 2) := by decide +kernel
theorem dX1_valueAt_19 : decode cX1_valueAt 19 = .ok (.lshl, 1) := by decide +kernel
theorem dX1_valueAt_20 : decode cX1_valueAt 20 = .ok (.aload_n 0, 1) := by decide +kernel
theorem dX1_valueAt_21 : decode cX1_valueAt 21 = .ok (.iload_n 3, 1) := by decide +kernel
theorem dX1_valueAt_22 : decode cX1_valueAt 22 = .ok (.iconst 1, 1) := by decide +kernel
theorem dX1_valueAt_23 : decode cX1_valueAt 23 = .ok (.iadd, 1) := by decide +kernel
theorem dX1_valueAt_24 : decode cX1_valueAt 24 = .ok (.iaload, 1) := by decide +kernel
theorem dX1_valueAt_25 : decode cX1_valueAt 25 = .ok (.i2l, 1) := by decide +kernel
theorem dX1_valueAt_26 : decode cX1_valueAt 26 = .ok (.ldc2_w 27, 3) := by decide +kernel
theorem dX1_valueAt_29 : decode cX1_valueAt 29 = .ok (.land, 1) := by decide +kernel
theorem dX1_valueAt_30 : decode cX1_valueAt 30 = .ok (.lor, 1) := by decide +kernel
theorem dX1_valueAt_31 : decode cX1_valueAt 31 = .ok (.lreturn, 1) := by decide +kernel
theorem dX2_init_0 : decode cX2_init 0 = .ok (.aload_n 0, 1) := by decide +kernel
theorem dX2_init_1 : decode cX2_init 1 = .ok (.invokespecial 3, 3) := by decide +kernel
theorem dX2_init_4 : decode cX2_init 4 = .ok (.return_, 1) := by decide +kernel
theorem dX2_fences_0 : decode cX2_fences 0 = .ok (.iconst 4, 1) := by decide +kernel
theorem dX2_fences_1 : decode cX2_fences 1 = .ok (.ireturn, 1) := by decide +kernel
theorem dX2_homeOfKeys_0 : decode cX2_homeOfKeys 0 = .ok (.iconst 0, 1) := by decide +kernel
theorem dX2_homeOfKeys_1 : decode cX2_homeOfKeys 1 = .ok (.ireturn, 1) := by decide +kernel
theorem dX2_allIsWell_0 : decode cX2_allIsWell 0 = .ok (.aload_n 1, 1) := by decide +kernel
theorem dX2_allIsWell_1 : decode cX2_allIsWell 1 = .ok (.bipush 6, 2) := by decide +kernel
theorem dX2_allIsWell_3 : decode cX2_allIsWell 3 = .ok (.iaload, 1) := by decide +kernel
theorem dX2_allIsWell_4 : decode cX2_allIsWell 4 = .ok (.ifCond .ne 14, 3) := by decide +kernel
theorem dX2_allIsWell_7 : decode cX2_allIsWell 7 = .ok (.aload_n 1, 1) := by decide +kernel
theorem dX2_allIsWell_8 : decode cX2_allIsWell 8 = .ok (.bipush 7, 2) := by decide +kernel
theorem dX2_allIsWell_10 : decode cX2_allIsWell 10 = .ok (.iaload, 1) := by decide +kernel
theorem dX2_allIsWell_11 : decode cX2_allIsWell 11 = .ok (.ifCond .ne 7, 3) := by decide +kernel
theorem dX2_allIsWell_14 : decode cX2_allIsWell 14 = .ok (.iconst 1, 1) := by decide +kernel
theorem dX2_allIsWell_15 : decode cX2_allIsWell 15 = .ok (.goto 4, 3) := by decide +kernel
theorem dX2_allIsWell_18 : decode cX2_allIsWell 18 = .ok (.iconst 0, 1) := by decide +kernel
theorem dX2_allIsWell_19 : decode cX2_allIsWell 19 = .ok (.ireturn, 1) := by decide +kernel
theorem dX2_planChange_0 : decode cX2_planChange 0 = .ok (.iload 5, 2) := by decide +kernel
theorem dX2_planChange_2 : decode cX2_planChange 2 = .ok (.iconst (-1), 1) := by decide +kernel
theorem dX2_planChange_3 : decode cX2_planChange 3 = .ok (.if_icmp .ne 7, 3) := by decide +kernel
theorem dX2_planChange_6 : decode cX2_planChange 6 = .ok (.iconst 1, 1) := by decide +kernel
theorem dX2_planChange_7 : decode cX2_planChange 7 = .ok (.goto 4, 3) := by decide +kernel
theorem dX2_planChange_10 : decode cX2_planChange 10 = .ok (.iconst 2, 1) := by decide +kernel
theorem dX2_planChange_11 : decode cX2_planChange 11 = .ok (.istore 9, 2) := by decide +kernel
theorem dX2_planChange_13 : decode cX2_planChange 13 = .ok (.iload 9, 2) := by decide +kernel
theorem dX2_planChange_15 : decode cX2_planChange 15 = .ok (.iload_n 2, 1) := by decide +kernel
theorem dX2_planChange_16 : decode cX2_planChange 16 = .ok (.lload_n 3, 1) := by decide +kernel
theorem dX2_planChange_17 : decode cX2_planChange 17 = .ok (.invokestatic 11, 3) := by decide +kernel
theorem dX2_planChange_20 : decode cX2_planChange 20 = .ok (.lload_n 3, 1) := by decide +kernel
theorem dX2_planChange_21 : decode cX2_planChange 21 = .ok (.invokestatic 15, 3) := by decide +kernel
theorem dX2_planChange_24 : decode cX2_planChange 24 = .ok (.iload 5, 2) := by decide +kernel
theorem dX2_planChange_26 : decode cX2_planChange 26 = .ok (.lload 6, 2) := by decide +kernel
theorem dX2_planChange_28 : decode cX2_planChange 28 = .ok (.invokestatic 11, 3) := by decide +kernel
theorem dX2_planChange_31 : decode cX2_planChange 31 = .ok (.lload 6, 2) := by decide +kernel
theorem dX2_planChange_33 : decode cX2_planChange 33 = .ok (.invokestatic 15, 3) := by decide +kernel
theorem dX2_planChange_36 : decode cX2_planChange 36 = .ok (.invokestatic 18, 3) := by decide +kernel
theorem dX2_planChange_39 : decode cX2_planChange 39 = .ok (.istore 10, 2) := by decide +kernel
theorem dX2_planChange_41 : decode cX2_planChange 41 = .ok (.aload 8, 2) := by decide +kernel
theorem dX2_planChange_43 : decode cX2_planChange 43 = .ok (.iconst 4, 1) := by decide +kernel
theorem dX2_planChange_44 : decode cX2_planChange 44 = .ok (.iload_n 2, 1) := by decide +kernel
theorem dX2_planChange_45 : decode cX2_planChange 45 = .ok (.lload_n 3, 1) := by decide +kernel
theorem dX2_planChange_46 : decode cX2_planChange 46 = .ok (.invokestatic 11, 3) := by decide +kernel
theorem dX2_planChange_49 : decode cX2_planChange 49 = .ok (.invokevirtual 22, 3) := by decide +kernel
theorem dX2_planChange_52 : decode cX2_planChange 52 = .ok (.aload 8, 2) := by decide +kernel
theorem dX2_planChange_54 : decode cX2_planChange 54 = .ok (.iconst 5, 1) := by decide +kernel
theorem dX2_planChange_55 : decode cX2_planChange 55 = .ok (.lload_n 3, 1) := by decide +kernel
theorem dX2_planChange_56 : decode cX2_planChange 56 = .ok (.invokestatic 15, 3) := by decide +kernel
theorem dX2_planChange_59 : decode cX2_planChange 59 = .ok (.iload 5, 2) := by decide +kernel
theorem dX2_planChange_61 : decode cX2_planChange 61 = .ok (.invokevirtual 22, 3) := by decide +kernel
theorem dX2_planChange_64 : decode cX2_planChange 64 = .ok (.aload 8, 2) := by decide +kernel
theorem dX2_planChange_66 : decode cX2_planChange 66 = .ok (.bipush 6, 2) := by decide +kernel
theorem dX2_planChange_68 : decode cX2_planChange 68 = .ok (.lload 6, 2) := by decide +kernel
theorem dX2_planChange_70 : decode cX2_planChange 70 = .ok (.invokestatic 11, 3) := by decide +kernel
theorem dX2_planChange_73 : decode cX2_planChange 73 = .ok (.lload 6, 2) := by decide +kernel
theorem dX2_planChange_75 : decode cX2_planChange 75 = .ok (.invokestatic 15, 3) := by decide +kernel
theorem dX2_planChange_78 : decode cX2_planChange 78 = .ok (.invokevirtual 22, 3) := by decide +kernel
theorem dX2_planChange_81 : decode cX2_planChange 81 = .ok (.aload 8, 2) := by decide +kernel
theorem dX2_planChange_83 : decode cX2_planChange 83 = .ok (.iconst 0, 1) := by decide +kernel
theorem dX2_planChange_84 : decode cX2_planChange 84 = .ok (.invokevirtual 28, 3) := by decide +kernel
theorem dX2_planChange_87 : decode cX2_planChange 87 = .ok (.aload 8, 2) := by decide +kernel
theorem dX2_planChange_89 : decode cX2_planChange 89 = .ok (.iconst 3, 1) := by decide +kernel
theorem dX2_planChange_90 : decode cX2_planChange 90 = .ok (.iload 9, 2) := by decide +kernel
theorem dX2_planChange_92 : decode cX2_planChange 92 = .ok (.iload 10, 2) := by decide +kernel
theorem dX2_planChange_94 : decode cX2_planChange 94 = .ok (.invokevirtual 22, 3) := by decide +kernel
theorem dX2_planChange_97 : decode cX2_planChange 97 = .ok (.aload 8, 2) := by decide +kernel
theorem dX2_planChange_99 : decode cX2_planChange 99 = .ok (.iconst 1, 1) := by decide +kernel
theorem dX2_planChange_100 : decode cX2_planChange 100 = .ok (.invokevirtual 28, 3) := by decide +kernel
theorem dX2_planChange_103 : decode cX2_planChange 103 = .ok (.aload 8, 2) := by decide +kernel
theorem dX2_planChange_105 : decode cX2_planChange 105 = .ok (.iload_n 2, 1) := by decide +kernel
theorem dX2_planChange_106 : decode cX2_planChange 106 = .ok (.lload_n 3, 1) := by decide +kernel
theorem dX2_planChange_107 : decode cX2_planChange 107 = .ok (.invokestatic 11, 3) := by decide +kernel
theorem dX2_planChange_110 : decode cX2_planChange 110 = .ok (.lload_n 3, 1) := by decide +kernel
theorem dX2_planChange_111 : decode cX2_planChange 111 = .ok (.invokestatic 15, 3) := by decide +kernel
theorem dX2_planChange_114 : decode cX2_planChange 114 = .ok (.invokevirtual 22, 3) := by decide +kernel
theorem dX2_planChange_117 : decode cX2_planChange 117 = .ok (.iload 5, 2) := by decide +kernel
theorem dX2_planChange_119 : decode cX2_planChange 119 = .ok (.iconst (-1), 1) := by decide +kernel
theorem dX2_planChange_120 : decode cX2_planChange 120 = .ok (.if_icmp .eq 20, 3) := by decide +kernel
theorem dX2_planChange_123 : decode cX2_planChange 123 = .ok (.aload 8, 2) := by decide +kernel
theorem dX2_planChange_125 : decode cX2_planChange 125 = .ok (.iload 5, 2) := by decide +kernel
theorem dX2_planChange_127 : decode cX2_planChange 127 = .ok (.lload 6, 2) := by decide +kernel
theorem dX2_planChange_129 : decode cX2_planChange 129 = .ok (.invokestatic 11, 3) := by decide +kernel
theorem dX2_planChange_132 : decode cX2_planChange 132 = .ok (.lload 6, 2) := by decide +kernel
theorem dX2_planChange_134 : decode cX2_planChange 134 = .ok (.invokestatic 15, 3) := by decide +kernel
theorem dX2_planChange_137 : decode cX2_planChange 137 = .ok (.invokevirtual 22, 3) := by decide +kernel
theorem dX2_planChange_140 : decode cX2_planChange 140 = .ok (.aload 8, 2) := by decide +kernel
theorem dX2_planChange_142 : decode cX2_planChange 142 = .ok (.iconst 2, 1) := by decide +kernel
theorem dX2_planChange_143 : decode cX2_planChange 143 = .ok (.invokevirtual 28, 3) := by decide +kernel
theorem dX2_planChange_146 : decode cX2_planChange 146 = .ok (.aload 8, 2) := by decide +kernel
theorem dX2_planChange_148 : decode cX2_planChange 148 = .ok (.invokestatic 32, 3) := by decide +kernel
theorem dX2_planChange_151 : decode cX2_planChange 151 = .ok (.return_, 1) := by decide +kernel
theorem dX2_planRising_0 : decode cX2_planRising 0 = .ok (.aload_n 1, 1) := by decide +kernel
theorem dX2_planRising_1 : decode cX2_planRising 1 = .ok (.invokestatic 36, 3) := by decide +kernel
theorem dX2_planRising_4 : decode cX2_planRising 4 = .ok (.ifCond .eq 62, 3) := by decide +kernel
theorem dX2_planRising_7 : decode cX2_planRising 7 = .ok (.bipush 8, 2) := by decide +kernel
theorem dX2_planRising_9 : decode cX2_planRising 9 = .ok (.istore_n 3, 1) := by decide +kernel
theorem dX2_planRising_10 : decode cX2_planRising 10 = .ok (.aload_n 2, 1) := by decide +kernel
theorem dX2_planRising_11 : decode cX2_planRising 11 = .ok (.aload_n 1, 1) := by decide +kernel
theorem dX2_planRising_12 : decode cX2_planRising 12 = .ok (.iload_n 3, 1) := by decide +kernel
theorem dX2_planRising_13 : decode cX2_planRising 13 = .ok (.iaload, 1) := by decide +kernel
theorem dX2_planRising_14 : decode cX2_planRising 14 = .ok (.aload_n 1, 1) := by decide +kernel
theorem dX2_planRising_15 : decode cX2_planRising 15 = .ok (.iload_n 3, 1) := by decide +kernel
theorem dX2_planRising_16 : decode cX2_planRising 16 = .ok (.iconst 1, 1) := by decide +kernel
theorem dX2_planRising_17 : decode cX2_planRising 17 = .ok (.iadd, 1) := by decide +kernel
theorem dX2_planRising_18 : decode cX2_planRising 18 = .ok (.iaload, 1) := by decide +kernel
theorem dX2_planRising_19 : decode cX2_planRising 19 = .ok (.aload_n 1, 1) := by decide +kernel
theorem dX2_planRising_20 : decode cX2_planRising 20 = .ok (.iload_n 3, 1) := by decide +kernel
theorem dX2_planRising_21 : decode cX2_planRising 21 = .ok (.iconst 2, 1) := by decide +kernel
theorem dX2_planRising_22 : decode cX2_planRising 22 = .ok (.iadd, 1) := by decide +kernel
theorem dX2_planRising_23 : decode cX2_planRising 23 = .ok (.iaload, 1) := by decide +kernel
theorem dX2_planRising_24 : decode cX2_planRising 24 = .ok (.invokevirtual 22, 3) := by decide +kernel
theorem dX2_planRising_27 : decode cX2_planRising 27 = .ok (.aload_n 1, 1) := by decide +kernel
theorem dX2_planRising_28 : decode cX2_planRising 28 = .ok (.bipush 6, 2) := by decide +kernel
theorem dX2_planRising_30 : decode cX2_planRising 30 = .ok (.iaload, 1) := by decide +kernel
theorem dX2_planRising_31 : decode cX2_planRising 31 = .ok (.iconst 2, 1) := by decide +kernel
theorem dX2_planRising_32 : decode cX2_planRising 32 = .ok (.if_icmp .ne 22, 3) := by decide +kernel
theorem dX2_planRising_35 : decode cX2_planRising 35 = .ok (.aload_n 2, 1) := by decide +kernel
theorem dX2_planRising_36 : decode cX2_planRising 36 = .ok (.aload_n 1, 1) := by decide +kernel
theorem dX2_planRising_37 : decode cX2_planRising 37 = .ok (.iload_n 3, 1) := by decide +kernel
theorem dX2_planRising_38 : decode cX2_planRising 38 = .ok (.iconst 3, 1) := by decide +kernel
theorem dX2_planRising_39 : decode cX2_planRising 39 = .ok (.iadd, 1) := by decide +kernel
theorem dX2_planRising_40 : decode cX2_planRising 40 = .ok (.iaload, 1) := by decide +kernel
theorem dX2_planRising_41 : decode cX2_planRising 41 = .ok (.aload_n 1, 1) := by decide +kernel
theorem dX2_planRising_42 : decode cX2_planRising 42 = .ok (.iload_n 3, 1) := by decide +kernel
theorem dX2_planRising_43 : decode cX2_planRising 43 = .ok (.iconst 4, 1) := by decide +kernel
theorem dX2_planRising_44 : decode cX2_planRising 44 = .ok (.iadd, 1) := by decide +kernel
theorem dX2_planRising_45 : decode cX2_planRising 45 = .ok (.iaload, 1) := by decide +kernel
theorem dX2_planRising_46 : decode cX2_planRising 46 = .ok (.aload_n 1, 1) := by decide +kernel
theorem dX2_planRising_47 : decode cX2_planRising 47 = .ok (.iload_n 3, 1) := by decide +kernel
theorem dX2_planRising_48 : decode cX2_planRising 48 = .ok (.iconst 5, 1) := by decide +kernel
theorem dX2_planRising_49 : decode cX2_planRising 49 = .ok (.iadd, 1) := by decide +kernel
theorem dX2_planRising_50 : decode cX2_planRising 50 = .ok (.iaload, 1) := by decide +kernel
theorem dX2_planRising_51 : decode cX2_planRising 51 = .ok (.invokevirtual 22, 3) := by decide +kernel
theorem dX2_planRising_54 : decode cX2_planRising 54 = .ok (.aload_n 2, 1) := by decide +kernel
theorem dX2_planRising_55 : decode cX2_planRising 55 = .ok (.iconst 2, 1) := by decide +kernel
theorem dX2_planRising_56 : decode cX2_planRising 56 = .ok (.invokevirtual 28, 3) := by decide +kernel
theorem dX2_planRising_59 : decode cX2_planRising 59 = .ok (.aload_n 2, 1) := by decide +kernel
theorem dX2_planRising_60 : decode cX2_planRising 60 = .ok (.invokestatic 32, 3) := by decide +kernel
theorem dX2_planRising_63 : decode cX2_planRising 63 = .ok (.goto 15, 3) := by decide +kernel
theorem dX2_planRising_66 : decode cX2_planRising 66 = .ok (.aload_n 0, 1) := by decide +kernel
theorem dX2_planRising_67 : decode cX2_planRising 67 = .ok (.aload_n 1, 1) := by decide +kernel
theorem dX2_planRising_68 : decode cX2_planRising 68 = .ok (.invokevirtual 40, 3) := by decide +kernel
theorem dX2_planRising_71 : decode cX2_planRising 71 = .ok (.ifCond .ne 7, 3) := by decide +kernel
theorem dX2_planRising_74 : decode cX2_planRising 74 = .ok (.aload_n 2, 1) := by decide +kernel
theorem dX2_planRising_75 : decode cX2_planRising 75 = .ok (.invokestatic 32, 3) := by decide +kernel
theorem dX2_planRising_78 : decode cX2_planRising 78 = .ok (.return_, 1) := by decide +kernel
theorem dX2_planUnmark_0 : decode cX2_planUnmark 0 = .ok (.aload_n 0, 1) := by decide +kernel
theorem dX2_planUnmark_1 : decode cX2_planUnmark 1 = .ok (.iconst 3, 1) := by decide +kernel
theorem dX2_planUnmark_2 : decode cX2_planUnmark 2 = .ok (.iconst 0, 1) := by decide +kernel
theorem dX2_planUnmark_3 : decode cX2_planUnmark 3 = .ok (.iconst 0, 1) := by decide +kernel
theorem dX2_planUnmark_4 : decode cX2_planUnmark 4 = .ok (.invokevirtual 22, 3) := by decide +kernel
theorem dX2_planUnmark_7 : decode cX2_planUnmark 7 = .ok (.aload_n 0, 1) := by decide +kernel
theorem dX2_planUnmark_8 : decode cX2_planUnmark 8 = .ok (.iconst 3, 1) := by decide +kernel
theorem dX2_planUnmark_9 : decode cX2_planUnmark 9 = .ok (.invokevirtual 28, 3) := by decide +kernel
theorem dX2_planUnmark_12 : decode cX2_planUnmark 12 = .ok (.return_, 1) := by decide +kernel
theorem dX2_isLogWhole_0 : decode cX2_isLogWhole 0 = .ok (.aload_n 0, 1) := by decide +kernel
theorem dX2_isLogWhole_1 : decode cX2_isLogWhole 1 = .ok (.bipush 6, 2) := by decide +kernel
theorem dX2_isLogWhole_3 : decode cX2_isLogWhole 3 = .ok (.iaload, 1) := by decide +kernel
theorem dX2_isLogWhole_4 : decode cX2_isLogWhole 4 = .ok (.istore_n 1, 1) := by decide +kernel
theorem dX2_isLogWhole_5 : decode cX2_isLogWhole 5 = .ok (.bipush 8, 2) := by decide +kernel
theorem dX2_isLogWhole_7 : decode cX2_isLogWhole 7 = .ok (.istore_n 2, 1) := by decide +kernel
theorem dX2_isLogWhole_8 : decode cX2_isLogWhole 8 = .ok (.iload_n 1, 1) := by decide +kernel
theorem dX2_isLogWhole_9 : decode cX2_isLogWhole 9 = .ok (.iconst 1, 1) := by decide +kernel
theorem dX2_isLogWhole_10 : decode cX2_isLogWhole 10 = .ok (.if_icmp .eq 8, 3) := by decide +kernel
theorem dX2_isLogWhole_13 : decode cX2_isLogWhole 13 = .ok (.iload_n 1, 1) := by decide +kernel
theorem dX2_isLogWhole_14 : decode cX2_isLogWhole 14 = .ok (.iconst 2, 1) := by decide +kernel
theorem dX2_isLogWhole_15 : decode cX2_isLogWhole 15 = .ok (.if_icmp .ne 12, 3) := by decide +kernel
theorem dX2_isLogWhole_18 : decode cX2_isLogWhole 18 = .ok (.aload_n 0, 1) := by decide +kernel
theorem dX2_isLogWhole_19 : decode cX2_isLogWhole 19 = .ok (.iload_n 2, 1) := by decide +kernel
theorem dX2_isLogWhole_20 : decode cX2_isLogWhole 20 = .ok (.iaload, 1) := by decide +kernel
theorem dX2_isLogWhole_21 : decode cX2_isLogWhole 21 = .ok (.invokestatic 43, 3) := by decide +kernel
theorem dX2_isLogWhole_24 : decode cX2_isLogWhole 24 = .ok (.ifCond .ne 5, 3) := by decide +kernel
theorem dX2_isLogWhole_27 : decode cX2_isLogWhole 27 = .ok (.iconst 0, 1) := by decide +kernel
theorem dX2_isLogWhole_28 : decode cX2_isLogWhole 28 = .ok (.ireturn, 1) := by decide +kernel
theorem dX2_isLogWhole_29 : decode cX2_isLogWhole 29 = .ok (.iload_n 1, 1) := by decide +kernel
theorem dX2_isLogWhole_30 : decode cX2_isLogWhole 30 = .ok (.iconst 2, 1) := by decide +kernel
theorem dX2_isLogWhole_31 : decode cX2_isLogWhole 31 = .ok (.if_icmp .ne 16, 3) := by decide +kernel
theorem dX2_isLogWhole_34 : decode cX2_isLogWhole 34 = .ok (.aload_n 0, 1) := by decide +kernel
theorem dX2_isLogWhole_35 : decode cX2_isLogWhole 35 = .ok (.iload_n 2, 1) := by decide +kernel
theorem dX2_isLogWhole_36 : decode cX2_isLogWhole 36 = .ok (.iconst 3, 1) := by decide +kernel
theorem dX2_isLogWhole_37 : decode cX2_isLogWhole 37 = .ok (.iadd, 1) := by decide +kernel
theorem dX2_isLogWhole_38 : decode cX2_isLogWhole 38 = .ok (.iaload, 1) := by decide +kernel
theorem dX2_isLogWhole_39 : decode cX2_isLogWhole 39 = .ok (.invokestatic 43, 3) := by decide +kernel
theorem dX2_isLogWhole_42 : decode cX2_isLogWhole 42 = .ok (.ifCond .ne 5, 3) := by decide +kernel
theorem dX2_isLogWhole_45 : decode cX2_isLogWhole 45 = .ok (.iconst 0, 1) := by decide +kernel
theorem dX2_isLogWhole_46 : decode cX2_isLogWhole 46 = .ok (.ireturn, 1) := by decide +kernel
theorem dX2_isLogWhole_47 : decode cX2_isLogWhole 47 = .ok (.aload_n 0, 1) := by decide +kernel
theorem dX2_isLogWhole_48 : decode cX2_isLogWhole 48 = .ok (.bipush 7, 2) := by decide +kernel
theorem dX2_isLogWhole_50 : decode cX2_isLogWhole 50 = .ok (.iaload, 1) := by decide +kernel
theorem dX2_isLogWhole_51 : decode cX2_isLogWhole 51 = .ok (.iload_n 1, 1) := by decide +kernel
theorem dX2_isLogWhole_52 : decode cX2_isLogWhole 52 = .ok (.aload_n 0, 1) := by decide +kernel
theorem dX2_isLogWhole_53 : decode cX2_isLogWhole 53 = .ok (.iload_n 2, 1) := by decide +kernel
theorem dX2_isLogWhole_54 : decode cX2_isLogWhole 54 = .ok (.iaload, 1) := by decide +kernel
theorem dX2_isLogWhole_55 : decode cX2_isLogWhole 55 = .ok (.aload_n 0, 1) := by decide +kernel
theorem dX2_isLogWhole_56 : decode cX2_isLogWhole 56 = .ok (.iload_n 2, 1) := by decide +kernel
theorem dX2_isLogWhole_57 : decode cX2_isLogWhole 57 = .ok (.iconst 1, 1) := by decide +kernel
theorem dX2_isLogWhole_58 : decode cX2_isLogWhole 58 = .ok (.iadd, 1) := by decide +kernel
theorem dX2_isLogWhole_59 : decode cX2_isLogWhole 59 = .ok (.iaload, 1) := by decide +kernel
theorem dX2_isLogWhole_60 : decode cX2_isLogWhole 60 = .ok (.aload_n 0, 1) := by decide +kernel
theorem dX2_isLogWhole_61 : decode cX2_isLogWhole 61 = .ok (.iload_n 2, 1) := by decide +kernel
theorem dX2_isLogWhole_62 : decode cX2_isLogWhole 62 = .ok (.iconst 2, 1) := by decide +kernel
theorem dX2_isLogWhole_63 : decode cX2_isLogWhole 63 = .ok (.iadd, 1) := by decide +kernel
theorem dX2_isLogWhole_64 : decode cX2_isLogWhole 64 = .ok (.iaload, 1) := by decide +kernel
theorem dX2_isLogWhole_65 : decode cX2_isLogWhole 65 = .ok (.aload_n 0, 1) := by decide +kernel
theorem dX2_isLogWhole_66 : decode cX2_isLogWhole 66 = .ok (.iload_n 2, 1) := by decide +kernel
theorem dX2_isLogWhole_67 : decode cX2_isLogWhole 67 = .ok (.iconst 3, 1) := by decide +kernel
theorem dX2_isLogWhole_68 : decode cX2_isLogWhole 68 = .ok (.iadd, 1) := by decide +kernel
theorem dX2_isLogWhole_69 : decode cX2_isLogWhole 69 = .ok (.iaload, 1) := by decide +kernel
theorem dX2_isLogWhole_70 : decode cX2_isLogWhole 70 = .ok (.aload_n 0, 1) := by decide +kernel
theorem dX2_isLogWhole_71 : decode cX2_isLogWhole 71 = .ok (.iload_n 2, 1) := by decide +kernel
theorem dX2_isLogWhole_72 : decode cX2_isLogWhole 72 = .ok (.iconst 4, 1) := by decide +kernel
theorem dX2_isLogWhole_73 : decode cX2_isLogWhole 73 = .ok (.iadd, 1) := by decide +kernel
theorem dX2_isLogWhole_74 : decode cX2_isLogWhole 74 = .ok (.iaload, 1) := by decide +kernel
theorem dX2_isLogWhole_75 : decode cX2_isLogWhole 75 = .ok (.aload_n 0, 1) := by decide +kernel
theorem dX2_isLogWhole_76 : decode cX2_isLogWhole 76 = .ok (.iload_n 2, 1) := by decide +kernel
theorem dX2_isLogWhole_77 : decode cX2_isLogWhole 77 = .ok (.iconst 5, 1) := by decide +kernel
theorem dX2_isLogWhole_78 : decode cX2_isLogWhole 78 = .ok (.iadd, 1) := by decide +kernel
theorem dX2_isLogWhole_79 : decode cX2_isLogWhole 79 = .ok (.iaload, 1) := by decide +kernel
theorem dX2_isLogWhole_80 : decode cX2_isLogWhole 80 = .ok (.invokestatic 18, 3) := by decide +kernel
theorem dX2_isLogWhole_83 : decode cX2_isLogWhole 83 = .ok (.if_icmp .ne 7, 3) := by decide +kernel
theorem dX2_isLogWhole_86 : decode cX2_isLogWhole 86 = .ok (.iconst 1, 1) := by decide +kernel
theorem dX2_isLogWhole_87 : decode cX2_isLogWhole 87 = .ok (.goto 4, 3) := by decide +kernel
theorem dX2_isLogWhole_90 : decode cX2_isLogWhole 90 = .ok (.iconst 0, 1) := by decide +kernel
theorem dX2_isLogWhole_91 : decode cX2_isLogWhole 91 = .ok (.ireturn, 1) := by decide +kernel
theorem dX2_sum_0 : decode cX2_sum 0 = .ok (.iload_n 0, 1) := by decide +kernel
theorem dX2_sum_1 : decode cX2_sum 1 = .ok (.istore 7, 2) := by decide +kernel
theorem dX2_sum_3 : decode cX2_sum 3 = .ok (.bipush 31, 2) := by decide +kernel
theorem dX2_sum_5 : decode cX2_sum 5 = .ok (.iload 7, 2) := by decide +kernel
theorem dX2_sum_7 : decode cX2_sum 7 = .ok (.imul, 1) := by decide +kernel
theorem dX2_sum_8 : decode cX2_sum 8 = .ok (.iload_n 1, 1) := by decide +kernel
theorem dX2_sum_9 : decode cX2_sum 9 = .ok (.iadd, 1) := by decide +kernel
theorem dX2_sum_10 : decode cX2_sum 10 = .ok (.istore 7, 2) := by decide +kernel
theorem dX2_sum_12 : decode cX2_sum 12 = .ok (.bipush 31, 2) := by decide +kernel
theorem dX2_sum_14 : decode cX2_sum 14 = .ok (.iload 7, 2) := by decide +kernel
theorem dX2_sum_16 : decode cX2_sum 16 = .ok (.imul, 1) := by decide +kernel
theorem dX2_sum_17 : decode cX2_sum 17 = .ok (.iload_n 2, 1) := by decide +kernel
theorem dX2_sum_18 : decode cX2_sum 18 = .ok (.iadd, 1) := by decide +kernel
theorem dX2_sum_19 : decode cX2_sum 19 = .ok (.istore 7, 2) := by decide +kernel
theorem dX2_sum_21 : decode cX2_sum 21 = .ok (.bipush 31, 2) := by decide +kernel
theorem dX2_sum_23 : decode cX2_sum 23 = .ok (.iload 7, 2) := by decide +kernel
theorem dX2_sum_25 : decode cX2_sum 25 = .ok (.imul, 1) := by decide +kernel
theorem dX2_sum_26 : decode cX2_sum 26 = .ok (.iload_n 3, 1) := by decide +kernel
theorem dX2_sum_27 : decode cX2_sum 27 = .ok (.iadd, 1) := by decide +kernel
theorem dX2_sum_28 : decode cX2_sum 28 = .ok (.istore 7, 2) := by decide +kernel
theorem dX2_sum_30 : decode cX2_sum 30 = .ok (.bipush 31, 2) := by decide +kernel
theorem dX2_sum_32 : decode cX2_sum 32 = .ok (.iload 7, 2) := by decide +kernel
theorem dX2_sum_34 : decode cX2_sum 34 = .ok (.imul, 1) := by decide +kernel
theorem dX2_sum_35 : decode cX2_sum 35 = .ok (.iload 4, 2) := by decide +kernel
theorem dX2_sum_37 : decode cX2_sum 37 = .ok (.iadd, 1) := by decide +kernel
theorem dX2_sum_38 : decode cX2_sum 38 = .ok (.istore 7, 2) := by decide +kernel
theorem dX2_sum_40 : decode cX2_sum 40 = .ok (.bipush 31, 2) := by decide +kernel
theorem dX2_sum_42 : decode cX2_sum 42 = .ok (.iload 7, 2) := by decide +kernel
theorem dX2_sum_44 : decode cX2_sum 44 = .ok (.imul, 1) := by decide +kernel
theorem dX2_sum_45 : decode cX2_sum 45 = .ok (.iload 5, 2) := by decide +kernel
theorem dX2_sum_47 : decode cX2_sum 47 = .ok (.iadd, 1) := by decide +kernel
theorem dX2_sum_48 : decode cX2_sum 48 = .ok (.istore 7, 2) := by decide +kernel
theorem dX2_sum_50 : decode cX2_sum 50 = .ok (.bipush 31, 2) := by decide +kernel
theorem dX2_sum_52 : decode cX2_sum 52 = .ok (.iload 7, 2) := by decide +kernel
theorem dX2_sum_54 : decode cX2_sum 54 = .ok (.imul, 1) := by decide +kernel
theorem dX2_sum_55 : decode cX2_sum 55 = .ok (.iload 6, 2) := by decide +kernel
theorem dX2_sum_57 : decode cX2_sum 57 = .ok (.iadd, 1) := by decide +kernel
theorem dX2_sum_58 : decode cX2_sum 58 = .ok (.istore 7, 2) := by decide +kernel
theorem dX2_sum_60 : decode cX2_sum 60 = .ok (.iconst 2, 1) := by decide +kernel
theorem dX2_sum_61 : decode cX2_sum 61 = .ok (.iload 7, 2) := by decide +kernel
theorem dX2_sum_63 : decode cX2_sum 63 = .ok (.imul, 1) := by decide +kernel
theorem dX2_sum_64 : decode cX2_sum 64 = .ok (.iconst 1, 1) := by decide +kernel
theorem dX2_sum_65 : decode cX2_sum 65 = .ok (.iadd, 1) := by decide +kernel
theorem dX2_sum_66 : decode cX2_sum 66 = .ok (.ireturn, 1) := by decide +kernel
theorem dX3_init_0 : decode cX3_init 0 = .ok (.aload_n 0, 1) := by decide +kernel
theorem dX3_init_1 : decode cX3_init 1 = .ok (.invokespecial 3, 3) := by decide +kernel
theorem dX3_init_4 : decode cX3_init 4 = .ok (.aload_n 0, 1) := by decide +kernel
theorem dX3_init_5 : decode cX3_init 5 = .ok (.new 9, 3) := by decide +kernel
theorem dX3_init_8 : decode cX3_init 8 = .ok (.dup, 1) := by decide +kernel
theorem dX3_init_9 : decode cX3_init 9 = .ok (.invokespecial 11, 3) := by decide +kernel
theorem dX3_init_12 : decode cX3_init 12 = .ok (.putfield 12, 3) := by decide +kernel
theorem dX3_init_15 : decode cX3_init 15 = .ok (.aload_n 0, 1) := by decide +kernel
theorem dX3_init_16 : decode cX3_init 16 = .ok (.new 18, 3) := by decide +kernel
theorem dX3_init_19 : decode cX3_init 19 = .ok (.dup, 1) := by decide +kernel
theorem dX3_init_20 : decode cX3_init 20 = .ok (.invokespecial 20, 3) := by decide +kernel
theorem dX3_init_23 : decode cX3_init 23 = .ok (.putfield 21, 3) := by decide +kernel
theorem dX3_init_26 : decode cX3_init 26 = .ok (.aload_n 0, 1) := by decide +kernel
theorem dX3_init_27 : decode cX3_init 27 = .ok (.new 25, 3) := by decide +kernel
theorem dX3_init_30 : decode cX3_init 30 = .ok (.dup, 1) := by decide +kernel
theorem dX3_init_31 : decode cX3_init 31 = .ok (.invokespecial 27, 3) := by decide +kernel
theorem dX3_init_34 : decode cX3_init 34 = .ok (.putfield 28, 3) := by decide +kernel
theorem dX3_init_37 : decode cX3_init 37 = .ok (.aload_n 0, 1) := by decide +kernel
theorem dX3_init_38 : decode cX3_init 38 = .ok (.new 25, 3) := by decide +kernel
theorem dX3_init_41 : decode cX3_init 41 = .ok (.dup, 1) := by decide +kernel
theorem dX3_init_42 : decode cX3_init 42 = .ok (.invokespecial 27, 3) := by decide +kernel
theorem dX3_init_45 : decode cX3_init 45 = .ok (.putfield 32, 3) := by decide +kernel
theorem dX3_init_48 : decode cX3_init 48 = .ok (.aload_n 0, 1) := by decide +kernel
theorem dX3_init_49 : decode cX3_init 49 = .ok (.bipush 9, 2) := by decide +kernel
theorem dX3_init_51 : decode cX3_init 51 = .ok (.bipush 6, 2) := by decide +kernel
theorem dX3_init_53 : decode cX3_init 53 = .ok (.multianewarray 35 2, 4) := by decide +kernel
theorem dX3_init_57 : decode cX3_init 57 = .ok (.putfield 37, 3) := by decide +kernel
theorem dX3_init_60 : decode cX3_init 60 = .ok (.aload_n 0, 1) := by decide +kernel
theorem dX3_init_61 : decode cX3_init 61 = .ok (.bipush 32, 2) := by decide +kernel
theorem dX3_init_63 : decode cX3_init 63 = .ok (.newarray .int, 2) := by decide +kernel
theorem dX3_init_65 : decode cX3_init 65 = .ok (.putfield 40, 3) := by decide +kernel
theorem dX3_init_68 : decode cX3_init 68 = .ok (.aload_n 0, 1) := by decide +kernel
theorem dX3_init_69 : decode cX3_init 69 = .ok (.bipush 6, 2) := by decide +kernel
theorem dX3_init_71 : decode cX3_init 71 = .ok (.newarray .int, 2) := by decide +kernel
theorem dX3_init_73 : decode cX3_init 73 = .ok (.putfield 44, 3) := by decide +kernel
theorem dX3_init_76 : decode cX3_init 76 = .ok (.aload_n 0, 1) := by decide +kernel
theorem dX3_init_77 : decode cX3_init 77 = .ok (.new 47, 3) := by decide +kernel
theorem dX3_init_80 : decode cX3_init 80 = .ok (.dup, 1) := by decide +kernel
theorem dX3_init_81 : decode cX3_init 81 = .ok (.invokespecial 49, 3) := by decide +kernel
theorem dX3_init_84 : decode cX3_init 84 = .ok (.putfield 50, 3) := by decide +kernel
theorem dX3_init_87 : decode cX3_init 87 = .ok (.aload_n 0, 1) := by decide +kernel
theorem dX3_init_88 : decode cX3_init 88 = .ok (.new 54, 3) := by decide +kernel
theorem dX3_init_91 : decode cX3_init 91 = .ok (.dup, 1) := by decide +kernel
theorem dX3_init_92 : decode cX3_init 92 = .ok (.invokespecial 56, 3) := by decide +kernel
theorem dX3_init_95 : decode cX3_init 95 = .ok (.putfield 57, 3) := by decide +kernel
theorem dX3_init_98 : decode cX3_init 98 = .ok (.aload_n 0, 1) := by decide +kernel
theorem dX3_init_99 : decode cX3_init 99 = .ok (.new 54, 3) := by decide +kernel
theorem dX3_init_102 : decode cX3_init 102 = .ok (.dup, 1) := by decide +kernel
theorem dX3_init_103 : decode cX3_init 103 = .ok (.invokespecial 56, 3) := by decide +kernel
theorem dX3_init_106 : decode cX3_init 106 = .ok (.putfield 61, 3) := by decide +kernel
theorem dX3_init_109 : decode cX3_init 109 = .ok (.aload_n 0, 1) := by decide +kernel
theorem dX3_init_110 : decode cX3_init 110 = .ok (.iconst 0, 1) := by decide +kernel
theorem dX3_init_111 : decode cX3_init 111 = .ok (.putfield 64, 3) := by decide +kernel
theorem dX3_init_114 : decode cX3_init 114 = .ok (.aload_n 0, 1) := by decide +kernel
theorem dX3_init_115 : decode cX3_init 115 = .ok (.iconst 0, 1) := by decide +kernel
theorem dX3_init_116 : decode cX3_init 116 = .ok (.putfield 68, 3) := by decide +kernel
theorem dX3_init_119 : decode cX3_init 119 = .ok (.aload_n 0, 1) := by decide +kernel
theorem dX3_init_120 : decode cX3_init 120 = .ok (.iconst 0, 1) := by decide +kernel
theorem dX3_init_121 : decode cX3_init 121 = .ok (.putfield 71, 3) := by decide +kernel
theorem dX3_init_124 : decode cX3_init 124 = .ok (.aload_n 0, 1) := by decide +kernel
theorem dX3_init_125 : decode cX3_init 125 = .ok (.iconst 0, 1) := by decide +kernel
theorem dX3_init_126 : decode cX3_init 126 = .ok (.putfield 74, 3) := by decide +kernel
theorem dX3_init_129 : decode cX3_init 129 = .ok (.return_, 1) := by decide +kernel
theorem dX3_walk_0 : decode cX3_walk 0 = .ok (.aload_n 0, 1) := by decide +kernel
theorem dX3_walk_1 : decode cX3_walk 1 = .ok (.aload_n 1, 1) := by decide +kernel
theorem dX3_walk_2 : decode cX3_walk 2 = .ok (.putfield 50, 3) := by decide +kernel
theorem dX3_walk_5 : decode cX3_walk 5 = .ok (.aload_n 0, 1) := by decide +kernel
theorem dX3_walk_6 : decode cX3_walk 6 = .ok (.iload_n 2, 1) := by decide +kernel
theorem dX3_walk_7 : decode cX3_walk 7 = .ok (.putfield 64, 3) := by decide +kernel
theorem dX3_walk_10 : decode cX3_walk 10 = .ok (.aload_n 0, 1) := by decide +kernel
theorem dX3_walk_11 : decode cX3_walk 11 = .ok (.iload 4, 2) := by decide +kernel
theorem dX3_walk_13 : decode cX3_walk 13 = .ok (.putfield 74, 3) := by decide +kernel
theorem dX3_walk_16 : decode cX3_walk 16 = .ok (.aload_n 0, 1) := by decide +kernel
theorem dX3_walk_17 : decode cX3_walk 17 = .ok (.iconst 0, 1) := by decide +kernel
theorem dX3_walk_18 : decode cX3_walk 18 = .ok (.putfield 68, 3) := by decide +kernel
theorem dX3_walk_21 : decode cX3_walk 21 = .ok (.aload_n 0, 1) := by decide +kernel
theorem dX3_walk_22 : decode cX3_walk 22 = .ok (.iconst 0, 1) := by decide +kernel
theorem dX3_walk_23 : decode cX3_walk 23 = .ok (.putfield 71, 3) := by decide +kernel
theorem dX3_walk_26 : decode cX3_walk 26 = .ok (.aload_n 0, 1) := by decide +kernel
theorem dX3_walk_27 : decode cX3_walk 27 = .ok (.getfield 61, 3) := by decide +kernel
theorem dX3_walk_30 : decode cX3_walk 30 = .ok (.invokevirtual 78, 3) := by decide +kernel
theorem dX3_walk_33 : decode cX3_walk 33 = .ok (.aload_n 3, 1) := by decide +kernel
theorem dX3_walk_34 : decode cX3_walk 34 = .ok (.aload_n 0, 1) := by decide +kernel
theorem dX3_walk_35 : decode cX3_walk 35 = .ok (.getfield 37, 3) := by decide +kernel
theorem dX3_walk_38 : decode cX3_walk 38 = .ok (.invokevirtual 81, 3) := by decide +kernel
theorem dX3_walk_41 : decode cX3_walk 41 = .ok (.aload_n 0, 1) := by decide +kernel
theorem dX3_walk_42 : decode cX3_walk 42 = .ok (.getfield 12, 3) := by decide +kernel
theorem dX3_walk_45 : decode cX3_walk 45 = .ok (.aload_n 1, 1) := by decide +kernel
theorem dX3_walk_46 : decode cX3_walk 46 = .ok (.invokevirtual 87, 3) := by decide +kernel
theorem dX3_walk_49 : decode cX3_walk 49 = .ok (.aload_n 0, 1) := by decide +kernel
theorem dX3_walk_50 : decode cX3_walk 50 = .ok (.invokevirtual 91, 3) := by decide +kernel
theorem dX3_walk_53 : decode cX3_walk 53 = .ok (.istore 5, 2) := by decide +kernel
theorem dX3_walk_55 : decode cX3_walk 55 = .ok (.iconst 0, 1) := by decide +kernel
theorem dX3_walk_56 : decode cX3_walk 56 = .ok (.istore 6, 2) := by decide +kernel
theorem dX3_walk_58 : decode cX3_walk 58 = .ok (.iload 6, 2) := by decide +kernel
theorem dX3_walk_60 : decode cX3_walk 60 = .ok (.aload_n 3, 1) := by decide +kernel
theorem dX3_walk_61 : decode cX3_walk 61 = .ok (.getfield 95, 3) := by decide +kernel
theorem dX3_walk_64 : decode cX3_walk 64 = .ok (.if_icmp .ge 49, 3) := by decide +kernel
theorem dX3_walk_67 : decode cX3_walk 67 = .ok (.iload 5, 2) := by decide +kernel
theorem dX3_walk_69 : decode cX3_walk 69 = .ok (.ifCond .eq 44, 3) := by decide +kernel
theorem dX3_walk_72 : decode cX3_walk 72 = .ok (.aload_n 0, 1) := by decide +kernel
theorem dX3_walk_73 : decode cX3_walk 73 = .ok (.iload 6, 2) := by decide +kernel
theorem dX3_walk_75 : decode cX3_walk 75 = .ok (.iconst 1, 1) := by decide +kernel
theorem dX3_walk_76 : decode cX3_walk 76 = .ok (.iadd, 1) := by decide +kernel
theorem dX3_walk_77 : decode cX3_walk 77 = .ok (.putfield 68, 3) := by decide +kernel
theorem dX3_walk_80 : decode cX3_walk 80 = .ok (.aload_n 3, 1) := by decide +kernel
theorem dX3_walk_81 : decode cX3_walk 81 = .ok (.getfield 98, 3) := by decide +kernel
theorem dX3_walk_84 : decode cX3_walk 84 = .ok (.iload 6, 2) := by decide +kernel
theorem dX3_walk_86 : decode cX3_walk 86 = .ok (.iaload, 1) := by decide +kernel
theorem dX3_walk_87 : decode cX3_walk 87 = .ok (.iconst 2, 1) := by decide +kernel
theorem dX3_walk_88 : decode cX3_walk 88 = .ok (.if_icmp .ne 10, 3) := by decide +kernel
theorem dX3_walk_91 : decode cX3_walk 91 = .ok (.aload_n 0, 1) := by decide +kernel
theorem dX3_walk_92 : decode cX3_walk 92 = .ok (.invokevirtual 101, 3) := by decide +kernel
theorem dX3_walk_95 : decode cX3_walk 95 = .ok (.goto 10, 3) := by decide +kernel
theorem dX3_walk_98 : decode cX3_walk 98 = .ok (.aload_n 0, 1) := by decide +kernel
theorem dX3_walk_99 : decode cX3_walk 99 = .ok (.aload_n 3, 1) := by decide +kernel
theorem dX3_walk_100 : decode cX3_walk 100 = .ok (.iload 6, 2) := by decide +kernel
theorem dX3_walk_102 : decode cX3_walk 102 = .ok (.invokevirtual 104, 3) := by decide +kernel
theorem dX3_walk_105 : decode cX3_walk 105 = .ok (.istore 5, 2) := by decide +kernel
theorem dX3_walk_107 : decode cX3_walk 107 = .ok (.iinc 6 1, 3) := by decide +kernel
theorem dX3_walk_110 : decode cX3_walk 110 = .ok (.goto (-52), 3) := by decide +kernel
theorem dX3_walk_113 : decode cX3_walk 113 = .ok (.iload 5, 2) := by decide +kernel
theorem dX3_walk_115 : decode cX3_walk 115 = .ok (.ireturn, 1) := by decide +kernel
theorem dX3_keepReport_0 : decode cX3_keepReport 0 = .ok (.aload_n 0, 1) := by decide +kernel
theorem dX3_keepReport_1 : decode cX3_keepReport 1 = .ok (.getfield 57, 3) := by decide +kernel
theorem dX3_keepReport_4 : decode cX3_keepReport 4 = .ok (.astore_n 1, 1) := by decide +kernel
theorem dX3_keepReport_5 : decode cX3_keepReport 5 = .ok (.aload_n 0, 1) := by decide +kernel
theorem dX3_keepReport_6 : decode cX3_keepReport 6 = .ok (.aload_n 0, 1) := by decide +kernel
theorem dX3_keepReport_7 : decode cX3_keepReport 7 = .ok (.getfield 61, 3) := by decide +kernel
theorem dX3_keepReport_10 : decode cX3_keepReport 10 = .ok (.putfield 57, 3) := by decide +kernel
theorem dX3_keepReport_13 : decode cX3_keepReport 13 = .ok (.aload_n 0, 1) := by decide +kernel
theorem dX3_keepReport_14 : decode cX3_keepReport 14 = .ok (.aload_n 1, 1) := by decide +kernel
theorem dX3_keepReport_15 : decode cX3_keepReport 15 = .ok (.putfield 61, 3) := by decide +kernel
theorem dX3_keepReport_18 : decode cX3_keepReport 18 = .ok (.return_, 1) := by decide +kernel
theorem dX3_makeSure_0 : decode cX3_makeSure 0 = .ok (.aload_n 0, 1) := by decide +kernel
theorem dX3_makeSure_1 : decode cX3_makeSure 1 = .ok (.getfield 12, 3) := by decide +kernel
theorem dX3_makeSure_4 : decode cX3_makeSure 4 = .ok (.invokevirtual 108, 3) := by decide +kernel
theorem dX3_makeSure_7 : decode cX3_makeSure 7 = .ok (.aload_n 0, 1) := by decide +kernel
theorem dX3_makeSure_8 : decode cX3_makeSure 8 = .ok (.aload_n 0, 1) := by decide +kernel
theorem dX3_makeSure_9 : decode cX3_makeSure 9 = .ok (.getfield 68, 3) := by decide +kernel
theorem dX3_makeSure_12 : decode cX3_makeSure 12 = .ok (.putfield 71, 3) := by decide +kernel
theorem dX3_makeSure_15 : decode cX3_makeSure 15 = .ok (.aload_n 0, 1) := by decide +kernel
theorem dX3_makeSure_16 : decode cX3_makeSure 16 = .ok (.getfield 61, 3) := by decide +kernel
theorem dX3_makeSure_19 : decode cX3_makeSure 19 = .ok (.getfield 111, 3) := by decide +kernel
theorem dX3_makeSure_22 : decode cX3_makeSure 22 = .ok (.iconst 5, 1) := by decide +kernel
theorem dX3_makeSure_23 : decode cX3_makeSure 23 = .ok (.dup2, 1) := by decide +kernel
theorem dX3_makeSure_24 : decode cX3_makeSure 24 = .ok (.iaload, 1) := by decide +kernel
theorem dX3_makeSure_25 : decode cX3_makeSure 25 = .ok (.iconst 1, 1) := by decide +kernel
theorem dX3_makeSure_26 : decode cX3_makeSure 26 = .ok (.iadd, 1) := by decide +kernel
theorem dX3_makeSure_27 : decode cX3_makeSure 27 = .ok (.iastore, 1) := by decide +kernel
theorem dX3_makeSure_28 : decode cX3_makeSure 28 = .ok (.aload_n 0, 1) := by decide +kernel
theorem dX3_makeSure_29 : decode cX3_makeSure 29 = .ok (.invokevirtual 91, 3) := by decide +kernel
theorem dX3_makeSure_32 : decode cX3_makeSure 32 = .ok (.ireturn, 1) := by decide +kernel
theorem dX3_change_0 : decode cX3_change 0 = .ok (.aload_n 0, 1) := by decide +kernel
theorem dX3_change_1 : decode cX3_change 1 = .ok (.getfield 28, 3) := by decide +kernel
theorem dX3_change_4 : decode cX3_change 4 = .ok (.aload_n 0, 1) := by decide +kernel
theorem dX3_change_5 : decode cX3_change 5 = .ok (.getfield 64, 3) := by decide +kernel
theorem dX3_change_8 : decode cX3_change 8 = .ok (.invokevirtual 114, 3) := by decide +kernel
theorem dX3_change_11 : decode cX3_change 11 = .ok (.aload_n 1, 1) := by decide +kernel
theorem dX3_change_12 : decode cX3_change 12 = .ok (.getfield 98, 3) := by decide +kernel
theorem dX3_change_15 : decode cX3_change 15 = .ok (.iload_n 2, 1) := by decide +kernel
theorem dX3_change_16 : decode cX3_change 16 = .ok (.iaload, 1) := by decide +kernel
theorem dX3_change_17 : decode cX3_change 17 = .ok (.ifCond .ne 36, 3) := by decide +kernel
theorem dX3_change_20 : decode cX3_change 20 = .ok (.aload_n 0, 1) := by decide +kernel
theorem dX3_change_21 : decode cX3_change 21 = .ok (.getfield 50, 3) := by decide +kernel
theorem dX3_change_24 : decode cX3_change 24 = .ok (.aload_n 0, 1) := by decide +kernel
theorem dX3_change_25 : decode cX3_change 25 = .ok (.getfield 12, 3) := by decide +kernel
theorem dX3_change_28 : decode cX3_change 28 = .ok (.getfield 117, 3) := by decide +kernel
theorem dX3_change_31 : decode cX3_change 31 = .ok (.aload_n 1, 1) := by decide +kernel
theorem dX3_change_32 : decode cX3_change 32 = .ok (.getfield 120, 3) := by decide +kernel
theorem dX3_change_35 : decode cX3_change 35 = .ok (.iload_n 2, 1) := by decide +kernel
theorem dX3_change_36 : decode cX3_change 36 = .ok (.iaload, 1) := by decide +kernel
theorem dX3_change_37 : decode cX3_change 37 = .ok (.aload_n 1, 1) := by decide +kernel
theorem dX3_change_38 : decode cX3_change 38 = .ok (.getfield 123, 3) := by decide +kernel
theorem dX3_change_41 : decode cX3_change 41 = .ok (.iload_n 2, 1) := by decide +kernel
theorem dX3_change_42 : decode cX3_change 42 = .ok (.laload, 1) := by decide +kernel
theorem dX3_change_43 : decode cX3_change 43 = .ok (.aload_n 0, 1) := by decide +kernel
theorem dX3_change_44 : decode cX3_change 44 = .ok (.getfield 28, 3) := by decide +kernel
theorem dX3_change_47 : decode cX3_change 47 = .ok (.invokevirtual 127, 3) := by decide +kernel
theorem dX3_change_50 : decode cX3_change 50 = .ok (.goto 33, 3) := by decide +kernel
theorem dX3_change_53 : decode cX3_change 53 = .ok (.aload_n 0, 1) := by decide +kernel
theorem dX3_change_54 : decode cX3_change 54 = .ok (.getfield 50, 3) := by decide +kernel
theorem dX3_change_57 : decode cX3_change 57 = .ok (.aload_n 0, 1) := by decide +kernel
theorem dX3_change_58 : decode cX3_change 58 = .ok (.getfield 12, 3) := by decide +kernel
theorem dX3_change_61 : decode cX3_change 61 = .ok (.getfield 117, 3) := by decide +kernel
theorem dX3_change_64 : decode cX3_change 64 = .ok (.aload_n 1, 1) := by decide +kernel
theorem dX3_change_65 : decode cX3_change 65 = .ok (.getfield 120, 3) := by decide +kernel
theorem dX3_change_68 : decode cX3_change 68 = .ok (.iload_n 2, 1) := by decide +kernel
theorem dX3_change_69 : decode cX3_change 69 = .ok (.iaload, 1) := by decide +kernel
theorem dX3_change_70 : decode cX3_change 70 = .ok (.aload_n 1, 1) := by decide +kernel
theorem dX3_change_71 : decode cX3_change 71 = .ok (.getfield 133, 3) := by decide +kernel
theorem dX3_change_74 : decode cX3_change 74 = .ok (.iload_n 2, 1) := by decide +kernel
theorem dX3_change_75 : decode cX3_change 75 = .ok (.iaload, 1) := by decide +kernel
theorem dX3_change_76 : decode cX3_change 76 = .ok (.aload_n 0, 1) := by decide +kernel
theorem dX3_change_77 : decode cX3_change 77 = .ok (.getfield 28, 3) := by decide +kernel
theorem dX3_change_80 : decode cX3_change 80 = .ok (.invokevirtual 136, 3) := by decide +kernel
theorem dX3_change_83 : decode cX3_change 83 = .ok (.aload_n 0, 1) := by decide +kernel
theorem dX3_change_84 : decode cX3_change 84 = .ok (.getfield 12, 3) := by decide +kernel
theorem dX3_change_87 : decode cX3_change 87 = .ok (.aload_n 0, 1) := by decide +kernel
theorem dX3_change_88 : decode cX3_change 88 = .ok (.getfield 28, 3) := by decide +kernel
theorem dX3_change_91 : decode cX3_change 91 = .ok (.getfield 140, 3) := by decide +kernel
theorem dX3_change_94 : decode cX3_change 94 = .ok (.invokevirtual 143, 3) := by decide +kernel
theorem dX3_change_97 : decode cX3_change 97 = .ok (.istore_n 3, 1) := by decide +kernel
theorem dX3_change_98 : decode cX3_change 98 = .ok (.iconst 0, 1) := by decide +kernel
theorem dX3_change_99 : decode cX3_change 99 = .ok (.istore 4, 2) := by decide +kernel
theorem dX3_change_101 : decode cX3_change 101 = .ok (.iload 4, 2) := by decide +kernel
theorem dX3_change_103 : decode cX3_change 103 = .ok (.aload_n 0, 1) := by decide +kernel
theorem dX3_change_104 : decode cX3_change 104 = .ok (.getfield 28, 3) := by decide +kernel
theorem dX3_change_107 : decode cX3_change 107 = .ok (.getfield 140, 3) := by decide +kernel
theorem dX3_change_110 : decode cX3_change 110 = .ok (.if_icmp .ge 72, 3) := by decide +kernel
theorem dX3_change_113 : decode cX3_change 113 = .ok (.iload_n 3, 1) := by decide +kernel
theorem dX3_change_114 : decode cX3_change 114 = .ok (.ifCond .eq 68, 3) := by decide +kernel
theorem dX3_change_117 : decode cX3_change 117 = .ok (.aload_n 0, 1) := by decide +kernel
theorem dX3_change_118 : decode cX3_change 118 = .ok (.getfield 12, 3) := by decide +kernel
theorem dX3_change_121 : decode cX3_change 121 = .ok (.aload_n 0, 1) := by decide +kernel
theorem dX3_change_122 : decode cX3_change 122 = .ok (.getfield 28, 3) := by decide +kernel
theorem dX3_change_125 : decode cX3_change 125 = .ok (.iload 4, 2) := by decide +kernel
theorem dX3_change_127 : decode cX3_change 127 = .ok (.invokevirtual 147, 3) := by decide +kernel
theorem dX3_change_130 : decode cX3_change 130 = .ok (.aload_n 0, 1) := by decide +kernel
theorem dX3_change_131 : decode cX3_change 131 = .ok (.getfield 28, 3) := by decide +kernel
theorem dX3_change_134 : decode cX3_change 134 = .ok (.iload 4, 2) := by decide +kernel
theorem dX3_change_136 : decode cX3_change 136 = .ok (.invokevirtual 151, 3) := by decide +kernel
theorem dX3_change_139 : decode cX3_change 139 = .ok (.ifCond .eq 19, 3) := by decide +kernel
theorem dX3_change_142 : decode cX3_change 142 = .ok (.aload_n 0, 1) := by decide +kernel
theorem dX3_change_143 : decode cX3_change 143 = .ok (.getfield 61, 3) := by decide +kernel
theorem dX3_change_146 : decode cX3_change 146 = .ok (.getfield 111, 3) := by decide +kernel
theorem dX3_change_149 : decode cX3_change 149 = .ok (.iconst 4, 1) := by decide +kernel
theorem dX3_change_150 : decode cX3_change 150 = .ok (.dup2, 1) := by decide +kernel
theorem dX3_change_151 : decode cX3_change 151 = .ok (.iaload, 1) := by decide +kernel
theorem dX3_change_152 : decode cX3_change 152 = .ok (.iconst 1, 1) := by decide +kernel
theorem dX3_change_153 : decode cX3_change 153 = .ok (.iadd, 1) := by decide +kernel
theorem dX3_change_154 : decode cX3_change 154 = .ok (.iastore, 1) := by decide +kernel
theorem dX3_change_155 : decode cX3_change 155 = .ok (.goto 21, 3) := by decide +kernel
theorem dX3_change_158 : decode cX3_change 158 = .ok (.aload_n 0, 1) := by decide +kernel
theorem dX3_change_159 : decode cX3_change 159 = .ok (.getfield 61, 3) := by decide +kernel
theorem dX3_change_162 : decode cX3_change 162 = .ok (.getfield 111, 3) := by decide +kernel
theorem dX3_change_165 : decode cX3_change 165 = .ok (.iconst 3, 1) := by decide +kernel
theorem dX3_change_166 : decode cX3_change 166 = .ok (.dup2, 1) := by decide +kernel
theorem dX3_change_167 : decode cX3_change 167 = .ok (.iaload, 1) := by decide +kernel
theorem dX3_change_168 : decode cX3_change 168 = .ok (.iconst 1, 1) := by decide +kernel
theorem dX3_change_169 : decode cX3_change 169 = .ok (.iadd, 1) := by decide +kernel
theorem dX3_change_170 : decode cX3_change 170 = .ok (.iastore, 1) := by decide +kernel
theorem dX3_change_171 : decode cX3_change 171 = .ok (.aload_n 0, 1) := by decide +kernel
theorem dX3_change_172 : decode cX3_change 172 = .ok (.invokevirtual 91, 3) := by decide +kernel
theorem dX3_change_175 : decode cX3_change 175 = .ok (.istore_n 3, 1) := by decide +kernel
theorem dX3_change_176 : decode cX3_change 176 = .ok (.iinc 4 1, 3) := by decide +kernel
theorem dX3_change_179 : decode cX3_change 179 = .ok (.goto (-78), 3) := by decide +kernel
theorem dX3_change_182 : decode cX3_change 182 = .ok (.iload_n 3, 1) := by decide +kernel
theorem dX3_change_183 : decode cX3_change 183 = .ok (.ireturn, 1) := by decide +kernel
theorem dX3_lookAround_0 : decode cX3_lookAround 0 = .ok (.aload_n 0, 1) := by decide +kernel
theorem dX3_lookAround_1 : decode cX3_lookAround 1 = .ok (.getfield 21, 3) := by decide +kernel
theorem dX3_lookAround_4 : decode cX3_lookAround 4 = .ok (.aload_n 0, 1) := by decide +kernel
theorem dX3_lookAround_5 : decode cX3_lookAround 5 = .ok (.getfield 12, 3) := by decide +kernel
theorem dX3_lookAround_8 : decode cX3_lookAround 8 = .ok (.invokevirtual 154, 3) := by decide +kernel
theorem dX3_lookAround_11 : decode cX3_lookAround 11 = .ok (.aload_n 0, 1) := by decide +kernel
theorem dX3_lookAround_12 : decode cX3_lookAround 12 = .ok (.getfield 21, 3) := by decide +kernel
theorem dX3_lookAround_15 : decode cX3_lookAround 15 = .ok (.getfield 158, 3) := by decide +kernel
theorem dX3_lookAround_18 : decode cX3_lookAround 18 = .ok (.istore_n 1, 1) := by decide +kernel
theorem dX3_lookAround_19 : decode cX3_lookAround 19 = .ok (.iload_n 1, 1) := by decide +kernel
theorem dX3_lookAround_20 : decode cX3_lookAround 20 = .ok (.sipush 4096, 3) := by decide +kernel
theorem dX3_lookAround_23 : decode cX3_lookAround 23 = .ok (.if_icmp .le 5, 3) := by decide +kernel
theorem dX3_lookAround_26 : decode cX3_lookAround 26 = .ok (.iconst 0, 1) := by decide +kernel
theorem dX3_lookAround_27 : decode cX3_lookAround 27 = .ok (.ireturn, 1) := by decide +kernel
theorem dX3_lookAround_28 : decode cX3_lookAround 28 = .ok (.iconst 0, 1) := by decide +kernel
theorem dX3_lookAround_29 : decode cX3_lookAround 29 = .ok (.istore_n 2, 1) := by decide +kernel
theorem dX3_lookAround_30 : decode cX3_lookAround 30 = .ok (.iload_n 2, 1) := by decide +kernel
theorem dX3_lookAround_31 : decode cX3_lookAround 31 = .ok (.iload_n 1, 1) := by decide +kernel
theorem dX3_lookAround_32 : decode cX3_lookAround 32 = .ok (.if_icmp .ge 40, 3) := by decide +kernel
theorem dX3_lookAround_35 : decode cX3_lookAround 35 = .ok (.aload_n 0, 1) := by decide +kernel
theorem dX3_lookAround_36 : decode cX3_lookAround 36 = .ok (.getfield 21, 3) := by decide +kernel
theorem dX3_lookAround_39 : decode cX3_lookAround 39 = .ok (.iload_n 2, 1) := by decide +kernel
theorem dX3_lookAround_40 : decode cX3_lookAround 40 = .ok (.invokevirtual 161, 3) := by decide +kernel
theorem dX3_lookAround_43 : decode cX3_lookAround 43 = .ok (.aload_n 0, 1) := by decide +kernel
theorem dX3_lookAround_44 : decode cX3_lookAround 44 = .ok (.aload_n 0, 1) := by decide +kernel
theorem dX3_lookAround_45 : decode cX3_lookAround 45 = .ok (.getfield 21, 3) := by decide +kernel
theorem dX3_lookAround_48 : decode cX3_lookAround 48 = .ok (.getfield 164, 3) := by decide +kernel
theorem dX3_lookAround_51 : decode cX3_lookAround 51 = .ok (.invokevirtual 167, 3) := by decide +kernel
theorem dX3_lookAround_54 : decode cX3_lookAround 54 = .ok (.aload_n 0, 1) := by decide +kernel
theorem dX3_lookAround_55 : decode cX3_lookAround 55 = .ok (.invokevirtual 171, 3) := by decide +kernel
theorem dX3_lookAround_58 : decode cX3_lookAround 58 = .ok (.ifCond .ne 8, 3) := by decide +kernel
theorem dX3_lookAround_61 : decode cX3_lookAround 61 = .ok (.aload_n 0, 1) := by decide +kernel
theorem dX3_lookAround_62 : decode cX3_lookAround 62 = .ok (.iload_n 2, 1) := by decide +kernel
theorem dX3_lookAround_63 : decode cX3_lookAround 63 = .ok (.invokevirtual 174, 3) := by decide +kernel
theorem dX3_lookAround_66 : decode cX3_lookAround 66 = .ok (.iinc 2 1, 3) := by decide +kernel
theorem dX3_lookAround_69 : decode cX3_lookAround 69 = .ok (.goto (-39), 3) := by decide +kernel
theorem dX3_lookAround_72 : decode cX3_lookAround 72 = .ok (.aload_n 0, 1) := by decide +kernel
theorem dX3_lookAround_73 : decode cX3_lookAround 73 = .ok (.getfield 61, 3) := by decide +kernel
theorem dX3_lookAround_76 : decode cX3_lookAround 76 = .ok (.getfield 111, 3) := by decide +kernel
theorem dX3_lookAround_79 : decode cX3_lookAround 79 = .ok (.astore_n 2, 1) := by decide +kernel
theorem dX3_lookAround_80 : decode cX3_lookAround 80 = .ok (.aload_n 2, 1) := by decide +kernel
theorem dX3_lookAround_81 : decode cX3_lookAround 81 = .ok (.iconst 0, 1) := by decide +kernel
theorem dX3_lookAround_82 : decode cX3_lookAround 82 = .ok (.dup2, 1) := by decide +kernel
theorem dX3_lookAround_83 : decode cX3_lookAround 83 = .ok (.iaload, 1) := by decide +kernel
theorem dX3_lookAround_84 : decode cX3_lookAround 84 = .ok (.iconst 1, 1) := by decide +kernel
theorem dX3_lookAround_85 : decode cX3_lookAround 85 = .ok (.iadd, 1) := by decide +kernel
theorem dX3_lookAround_86 : decode cX3_lookAround 86 = .ok (.iastore, 1) := by decide +kernel
theorem dX3_lookAround_87 : decode cX3_lookAround 87 = .ok (.aload_n 2, 1) := by decide +kernel
theorem dX3_lookAround_88 : decode cX3_lookAround 88 = .ok (.iconst 1, 1) := by decide +kernel
theorem dX3_lookAround_89 : decode cX3_lookAround 89 = .ok (.dup2, 1) := by decide +kernel
theorem dX3_lookAround_90 : decode cX3_lookAround 90 = .ok (.iaload, 1) := by decide +kernel
theorem dX3_lookAround_91 : decode cX3_lookAround 91 = .ok (.iload_n 1, 1) := by decide +kernel
theorem dX3_lookAround_92 : decode cX3_lookAround 92 = .ok (.iadd, 1) := by decide +kernel
theorem dX3_lookAround_93 : decode cX3_lookAround 93 = .ok (.iastore, 1) := by decide +kernel
theorem dX3_lookAround_94 : decode cX3_lookAround 94 = .ok (.aload_n 2, 1) := by decide +kernel
theorem dX3_lookAround_95 : decode cX3_lookAround 95 = .ok (.bipush 6, 2) := by decide +kernel
theorem dX3_lookAround_97 : decode cX3_lookAround 97 = .ok (.aload_n 2, 1) := by decide +kernel
theorem dX3_lookAround_98 : decode cX3_lookAround 98 = .ok (.bipush 6, 2) := by decide +kernel
theorem dX3_lookAround_100 : decode cX3_lookAround 100 = .ok (.iaload, 1) := by decide +kernel
theorem dX3_lookAround_101 : decode cX3_lookAround 101 = .ok (.iload_n 1, 1) := by decide +kernel
theorem dX3_lookAround_102 : decode cX3_lookAround 102 = .ok (.invokestatic 177, 3) := by decide +kernel
theorem dX3_lookAround_105 : decode cX3_lookAround 105 = .ok (.iastore, 1) := by decide +kernel
theorem dX3_lookAround_106 : decode cX3_lookAround 106 = .ok (.aload_n 0, 1) := by decide +kernel
theorem dX3_lookAround_107 : decode cX3_lookAround 107 = .ok (.getfield 74, 3) := by decide +kernel
theorem dX3_lookAround_110 : decode cX3_lookAround 110 = .ok (.ifCond .eq 9, 3) := by decide +kernel
theorem dX3_lookAround_113 : decode cX3_lookAround 113 = .ok (.aload_n 2, 1) := by decide +kernel
theorem dX3_lookAround_114 : decode cX3_lookAround 114 = .ok (.iconst 2, 1) := by decide +kernel
theorem dX3_lookAround_115 : decode cX3_lookAround 115 = .ok (.iaload, 1) := by decide +kernel
theorem dX3_lookAround_116 : decode cX3_lookAround 116 = .ok (.ifCond .ne 7, 3) := by decide +kernel
theorem dX3_lookAround_119 : decode cX3_lookAround 119 = .ok (.iconst 1, 1) := by decide +kernel
theorem dX3_lookAround_120 : decode cX3_lookAround 120 = .ok (.goto 4, 3) := by decide +kernel
theorem dX3_lookAround_123 : decode cX3_lookAround 123 = .ok (.iconst 0, 1) := by decide +kernel
theorem dX3_lookAround_124 : decode cX3_lookAround 124 = .ok (.ireturn, 1) := by decide +kernel
theorem dX3_riseFrom_0 : decode cX3_riseFrom 0 = .ok (.aload_n 0, 1) := by decide +kernel
theorem dX3_riseFrom_1 : decode cX3_riseFrom 1 = .ok (.getfield 32, 3) := by decide +kernel
theorem dX3_riseFrom_4 : decode cX3_riseFrom 4 = .ok (.aload_n 0, 1) := by decide +kernel
theorem dX3_riseFrom_5 : decode cX3_riseFrom 5 = .ok (.getfield 64, 3) := by decide +kernel
theorem dX3_riseFrom_8 : decode cX3_riseFrom 8 = .ok (.invokevirtual 114, 3) := by decide +kernel
theorem dX3_riseFrom_11 : decode cX3_riseFrom 11 = .ok (.aload_n 0, 1) := by decide +kernel
theorem dX3_riseFrom_12 : decode cX3_riseFrom 12 = .ok (.getfield 50, 3) := by decide +kernel
theorem dX3_riseFrom_15 : decode cX3_riseFrom 15 = .ok (.aload_n 1, 1) := by decide +kernel
theorem dX3_riseFrom_16 : decode cX3_riseFrom 16 = .ok (.aload_n 0, 1) := by decide +kernel
theorem dX3_riseFrom_17 : decode cX3_riseFrom 17 = .ok (.getfield 32, 3) := by decide +kernel
theorem dX3_riseFrom_20 : decode cX3_riseFrom 20 = .ok (.invokevirtual 183, 3) := by decide +kernel
theorem dX3_riseFrom_23 : decode cX3_riseFrom 23 = .ok (.aload_n 1, 1) := by decide +kernel
theorem dX3_riseFrom_24 : decode cX3_riseFrom 24 = .ok (.astore_n 2, 1) := by decide +kernel
theorem dX3_riseFrom_25 : decode cX3_riseFrom 25 = .ok (.aload_n 0, 1) := by decide +kernel
theorem dX3_riseFrom_26 : decode cX3_riseFrom 26 = .ok (.getfield 32, 3) := by decide +kernel
theorem dX3_riseFrom_29 : decode cX3_riseFrom 29 = .ok (.getfield 140, 3) := by decide +kernel
theorem dX3_riseFrom_32 : decode cX3_riseFrom 32 = .ok (.ifCond .le 31, 3) := by decide +kernel
theorem dX3_riseFrom_35 : decode cX3_riseFrom 35 = .ok (.aload_n 1, 1) := by decide +kernel
theorem dX3_riseFrom_36 : decode cX3_riseFrom 36 = .ok (.iconst 0, 1) := by decide +kernel
theorem dX3_riseFrom_37 : decode cX3_riseFrom 37 = .ok (.aload_n 0, 1) := by decide +kernel
theorem dX3_riseFrom_38 : decode cX3_riseFrom 38 = .ok (.getfield 40, 3) := by decide +kernel
theorem dX3_riseFrom_41 : decode cX3_riseFrom 41 = .ok (.iconst 0, 1) := by decide +kernel
theorem dX3_riseFrom_42 : decode cX3_riseFrom 42 = .ok (.bipush 32, 2) := by decide +kernel
theorem dX3_riseFrom_44 : decode cX3_riseFrom 44 = .ok (.invokestatic 187, 3) := by decide +kernel
theorem dX3_riseFrom_47 : decode cX3_riseFrom 47 = .ok (.aload_n 0, 1) := by decide +kernel
theorem dX3_riseFrom_48 : decode cX3_riseFrom 48 = .ok (.getfield 32, 3) := by decide +kernel
theorem dX3_riseFrom_51 : decode cX3_riseFrom 51 = .ok (.aload_n 0, 1) := by decide +kernel
theorem dX3_riseFrom_52 : decode cX3_riseFrom 52 = .ok (.getfield 40, 3) := by decide +kernel
theorem dX3_riseFrom_55 : decode cX3_riseFrom 55 = .ok (.invokevirtual 193, 3) := by decide +kernel
theorem dX3_riseFrom_58 : decode cX3_riseFrom 58 = .ok (.aload_n 0, 1) := by decide +kernel
theorem dX3_riseFrom_59 : decode cX3_riseFrom 59 = .ok (.getfield 40, 3) := by decide +kernel
theorem dX3_riseFrom_62 : decode cX3_riseFrom 62 = .ok (.astore_n 2, 1) := by decide +kernel
theorem dX3_riseFrom_63 : decode cX3_riseFrom 63 = .ok (.aload_n 0, 1) := by decide +kernel
theorem dX3_riseFrom_64 : decode cX3_riseFrom 64 = .ok (.getfield 50, 3) := by decide +kernel
theorem dX3_riseFrom_67 : decode cX3_riseFrom 67 = .ok (.aload_n 2, 1) := by decide +kernel
theorem dX3_riseFrom_68 : decode cX3_riseFrom 68 = .ok (.invokevirtual 196, 3) := by decide +kernel
theorem dX3_riseFrom_71 : decode cX3_riseFrom 71 = .ok (.istore_n 3, 1) := by decide +kernel
theorem dX3_riseFrom_72 : decode cX3_riseFrom 72 = .ok (.iconst 0, 1) := by decide +kernel
theorem dX3_riseFrom_73 : decode cX3_riseFrom 73 = .ok (.istore 4, 2) := by decide +kernel
theorem dX3_riseFrom_75 : decode cX3_riseFrom 75 = .ok (.iload 4, 2) := by decide +kernel
theorem dX3_riseFrom_77 : decode cX3_riseFrom 77 = .ok (.bipush 6, 2) := by decide +kernel
theorem dX3_riseFrom_79 : decode cX3_riseFrom 79 = .ok (.if_icmp .ge 33, 3) := by decide +kernel
theorem dX3_riseFrom_82 : decode cX3_riseFrom 82 = .ok (.aload_n 0, 1) := by decide +kernel
theorem dX3_riseFrom_83 : decode cX3_riseFrom 83 = .ok (.getfield 44, 3) := by decide +kernel
theorem dX3_riseFrom_86 : decode cX3_riseFrom 86 = .ok (.iload 4, 2) := by decide +kernel
theorem dX3_riseFrom_88 : decode cX3_riseFrom 88 = .ok (.iload_n 3, 1) := by decide +kernel
theorem dX3_riseFrom_89 : decode cX3_riseFrom 89 = .ok (.iconst (-1), 1) := by decide +kernel
theorem dX3_riseFrom_90 : decode cX3_riseFrom 90 = .ok (.if_icmp .ne 7, 3) := by decide +kernel
theorem dX3_riseFrom_93 : decode cX3_riseFrom 93 = .ok (.iconst 0, 1) := by decide +kernel
theorem dX3_riseFrom_94 : decode cX3_riseFrom 94 = .ok (.goto 11, 3) := by decide +kernel
theorem dX3_riseFrom_97 : decode cX3_riseFrom 97 = .ok (.aload_n 2, 1) := by decide +kernel
theorem dX3_riseFrom_98 : decode cX3_riseFrom 98 = .ok (.iconst 2, 1) := by decide +kernel
theorem dX3_riseFrom_99 : decode cX3_riseFrom 99 = .ok (.iload_n 3, 1) := by decide +kernel
theorem dX3_riseFrom_100 : decode cX3_riseFrom 100 = .ok (.imul, 1) := by decide +kernel
theorem dX3_riseFrom_101 : decode cX3_riseFrom 101 = .ok (.iload 4, 2) := by decide +kernel
theorem dX3_riseFrom_103 : decode cX3_riseFrom 103 = .ok (.iadd, 1) := by decide +kernel
theorem dX3_riseFrom_104 : decode cX3_riseFrom 104 = .ok (.iaload, 1) := by decide +kernel
theorem dX3_riseFrom_105 : decode cX3_riseFrom 105 = .ok (.iastore, 1) := by decide +kernel
theorem dX3_riseFrom_106 : decode cX3_riseFrom 106 = .ok (.iinc 4 1, 3) := by decide +kernel
theorem dX3_riseFrom_109 : decode cX3_riseFrom 109 = .ok (.goto (-34), 3) := by decide +kernel
theorem dX3_riseFrom_112 : decode cX3_riseFrom 112 = .ok (.return_, 1) := by decide +kernel
theorem dX3_isRight_0 : decode cX3_isRight 0 = .ok (.aload_n 0, 1) := by decide +kernel
theorem dX3_isRight_1 : decode cX3_isRight 1 = .ok (.getfield 71, 3) := by decide +kernel
theorem dX3_isRight_4 : decode cX3_isRight 4 = .ok (.istore_n 1, 1) := by decide +kernel
theorem dX3_isRight_5 : decode cX3_isRight 5 = .ok (.iload_n 1, 1) := by decide +kernel
theorem dX3_isRight_6 : decode cX3_isRight 6 = .ok (.aload_n 0, 1) := by decide +kernel
theorem dX3_isRight_7 : decode cX3_isRight 7 = .ok (.getfield 68, 3) := by decide +kernel
theorem dX3_isRight_10 : decode cX3_isRight 10 = .ok (.if_icmp .gt 50, 3) := by decide +kernel
theorem dX3_isRight_13 : decode cX3_isRight 13 = .ok (.aload_n 0, 1) := by decide +kernel
theorem dX3_isRight_14 : decode cX3_isRight 14 = .ok (.getfield 37, 3) := by decide +kernel
theorem dX3_isRight_17 : decode cX3_isRight 17 = .ok (.iload_n 1, 1) := by decide +kernel
theorem dX3_isRight_18 : decode cX3_isRight 18 = .ok (.aaload, 1) := by decide +kernel
theorem dX3_isRight_19 : decode cX3_isRight 19 = .ok (.astore_n 2, 1) := by decide +kernel
theorem dX3_isRight_20 : decode cX3_isRight 20 = .ok (.iconst 0, 1) := by decide +kernel
theorem dX3_isRight_21 : decode cX3_isRight 21 = .ok (.istore_n 3, 1) := by decide +kernel
theorem dX3_isRight_22 : decode cX3_isRight 22 = .ok (.iload_n 3, 1) := by decide +kernel
theorem dX3_isRight_23 : decode cX3_isRight 23 = .ok (.bipush 6, 2) := by decide +kernel
theorem dX3_isRight_25 : decode cX3_isRight 25 = .ok (.if_icmp .ge 21, 3) := by decide +kernel
theorem dX3_isRight_28 : decode cX3_isRight 28 = .ok (.aload_n 2, 1) := by decide +kernel
theorem dX3_isRight_29 : decode cX3_isRight 29 = .ok (.iload_n 3, 1) := by decide +kernel
theorem dX3_isRight_30 : decode cX3_isRight 30 = .ok (.iaload, 1) := by decide +kernel
theorem dX3_isRight_31 : decode cX3_isRight 31 = .ok (.aload_n 0, 1) := by decide +kernel
theorem dX3_isRight_32 : decode cX3_isRight 32 = .ok (.getfield 44, 3) := by decide +kernel
theorem dX3_isRight_35 : decode cX3_isRight 35 = .ok (.iload_n 3, 1) := by decide +kernel
theorem dX3_isRight_36 : decode cX3_isRight 36 = .ok (.iaload, 1) := by decide +kernel
theorem dX3_isRight_37 : decode cX3_isRight 37 = .ok (.if_icmp .ne 9, 3) := by decide +kernel
theorem dX3_isRight_40 : decode cX3_isRight 40 = .ok (.iinc 3 1, 3) := by decide +kernel
theorem dX3_isRight_43 : decode cX3_isRight 43 = .ok (.goto (-21), 3) := by decide +kernel
theorem dX3_isRight_46 : decode cX3_isRight 46 = .ok (.iload_n 3, 1) := by decide +kernel
theorem dX3_isRight_47 : decode cX3_isRight 47 = .ok (.bipush 6, 2) := by decide +kernel
theorem dX3_isRight_49 : decode cX3_isRight 49 = .ok (.if_icmp .ne 5, 3) := by decide +kernel
theorem dX3_isRight_52 : decode cX3_isRight 52 = .ok (.iconst 1, 1) := by decide +kernel
theorem dX3_isRight_53 : decode cX3_isRight 53 = .ok (.ireturn, 1) := by decide +kernel
theorem dX3_isRight_54 : decode cX3_isRight 54 = .ok (.iinc 1 1, 3) := by decide +kernel
theorem dX3_isRight_57 : decode cX3_isRight 57 = .ok (.goto (-52), 3) := by decide +kernel
theorem dX3_isRight_60 : decode cX3_isRight 60 = .ok (.iconst 0, 1) := by decide +kernel
theorem dX3_isRight_61 : decode cX3_isRight 61 = .ok (.ireturn, 1) := by decide +kernel
theorem dX3_keepBad_0 : decode cX3_keepBad 0 = .ok (.aload_n 0, 1) := by decide +kernel
theorem dX3_keepBad_1 : decode cX3_keepBad 1 = .ok (.getfield 61, 3) := by decide +kernel
theorem dX3_keepBad_4 : decode cX3_keepBad 4 = .ok (.getfield 111, 3) := by decide +kernel
theorem dX3_keepBad_7 : decode cX3_keepBad 7 = .ok (.iconst 2, 1) := by decide +kernel
theorem dX3_keepBad_8 : decode cX3_keepBad 8 = .ok (.dup2, 1) := by decide +kernel
theorem dX3_keepBad_9 : decode cX3_keepBad 9 = .ok (.iaload, 1) := by decide +kernel
theorem dX3_keepBad_10 : decode cX3_keepBad 10 = .ok (.iconst 1, 1) := by decide +kernel
theorem dX3_keepBad_11 : decode cX3_keepBad 11 = .ok (.iadd, 1) := by decide +kernel
theorem dX3_keepBad_12 : decode cX3_keepBad 12 = .ok (.iastore, 1) := by decide +kernel
theorem dX3_keepBad_13 : decode cX3_keepBad 13 = .ok (.aload_n 0, 1) := by decide +kernel
theorem dX3_keepBad_14 : decode cX3_keepBad 14 = .ok (.getfield 61, 3) := by decide +kernel
theorem dX3_keepBad_17 : decode cX3_keepBad 17 = .ok (.getfield 200, 3) := by decide +kernel
theorem dX3_keepBad_20 : decode cX3_keepBad 20 = .ok (.bipush 50, 2) := by decide +kernel
theorem dX3_keepBad_22 : decode cX3_keepBad 22 = .ok (.if_icmp .ge 107, 3) := by decide +kernel
theorem dX3_keepBad_25 : decode cX3_keepBad 25 = .ok (.aload_n 0, 1) := by decide +kernel
theorem dX3_keepBad_26 : decode cX3_keepBad 26 = .ok (.getfield 61, 3) := by decide +kernel
theorem dX3_keepBad_29 : decode cX3_keepBad 29 = .ok (.getfield 200, 3) := by decide +kernel
theorem dX3_keepBad_32 : decode cX3_keepBad 32 = .ok (.bipush 10, 2) := by decide +kernel
theorem dX3_keepBad_34 : decode cX3_keepBad 34 = .ok (.imul, 1) := by decide +kernel
theorem dX3_keepBad_35 : decode cX3_keepBad 35 = .ok (.istore_n 2, 1) := by decide +kernel
theorem dX3_keepBad_36 : decode cX3_keepBad 36 = .ok (.aload_n 0, 1) := by decide +kernel
theorem dX3_keepBad_37 : decode cX3_keepBad 37 = .ok (.getfield 61, 3) := by decide +kernel
theorem dX3_keepBad_40 : decode cX3_keepBad 40 = .ok (.getfield 203, 3) := by decide +kernel
theorem dX3_keepBad_43 : decode cX3_keepBad 43 = .ok (.iload_n 2, 1) := by decide +kernel
theorem dX3_keepBad_44 : decode cX3_keepBad 44 = .ok (.aload_n 0, 1) := by decide +kernel
theorem dX3_keepBad_45 : decode cX3_keepBad 45 = .ok (.getfield 61, 3) := by decide +kernel
theorem dX3_keepBad_48 : decode cX3_keepBad 48 = .ok (.getfield 111, 3) := by decide +kernel
theorem dX3_keepBad_51 : decode cX3_keepBad 51 = .ok (.iconst 0, 1) := by decide +kernel
theorem dX3_keepBad_52 : decode cX3_keepBad 52 = .ok (.iaload, 1) := by decide +kernel
theorem dX3_keepBad_53 : decode cX3_keepBad 53 = .ok (.iastore, 1) := by decide +kernel
theorem dX3_keepBad_54 : decode cX3_keepBad 54 = .ok (.aload_n 0, 1) := by decide +kernel
theorem dX3_keepBad_55 : decode cX3_keepBad 55 = .ok (.getfield 61, 3) := by decide +kernel
theorem dX3_keepBad_58 : decode cX3_keepBad 58 = .ok (.getfield 203, 3) := by decide +kernel
theorem dX3_keepBad_61 : decode cX3_keepBad 61 = .ok (.iload_n 2, 1) := by decide +kernel
theorem dX3_keepBad_62 : decode cX3_keepBad 62 = .ok (.iconst 1, 1) := by decide +kernel
theorem dX3_keepBad_63 : decode cX3_keepBad 63 = .ok (.iadd, 1) := by decide +kernel
theorem dX3_keepBad_64 : decode cX3_keepBad 64 = .ok (.iload_n 1, 1) := by decide +kernel
theorem dX3_keepBad_65 : decode cX3_keepBad 65 = .ok (.iastore, 1) := by decide +kernel
theorem dX3_keepBad_66 : decode cX3_keepBad 66 = .ok (.aload_n 0, 1) := by decide +kernel
theorem dX3_keepBad_67 : decode cX3_keepBad 67 = .ok (.getfield 61, 3) := by decide +kernel
theorem dX3_keepBad_70 : decode cX3_keepBad 70 = .ok (.getfield 203, 3) := by decide +kernel
theorem dX3_keepBad_73 : decode cX3_keepBad 73 = .ok (.iload_n 2, 1) := by decide +kernel
theorem dX3_keepBad_74 : decode cX3_keepBad 74 = .ok (.iconst 2, 1) := by decide +kernel
theorem dX3_keepBad_75 : decode cX3_keepBad 75 = .ok (.iadd, 1) := by decide +kernel
theorem dX3_keepBad_76 : decode cX3_keepBad 76 = .ok (.aload_n 0, 1) := by decide +kernel
theorem dX3_keepBad_77 : decode cX3_keepBad 77 = .ok (.getfield 68, 3) := by decide +kernel
theorem dX3_keepBad_80 : decode cX3_keepBad 80 = .ok (.iastore, 1) := by decide +kernel
theorem dX3_keepBad_81 : decode cX3_keepBad 81 = .ok (.aload_n 0, 1) := by decide +kernel
theorem dX3_keepBad_82 : decode cX3_keepBad 82 = .ok (.getfield 61, 3) := by decide +kernel
theorem dX3_keepBad_85 : decode cX3_keepBad 85 = .ok (.getfield 203, 3) := by decide +kernel
theorem dX3_keepBad_88 : decode cX3_keepBad 88 = .ok (.iload_n 2, 1) := by decide +kernel
theorem dX3_keepBad_89 : decode cX3_keepBad 89 = .ok (.iconst 3, 1) := by decide +kernel
theorem dX3_keepBad_90 : decode cX3_keepBad 90 = .ok (.iadd, 1) := by decide +kernel
theorem dX3_keepBad_91 : decode cX3_keepBad 91 = .ok (.aload_n 0, 1) := by decide +kernel
theorem dX3_keepBad_92 : decode cX3_keepBad 92 = .ok (.getfield 71, 3) := by decide +kernel
theorem dX3_keepBad_95 : decode cX3_keepBad 95 = .ok (.iastore, 1) := by decide +kernel
theorem dX3_keepBad_96 : decode cX3_keepBad 96 = .ok (.aload_n 0, 1) := by decide +kernel
theorem dX3_keepBad_97 : decode cX3_keepBad 97 = .ok (.getfield 44, 3) := by decide +kernel
theorem dX3_keepBad_100 : decode cX3_keepBad 100 = .ok (.iconst 0, 1) := by decide +kernel
theorem dX3_keepBad_101 : decode cX3_keepBad 101 = .ok (.aload_n 0, 1) := by decide +kernel
theorem dX3_keepBad_102 : decode cX3_keepBad 102 = .ok (.getfield 61, 3) := by decide +kernel
theorem dX3_keepBad_105 : decode cX3_keepBad 105 = .ok (.getfield 203, 3) := by decide +kernel
theorem dX3_keepBad_108 : decode cX3_keepBad 108 = .ok (.iload_n 2, 1) := by decide +kernel
theorem dX3_keepBad_109 : decode cX3_keepBad 109 = .ok (.iconst 4, 1) := by decide +kernel
theorem dX3_keepBad_110 : decode cX3_keepBad 110 = .ok (.iadd, 1) := by decide +kernel
theorem dX3_keepBad_111 : decode cX3_keepBad 111 = .ok (.bipush 6, 2) := by decide +kernel
theorem dX3_keepBad_113 : decode cX3_keepBad 113 = .ok (.invokestatic 187, 3) := by decide +kernel
theorem dX3_keepBad_116 : decode cX3_keepBad 116 = .ok (.aload_n 0, 1) := by decide +kernel
theorem dX3_keepBad_117 : decode cX3_keepBad 117 = .ok (.getfield 61, 3) := by decide +kernel
theorem dX3_keepBad_120 : decode cX3_keepBad 120 = .ok (.dup, 1) := by decide +kernel
theorem dX3_keepBad_121 : decode cX3_keepBad 121 = .ok (.getfield 200, 3) := by decide +kernel
theorem dX3_keepBad_124 : decode cX3_keepBad 124 = .ok (.iconst 1, 1) := by decide +kernel
theorem dX3_keepBad_125 : decode cX3_keepBad 125 = .ok (.iadd, 1) := by decide +kernel
theorem dX3_keepBad_126 : decode cX3_keepBad 126 = .ok (.putfield 200, 3) := by decide +kernel
theorem dX3_keepBad_129 : decode cX3_keepBad 129 = .ok (.return_, 1) := by decide +kernel
theorem dX4_init_0 : decode cX4_init 0 = .ok (.aload_n 0, 1) := by decide +kernel
theorem dX4_init_1 : decode cX4_init 1 = .ok (.invokespecial 3, 3) := by decide +kernel
theorem dX4_init_4 : decode cX4_init 4 = .ok (.return_, 1) := by decide +kernel
theorem dX4_fences_0 : decode cX4_fences 0 = .ok (.iconst 0, 1) := by decide +kernel
theorem dX4_fences_1 : decode cX4_fences 1 = .ok (.ireturn, 1) := by decide +kernel
theorem dX4_homeOfKeys_0 : decode cX4_homeOfKeys 0 = .ok (.iconst 0, 1) := by decide +kernel
theorem dX4_homeOfKeys_1 : decode cX4_homeOfKeys 1 = .ok (.ireturn, 1) := by decide +kernel
theorem dX4_allIsWell_0 : decode cX4_allIsWell 0 = .ok (.iconst 1, 1) := by decide +kernel
theorem dX4_allIsWell_1 : decode cX4_allIsWell 1 = .ok (.ireturn, 1) := by decide +kernel
theorem dX4_planChange_0 : decode cX4_planChange 0 = .ok (.aload 8, 2) := by decide +kernel
theorem dX4_planChange_2 : decode cX4_planChange 2 = .ok (.iload_n 2, 1) := by decide +kernel
theorem dX4_planChange_3 : decode cX4_planChange 3 = .ok (.lload_n 3, 1) := by decide +kernel
theorem dX4_planChange_4 : decode cX4_planChange 4 = .ok (.invokestatic 9, 3) := by decide +kernel
theorem dX4_planChange_7 : decode cX4_planChange 7 = .ok (.lload_n 3, 1) := by decide +kernel
theorem dX4_planChange_8 : decode cX4_planChange 8 = .ok (.invokestatic 13, 3) := by decide +kernel
theorem dX4_planChange_11 : decode cX4_planChange 11 = .ok (.invokevirtual 16, 3) := by decide +kernel
theorem dX4_planChange_14 : decode cX4_planChange 14 = .ok (.iload 5, 2) := by decide +kernel
theorem dX4_planChange_16 : decode cX4_planChange 16 = .ok (.iconst (-1), 1) := by decide +kernel
theorem dX4_planChange_17 : decode cX4_planChange 17 = .ok (.if_icmp .eq 20, 3) := by decide +kernel
theorem dX4_planChange_20 : decode cX4_planChange 20 = .ok (.aload 8, 2) := by decide +kernel
theorem dX4_planChange_22 : decode cX4_planChange 22 = .ok (.iload 5, 2) := by decide +kernel
theorem dX4_planChange_24 : decode cX4_planChange 24 = .ok (.lload 6, 2) := by decide +kernel
theorem dX4_planChange_26 : decode cX4_planChange 26 = .ok (.invokestatic 9, 3) := by decide +kernel
theorem dX4_planChange_29 : decode cX4_planChange 29 = .ok (.lload 6, 2) := by decide +kernel
theorem dX4_planChange_31 : decode cX4_planChange 31 = .ok (.invokestatic 13, 3) := by decide +kernel
theorem dX4_planChange_34 : decode cX4_planChange 34 = .ok (.invokevirtual 16, 3) := by decide +kernel
theorem dX4_planChange_37 : decode cX4_planChange 37 = .ok (.return_, 1) := by decide +kernel
theorem dX5_init_0 : decode cX5_init 0 = .ok (.aload_n 0, 1) := by decide +kernel
theorem dX5_init_1 : decode cX5_init 1 = .ok (.invokespecial 1, 3) := by decide +kernel
theorem dX5_init_4 : decode cX5_init 4 = .ok (.aload_n 0, 1) := by decide +kernel
theorem dX5_init_5 : decode cX5_init 5 = .ok (.bipush 11, 2) := by decide +kernel
theorem dX5_init_7 : decode cX5_init 7 = .ok (.newarray .int, 2) := by decide +kernel
theorem dX5_init_9 : decode cX5_init 9 = .ok (.putfield 9, 3) := by decide +kernel
theorem dX5_init_12 : decode cX5_init 12 = .ok (.aload_n 0, 1) := by decide +kernel
theorem dX5_init_13 : decode cX5_init 13 = .ok (.bipush 11, 2) := by decide +kernel
theorem dX5_init_15 : decode cX5_init 15 = .ok (.newarray .int, 2) := by decide +kernel
theorem dX5_init_17 : decode cX5_init 17 = .ok (.putfield 13, 3) := by decide +kernel
theorem dX5_init_20 : decode cX5_init 20 = .ok (.aload_n 0, 1) := by decide +kernel
theorem dX5_init_21 : decode cX5_init 21 = .ok (.bipush 11, 2) := by decide +kernel
theorem dX5_init_23 : decode cX5_init 23 = .ok (.newarray .int, 2) := by decide +kernel
theorem dX5_init_25 : decode cX5_init 25 = .ok (.putfield 16, 3) := by decide +kernel
theorem dX5_init_28 : decode cX5_init 28 = .ok (.aload_n 0, 1) := by decide +kernel
theorem dX5_init_29 : decode cX5_init 29 = .ok (.iconst 0, 1) := by decide +kernel
theorem dX5_init_30 : decode cX5_init 30 = .ok (.putfield 19, 3) := by decide +kernel
theorem dX5_init_33 : decode cX5_init 33 = .ok (.aload_n 0, 1) := by decide +kernel
theorem dX5_init_34 : decode cX5_init 34 = .ok (.iconst 0, 1) := by decide +kernel
theorem dX5_init_35 : decode cX5_init 35 = .ok (.putfield 23, 3) := by decide +kernel
theorem dX5_init_38 : decode cX5_init 38 = .ok (.return_, 1) := by decide +kernel
theorem dX5_begin_0 : decode cX5_begin 0 = .ok (.aload_n 0, 1) := by decide +kernel
theorem dX5_begin_1 : decode cX5_begin 1 = .ok (.iconst 0, 1) := by decide +kernel
theorem dX5_begin_2 : decode cX5_begin 2 = .ok (.putfield 19, 3) := by decide +kernel
theorem dX5_begin_5 : decode cX5_begin 5 = .ok (.aload_n 0, 1) := by decide +kernel
theorem dX5_begin_6 : decode cX5_begin 6 = .ok (.iload_n 1, 1) := by decide +kernel
theorem dX5_begin_7 : decode cX5_begin 7 = .ok (.putfield 23, 3) := by decide +kernel
theorem dX5_begin_10 : decode cX5_begin 10 = .ok (.return_, 1) := by decide +kernel
theorem dX5_planWrite_0 : decode cX5_planWrite 0 = .ok (.aload_n 0, 1) := by decide +kernel
theorem dX5_planWrite_1 : decode cX5_planWrite 1 = .ok (.getfield 19, 3) := by decide +kernel
theorem dX5_planWrite_4 : decode cX5_planWrite 4 = .ok (.bipush 11, 2) := by decide +kernel
theorem dX5_planWrite_6 : decode cX5_planWrite 6 = .ok (.if_icmp .ge 43, 3) := by decide +kernel
theorem dX5_planWrite_9 : decode cX5_planWrite 9 = .ok (.aload_n 0, 1) := by decide +kernel
theorem dX5_planWrite_10 : decode cX5_planWrite 10 = .ok (.getfield 9, 3) := by decide +kernel
theorem dX5_planWrite_13 : decode cX5_planWrite 13 = .ok (.aload_n 0, 1) := by decide +kernel
theorem dX5_planWrite_14 : decode cX5_planWrite 14 = .ok (.getfield 19, 3) := by decide +kernel
theorem dX5_planWrite_17 : decode cX5_planWrite 17 = .ok (.iload_n 1, 1) := by decide +kernel
theorem dX5_planWrite_18 : decode cX5_planWrite 18 = .ok (.iastore, 1) := by decide +kernel
theorem dX5_planWrite_19 : decode cX5_planWrite 19 = .ok (.aload_n 0, 1) := by decide +kernel
theorem dX5_planWrite_20 : decode cX5_planWrite 20 = .ok (.getfield 13, 3) := by decide +kernel
theorem dX5_planWrite_23 : decode cX5_planWrite 23 = .ok (.aload_n 0, 1) := by decide +kernel
theorem dX5_planWrite_24 : decode cX5_planWrite 24 = .ok (.getfield 19, 3) := by decide +kernel
theorem dX5_planWrite_27 : decode cX5_planWrite 27 = .ok (.iload_n 2, 1) := by decide +kernel
theorem dX5_planWrite_28 : decode cX5_planWrite 28 = .ok (.iastore, 1) := by decide +kernel
theorem dX5_planWrite_29 : decode cX5_planWrite 29 = .ok (.aload_n 0, 1) := by decide +kernel
theorem dX5_planWrite_30 : decode cX5_planWrite 30 = .ok (.getfield 16, 3) := by decide +kernel
theorem dX5_planWrite_33 : decode cX5_planWrite 33 = .ok (.aload_n 0, 1) := by decide +kernel
theorem dX5_planWrite_34 : decode cX5_planWrite 34 = .ok (.getfield 19, 3) := by decide +kernel
theorem dX5_planWrite_37 : decode cX5_planWrite 37 = .ok (.iload_n 3, 1) := by decide +kernel
theorem dX5_planWrite_38 : decode cX5_planWrite 38 = .ok (.iastore, 1) := by decide +kernel
theorem dX5_planWrite_39 : decode cX5_planWrite 39 = .ok (.aload_n 0, 1) := by decide +kernel
theorem dX5_planWrite_40 : decode cX5_planWrite 40 = .ok (.dup, 1) := by decide +kernel
theorem dX5_planWrite_41 : decode cX5_planWrite 41 = .ok (.getfield 19, 3) := by decide +kernel
theorem dX5_planWrite_44 : decode cX5_planWrite 44 = .ok (.iconst 1, 1) := by decide +kernel
theorem dX5_planWrite_45 : decode cX5_planWrite 45 = .ok (.iadd, 1) := by decide +kernel
theorem dX5_planWrite_46 : decode cX5_planWrite 46 = .ok (.putfield 19, 3) := by decide +kernel
theorem dX5_planWrite_49 : decode cX5_planWrite 49 = .ok (.return_, 1) := by decide +kernel
theorem dX5_planFence_0 : decode cX5_planFence 0 = .ok (.aload_n 0, 1) := by decide +kernel
theorem dX5_planFence_1 : decode cX5_planFence 1 = .ok (.getfield 19, 3) := by decide +kernel
theorem dX5_planFence_4 : decode cX5_planFence 4 = .ok (.bipush 11, 2) := by decide +kernel
theorem dX5_planFence_6 : decode cX5_planFence 6 = .ok (.if_icmp .ge 34, 3) := by decide +kernel
theorem dX5_planFence_9 : decode cX5_planFence 9 = .ok (.aload_n 0, 1) := by decide +kernel
theorem dX5_planFence_10 : decode cX5_planFence 10 = .ok (.getfield 23, 3) := by decide +kernel
theorem dX5_planFence_13 : decode cX5_planFence 13 = .ok (.iload_n 1, 1) := by decide +kernel
theorem dX5_planFence_14 : decode cX5_planFence 14 = .ok (.ishr, 1) := by decide +kernel
theorem dX5_planFence_15 : decode cX5_planFence 15 = .ok (.iconst 1, 1) := by decide +kernel
theorem dX5_planFence_16 : decode cX5_planFence 16 = .ok (.iand, 1) := by decide +kernel
theorem dX5_planFence_17 : decode cX5_planFence 17 = .ok (.ifCond .ne 23, 3) := by decide +kernel
theorem dX5_planFence_20 : decode cX5_planFence 20 = .ok (.aload_n 0, 1) := by decide +kernel
theorem dX5_planFence_21 : decode cX5_planFence 21 = .ok (.getfield 9, 3) := by decide +kernel
theorem dX5_planFence_24 : decode cX5_planFence 24 = .ok (.aload_n 0, 1) := by decide +kernel
theorem dX5_planFence_25 : decode cX5_planFence 25 = .ok (.getfield 19, 3) := by decide +kernel
theorem dX5_planFence_28 : decode cX5_planFence 28 = .ok (.iconst (-1), 1) := by decide +kernel
theorem dX5_planFence_29 : decode cX5_planFence 29 = .ok (.iastore, 1) := by decide +kernel
theorem dX5_planFence_30 : decode cX5_planFence 30 = .ok (.aload_n 0, 1) := by decide +kernel
theorem dX5_planFence_31 : decode cX5_planFence 31 = .ok (.dup, 1) := by decide +kernel
theorem dX5_planFence_32 : decode cX5_planFence 32 = .ok (.getfield 19, 3) := by decide +kernel
theorem dX5_planFence_35 : decode cX5_planFence 35 = .ok (.iconst 1, 1) := by decide +kernel
theorem dX5_planFence_36 : decode cX5_planFence 36 = .ok (.iadd, 1) := by decide +kernel
theorem dX5_planFence_37 : decode cX5_planFence 37 = .ok (.putfield 19, 3) := by decide +kernel
theorem dX5_planFence_40 : decode cX5_planFence 40 = .ok (.return_, 1) := by decide +kernel
theorem dX5_isFence_0 : decode cX5_isFence 0 = .ok (.aload_n 0, 1) := by decide +kernel
theorem dX5_isFence_1 : decode cX5_isFence 1 = .ok (.getfield 9, 3) := by decide +kernel
theorem dX5_isFence_4 : decode cX5_isFence 4 = .ok (.iload_n 1, 1) := by decide +kernel
theorem dX5_isFence_5 : decode cX5_isFence 5 = .ok (.iaload, 1) := by decide +kernel
theorem dX5_isFence_6 : decode cX5_isFence 6 = .ok (.iconst (-1), 1) := by decide +kernel
theorem dX5_isFence_7 : decode cX5_isFence 7 = .ok (.if_icmp .ne 7, 3) := by decide +kernel
theorem dX5_isFence_10 : decode cX5_isFence 10 = .ok (.iconst 1, 1) := by decide +kernel
theorem dX5_isFence_11 : decode cX5_isFence 11 = .ok (.goto 4, 3) := by decide +kernel
theorem dX5_isFence_14 : decode cX5_isFence 14 = .ok (.iconst 0, 1) := by decide +kernel
theorem dX5_isFence_15 : decode cX5_isFence 15 = .ok (.ireturn, 1) := by decide +kernel
theorem dX5_writeInto_0 : decode cX5_writeInto 0 = .ok (.iconst 0, 1) := by decide +kernel
theorem dX5_writeInto_1 : decode cX5_writeInto 1 = .ok (.istore_n 2, 1) := by decide +kernel
theorem dX5_writeInto_2 : decode cX5_writeInto 2 = .ok (.iload_n 2, 1) := by decide +kernel
theorem dX5_writeInto_3 : decode cX5_writeInto 3 = .ok (.aload_n 0, 1) := by decide +kernel
theorem dX5_writeInto_4 : decode cX5_writeInto 4 = .ok (.getfield 19, 3) := by decide +kernel
theorem dX5_writeInto_7 : decode cX5_writeInto 7 = .ok (.if_icmp .ge 51, 3) := by decide +kernel
theorem dX5_writeInto_10 : decode cX5_writeInto 10 = .ok (.aload_n 0, 1) := by decide +kernel
theorem dX5_writeInto_11 : decode cX5_writeInto 11 = .ok (.iload_n 2, 1) := by decide +kernel
theorem dX5_writeInto_12 : decode cX5_writeInto 12 = .ok (.invokevirtual 28, 3) := by decide +kernel
theorem dX5_writeInto_15 : decode cX5_writeInto 15 = .ok (.ifCond .ne 37, 3) := by decide +kernel
theorem dX5_writeInto_18 : decode cX5_writeInto 18 = .ok (.aload_n 1, 1) := by decide +kernel
theorem dX5_writeInto_19 : decode cX5_writeInto 19 = .ok (.iconst 2, 1) := by decide +kernel
theorem dX5_writeInto_20 : decode cX5_writeInto 20 = .ok (.aload_n 0, 1) := by decide +kernel
theorem dX5_writeInto_21 : decode cX5_writeInto 21 = .ok (.getfield 9, 3) := by decide +kernel
theorem dX5_writeInto_24 : decode cX5_writeInto 24 = .ok (.iload_n 2, 1) := by decide +kernel
theorem dX5_writeInto_25 : decode cX5_writeInto 25 = .ok (.iaload, 1) := by decide +kernel
theorem dX5_writeInto_26 : decode cX5_writeInto 26 = .ok (.imul, 1) := by decide +kernel
theorem dX5_writeInto_27 : decode cX5_writeInto 27 = .ok (.aload_n 0, 1) := by decide +kernel
theorem dX5_writeInto_28 : decode cX5_writeInto 28 = .ok (.getfield 13, 3) := by decide +kernel
theorem dX5_writeInto_31 : decode cX5_writeInto 31 = .ok (.iload_n 2, 1) := by decide +kernel
theorem dX5_writeInto_32 : decode cX5_writeInto 32 = .ok (.iaload, 1) := by decide +kernel
theorem dX5_writeInto_33 : decode cX5_writeInto 33 = .ok (.iastore, 1) := by decide +kernel
theorem dX5_writeInto_34 : decode cX5_writeInto 34 = .ok (.aload_n 1, 1) := by decide +kernel
theorem dX5_writeInto_35 : decode cX5_writeInto 35 = .ok (.iconst 2, 1) := by decide +kernel
theorem dX5_writeInto_36 : decode cX5_writeInto 36 = .ok (.aload_n 0, 1) := by decide +kernel
theorem dX5_writeInto_37 : decode cX5_writeInto 37 = .ok (.getfield 9, 3) := by decide +kernel
theorem dX5_writeInto_40 : decode cX5_writeInto 40 = .ok (.iload_n 2, 1) := by decide +kernel
theorem dX5_writeInto_41 : decode cX5_writeInto 41 = .ok (.iaload, 1) := by decide +kernel
theorem dX5_writeInto_42 : decode cX5_writeInto 42 = .ok (.imul, 1) := by decide +kernel
theorem dX5_writeInto_43 : decode cX5_writeInto 43 = .ok (.iconst 1, 1) := by decide +kernel
theorem dX5_writeInto_44 : decode cX5_writeInto 44 = .ok (.iadd, 1) := by decide +kernel
theorem dX5_writeInto_45 : decode cX5_writeInto 45 = .ok (.aload_n 0, 1) := by decide +kernel
theorem dX5_writeInto_46 : decode cX5_writeInto 46 = .ok (.getfield 16, 3) := by decide +kernel
theorem dX5_writeInto_49 : decode cX5_writeInto 49 = .ok (.iload_n 2, 1) := by decide +kernel
theorem dX5_writeInto_50 : decode cX5_writeInto 50 = .ok (.iaload, 1) := by decide +kernel
theorem dX5_writeInto_51 : decode cX5_writeInto 51 = .ok (.iastore, 1) := by decide +kernel
theorem dX5_writeInto_52 : decode cX5_writeInto 52 = .ok (.iinc 2 1, 3) := by decide +kernel
theorem dX5_writeInto_55 : decode cX5_writeInto 55 = .ok (.goto (-53), 3) := by decide +kernel
theorem dX5_writeInto_58 : decode cX5_writeInto 58 = .ok (.return_, 1) := by decide +kernel
theorem dX6_init_0 : decode cX6_init 0 = .ok (.aload_n 0, 1) := by decide +kernel
theorem dX6_init_1 : decode cX6_init 1 = .ok (.invokespecial 3, 3) := by decide +kernel
theorem dX6_init_4 : decode cX6_init 4 = .ok (.aload_n 0, 1) := by decide +kernel
theorem dX6_init_5 : decode cX6_init 5 = .ok (.bipush 7, 2) := by decide +kernel
theorem dX6_init_7 : decode cX6_init 7 = .ok (.newarray .int, 2) := by decide +kernel
theorem dX6_init_9 : decode cX6_init 9 = .ok (.putfield 11, 3) := by decide +kernel
theorem dX6_init_12 : decode cX6_init 12 = .ok (.aload_n 0, 1) := by decide +kernel
theorem dX6_init_13 : decode cX6_init 13 = .ok (.sipush 500, 3) := by decide +kernel
theorem dX6_init_16 : decode cX6_init 16 = .ok (.newarray .int, 2) := by decide +kernel
theorem dX6_init_18 : decode cX6_init 18 = .ok (.putfield 15, 3) := by decide +kernel
theorem dX6_init_21 : decode cX6_init 21 = .ok (.aload_n 0, 1) := by decide +kernel
theorem dX6_init_22 : decode cX6_init 22 = .ok (.iconst 0, 1) := by decide +kernel
theorem dX6_init_23 : decode cX6_init 23 = .ok (.putfield 18, 3) := by decide +kernel
theorem dX6_init_26 : decode cX6_init 26 = .ok (.return_, 1) := by decide +kernel
theorem dX6_begin_0 : decode cX6_begin 0 = .ok (.aload_n 0, 1) := by decide +kernel
theorem dX6_begin_1 : decode cX6_begin 1 = .ok (.getfield 11, 3) := by decide +kernel
theorem dX6_begin_4 : decode cX6_begin 4 = .ok (.iconst 0, 1) := by decide +kernel
theorem dX6_begin_5 : decode cX6_begin 5 = .ok (.invokestatic 22, 3) := by decide +kernel
theorem dX6_begin_8 : decode cX6_begin 8 = .ok (.aload_n 0, 1) := by decide +kernel
theorem dX6_begin_9 : decode cX6_begin 9 = .ok (.iconst 0, 1) := by decide +kernel
theorem dX6_begin_10 : decode cX6_begin 10 = .ok (.putfield 18, 3) := by decide +kernel
theorem dX6_begin_13 : decode cX6_begin 13 = .ok (.return_, 1) := by decide +kernel
theorem dX7_init_0 : decode cX7_init 0 = .ok (.aload_n 0, 1) := by decide +kernel
theorem dX7_init_1 : decode cX7_init 1 = .ok (.invokespecial 3, 3) := by decide +kernel
theorem dX7_init_4 : decode cX7_init 4 = .ok (.aload_n 0, 1) := by decide +kernel
theorem dX7_init_5 : decode cX7_init 5 = .ok (.bipush 8, 2) := by decide +kernel
theorem dX7_init_7 : decode cX7_init 7 = .ok (.newarray .int, 2) := by decide +kernel
theorem dX7_init_9 : decode cX7_init 9 = .ok (.putfield 9, 3) := by decide +kernel
theorem dX7_init_12 : decode cX7_init 12 = .ok (.aload_n 0, 1) := by decide +kernel
theorem dX7_init_13 : decode cX7_init 13 = .ok (.bipush 8, 2) := by decide +kernel
theorem dX7_init_15 : decode cX7_init 15 = .ok (.newarray .int, 2) := by decide +kernel
theorem dX7_init_17 : decode cX7_init 17 = .ok (.putfield 15, 3) := by decide +kernel
theorem dX7_init_20 : decode cX7_init 20 = .ok (.aload_n 0, 1) := by decide +kernel
theorem dX7_init_21 : decode cX7_init 21 = .ok (.bipush 8, 2) := by decide +kernel
theorem dX7_init_23 : decode cX7_init 23 = .ok (.newarray .int, 2) := by decide +kernel
theorem dX7_init_25 : decode cX7_init 25 = .ok (.putfield 18, 3) := by decide +kernel
theorem dX7_init_28 : decode cX7_init 28 = .ok (.aload_n 0, 1) := by decide +kernel
theorem dX7_init_29 : decode cX7_init 29 = .ok (.bipush 8, 2) := by decide +kernel
theorem dX7_init_31 : decode cX7_init 31 = .ok (.newarray .long, 2) := by decide +kernel
theorem dX7_init_33 : decode cX7_init 33 = .ok (.putfield 21, 3) := by decide +kernel
theorem dX7_init_36 : decode cX7_init 36 = .ok (.aload_n 0, 1) := by decide +kernel
theorem dX7_init_37 : decode cX7_init 37 = .ok (.iconst 0, 1) := by decide +kernel
theorem dX7_init_38 : decode cX7_init 38 = .ok (.putfield 25, 3) := by decide +kernel
theorem dX7_init_41 : decode cX7_init 41 = .ok (.return_, 1) := by decide +kernel
theorem dX7_append_0 : decode cX7_append 0 = .ok (.aload_n 0, 1) := by decide +kernel
theorem dX7_append_1 : decode cX7_append 1 = .ok (.getfield 25, 3) := by decide +kernel
theorem dX7_append_4 : decode cX7_append 4 = .ok (.bipush 8, 2) := by decide +kernel
theorem dX7_append_6 : decode cX7_append 6 = .ok (.if_icmp .ge 54, 3) := by decide +kernel
theorem dX7_append_9 : decode cX7_append 9 = .ok (.aload_n 0, 1) := by decide +kernel
theorem dX7_append_10 : decode cX7_append 10 = .ok (.getfield 9, 3) := by decide +kernel
theorem dX7_append_13 : decode cX7_append 13 = .ok (.aload_n 0, 1) := by decide +kernel
theorem dX7_append_14 : decode cX7_append 14 = .ok (.getfield 25, 3) := by decide +kernel
theorem dX7_append_17 : decode cX7_append 17 = .ok (.iload_n 1, 1) := by decide +kernel
theorem dX7_append_18 : decode cX7_append 18 = .ok (.iastore, 1) := by decide +kernel
theorem dX7_append_19 : decode cX7_append 19 = .ok (.aload_n 0, 1) := by decide +kernel
theorem dX7_append_20 : decode cX7_append 20 = .ok (.getfield 15, 3) := by decide +kernel
theorem dX7_append_23 : decode cX7_append 23 = .ok (.aload_n 0, 1) := by decide +kernel
theorem dX7_append_24 : decode cX7_append 24 = .ok (.getfield 25, 3) := by decide +kernel
theorem dX7_append_27 : decode cX7_append 27 = .ok (.iload_n 2, 1) := by decide +kernel
theorem dX7_append_28 : decode cX7_append 28 = .ok (.iastore, 1) := by decide +kernel
theorem dX7_append_29 : decode cX7_append 29 = .ok (.aload_n 0, 1) := by decide +kernel
theorem dX7_append_30 : decode cX7_append 30 = .ok (.getfield 18, 3) := by decide +kernel
theorem dX7_append_33 : decode cX7_append 33 = .ok (.aload_n 0, 1) := by decide +kernel
theorem dX7_append_34 : decode cX7_append 34 = .ok (.getfield 25, 3) := by decide +kernel
theorem dX7_append_37 : decode cX7_append 37 = .ok (.iload_n 3, 1) := by decide +kernel
theorem dX7_append_38 : decode cX7_append 38 = .ok (.iastore, 1) := by decide +kernel
theorem dX7_append_39 : decode cX7_append 39 = .ok (.aload_n 0, 1) := by decide +kernel
theorem dX7_append_40 : decode cX7_append 40 = .ok (.getfield 21, 3) := by decide +kernel
theorem dX7_append_43 : decode cX7_append 43 = .ok (.aload_n 0, 1) := by decide +kernel
theorem dX7_append_44 : decode cX7_append 44 = .ok (.getfield 25, 3) := by decide +kernel
theorem dX7_append_47 : decode cX7_append 47 = .ok (.lload 4, 2) := by decide +kernel
theorem dX7_append_49 : decode cX7_append 49 = .ok (.lastore, 1) := by decide +kernel
theorem dX7_append_50 : decode cX7_append 50 = .ok (.aload_n 0, 1) := by decide +kernel
theorem dX7_append_51 : decode cX7_append 51 = .ok (.dup, 1) := by decide +kernel
theorem dX7_append_52 : decode cX7_append 52 = .ok (.getfield 25, 3) := by decide +kernel
theorem dX7_append_55 : decode cX7_append 55 = .ok (.iconst 1, 1) := by decide +kernel
theorem dX7_append_56 : decode cX7_append 56 = .ok (.iadd, 1) := by decide +kernel
theorem dX7_append_57 : decode cX7_append 57 = .ok (.putfield 25, 3) := by decide +kernel
theorem dX7_append_60 : decode cX7_append 60 = .ok (.return_, 1) := by decide +kernel
theorem dX7_foresee_0 : decode cX7_foresee 0 = .ok (.aload_n 1, 1) := by decide +kernel
theorem dX7_foresee_1 : decode cX7_foresee 1 = .ok (.iconst 0, 1) := by decide +kernel
theorem dX7_foresee_2 : decode cX7_foresee 2 = .ok (.aaload, 1) := by decide +kernel
theorem dX7_foresee_3 : decode cX7_foresee 3 = .ok (.iconst 0, 1) := by decide +kernel
theorem dX7_foresee_4 : decode cX7_foresee 4 = .ok (.invokestatic 29, 3) := by decide +kernel
theorem dX7_foresee_7 : decode cX7_foresee 7 = .ok (.iconst 0, 1) := by decide +kernel
theorem dX7_foresee_8 : decode cX7_foresee 8 = .ok (.istore_n 2, 1) := by decide +kernel
theorem dX7_foresee_9 : decode cX7_foresee 9 = .ok (.iload_n 2, 1) := by decide +kernel
theorem dX7_foresee_10 : decode cX7_foresee 10 = .ok (.aload_n 0, 1) := by decide +kernel
theorem dX7_foresee_11 : decode cX7_foresee 11 = .ok (.getfield 25, 3) := by decide +kernel
theorem dX7_foresee_14 : decode cX7_foresee 14 = .ok (.if_icmp .ge 128, 3) := by decide +kernel
theorem dX7_foresee_17 : decode cX7_foresee 17 = .ok (.aload_n 1, 1) := by decide +kernel
theorem dX7_foresee_18 : decode cX7_foresee 18 = .ok (.iload_n 2, 1) := by decide +kernel
theorem dX7_foresee_19 : decode cX7_foresee 19 = .ok (.iconst 1, 1) := by decide +kernel
theorem dX7_foresee_20 : decode cX7_foresee 20 = .ok (.iadd, 1) := by decide +kernel
theorem dX7_foresee_21 : decode cX7_foresee 21 = .ok (.aaload, 1) := by decide +kernel
theorem dX7_foresee_22 : decode cX7_foresee 22 = .ok (.astore_n 3, 1) := by decide +kernel
theorem dX7_foresee_23 : decode cX7_foresee 23 = .ok (.aload_n 1, 1) := by decide +kernel
theorem dX7_foresee_24 : decode cX7_foresee 24 = .ok (.iload_n 2, 1) := by decide +kernel
theorem dX7_foresee_25 : decode cX7_foresee 25 = .ok (.aaload, 1) := by decide +kernel
theorem dX7_foresee_26 : decode cX7_foresee 26 = .ok (.iconst 0, 1) := by decide +kernel
theorem dX7_foresee_27 : decode cX7_foresee 27 = .ok (.aload_n 3, 1) := by decide +kernel
theorem dX7_foresee_28 : decode cX7_foresee 28 = .ok (.iconst 0, 1) := by decide +kernel
theorem dX7_foresee_29 : decode cX7_foresee 29 = .ok (.bipush 6, 2) := by decide +kernel
theorem dX7_foresee_31 : decode cX7_foresee 31 = .ok (.invokestatic 35, 3) := by decide +kernel
theorem dX7_foresee_34 : decode cX7_foresee 34 = .ok (.iconst 2, 1) := by decide +kernel
theorem dX7_foresee_35 : decode cX7_foresee 35 = .ok (.aload_n 0, 1) := by decide +kernel
theorem dX7_foresee_36 : decode cX7_foresee 36 = .ok (.getfield 15, 3) := by decide +kernel
theorem dX7_foresee_39 : decode cX7_foresee 39 = .ok (.iload_n 2, 1) := by decide +kernel
theorem dX7_foresee_40 : decode cX7_foresee 40 = .ok (.iaload, 1) := by decide +kernel
theorem dX7_foresee_41 : decode cX7_foresee 41 = .ok (.imul, 1) := by decide +kernel
theorem dX7_foresee_42 : decode cX7_foresee 42 = .ok (.istore 4, 2) := by decide +kernel
theorem dX7_foresee_44 : decode cX7_foresee 44 = .ok (.iconst 2, 1) := by decide +kernel
theorem dX7_foresee_45 : decode cX7_foresee 45 = .ok (.aload_n 0, 1) := by decide +kernel
theorem dX7_foresee_46 : decode cX7_foresee 46 = .ok (.getfield 18, 3) := by decide +kernel
theorem dX7_foresee_49 : decode cX7_foresee 49 = .ok (.iload_n 2, 1) := by decide +kernel
theorem dX7_foresee_50 : decode cX7_foresee 50 = .ok (.iaload, 1) := by decide +kernel
theorem dX7_foresee_51 : decode cX7_foresee 51 = .ok (.imul, 1) := by decide +kernel
theorem dX7_foresee_52 : decode cX7_foresee 52 = .ok (.istore 5, 2) := by decide +kernel
theorem dX7_foresee_54 : decode cX7_foresee 54 = .ok (.aload_n 0, 1) := by decide +kernel
theorem dX7_foresee_55 : decode cX7_foresee 55 = .ok (.getfield 9, 3) := by decide +kernel
theorem dX7_foresee_58 : decode cX7_foresee 58 = .ok (.iload_n 2, 1) := by decide +kernel
theorem dX7_foresee_59 : decode cX7_foresee 59 = .ok (.iaload, 1) := by decide +kernel
theorem dX7_foresee_60 : decode cX7_foresee 60 = .ok (.ifCond .ne 34, 3) := by decide +kernel
theorem dX7_foresee_63 : decode cX7_foresee 63 = .ok (.aload_n 3, 1) := by decide +kernel
theorem dX7_foresee_64 : decode cX7_foresee 64 = .ok (.iload 4, 2) := by decide +kernel
theorem dX7_foresee_66 : decode cX7_foresee 66 = .ok (.aload_n 0, 1) := by decide +kernel
theorem dX7_foresee_67 : decode cX7_foresee 67 = .ok (.getfield 21, 3) := by decide +kernel
theorem dX7_foresee_70 : decode cX7_foresee 70 = .ok (.iload_n 2, 1) := by decide +kernel
theorem dX7_foresee_71 : decode cX7_foresee 71 = .ok (.laload, 1) := by decide +kernel
theorem dX7_foresee_72 : decode cX7_foresee 72 = .ok (.invokestatic 41, 3) := by decide +kernel
theorem dX7_foresee_75 : decode cX7_foresee 75 = .ok (.iastore, 1) := by decide +kernel
theorem dX7_foresee_76 : decode cX7_foresee 76 = .ok (.aload_n 3, 1) := by decide +kernel
theorem dX7_foresee_77 : decode cX7_foresee 77 = .ok (.iload 4, 2) := by decide +kernel
theorem dX7_foresee_79 : decode cX7_foresee 79 = .ok (.iconst 1, 1) := by decide +kernel
theorem dX7_foresee_80 : decode cX7_foresee 80 = .ok (.iadd, 1) := by decide +kernel
theorem dX7_foresee_81 : decode cX7_foresee 81 = .ok (.aload_n 0, 1) := by decide +kernel
theorem dX7_foresee_82 : decode cX7_foresee 82 = .ok (.getfield 21, 3) := by decide +kernel
theorem dX7_foresee_85 : decode cX7_foresee 85 = .ok (.iload_n 2, 1) := by decide +kernel
theorem dX7_foresee_86 : decode cX7_foresee 86 = .ok (.laload, 1) := by decide +kernel
theorem dX7_foresee_87 : decode cX7_foresee 87 = .ok (.invokestatic 45, 3) := by decide +kernel
theorem dX7_foresee_90 : decode cX7_foresee 90 = .ok (.iastore, 1) := by decide +kernel
theorem dX7_foresee_91 : decode cX7_foresee 91 = .ok (.goto 45, 3) := by decide +kernel
theorem dX7_foresee_94 : decode cX7_foresee 94 = .ok (.aload_n 0, 1) := by decide +kernel
theorem dX7_foresee_95 : decode cX7_foresee 95 = .ok (.getfield 9, 3) := by decide +kernel
theorem dX7_foresee_98 : decode cX7_foresee 98 = .ok (.iload_n 2, 1) := by decide +kernel
theorem dX7_foresee_99 : decode cX7_foresee 99 = .ok (.iaload, 1) := by decide +kernel
theorem dX7_foresee_100 : decode cX7_foresee 100 = .ok (.iconst 1, 1) := by decide +kernel
theorem dX7_foresee_101 : decode cX7_foresee 101 = .ok (.if_icmp .ne 35, 3) := by decide +kernel
theorem dX7_foresee_104 : decode cX7_foresee 104 = .ok (.aload_n 3, 1) := by decide +kernel
theorem dX7_foresee_105 : decode cX7_foresee 105 = .ok (.iload 5, 2) := by decide +kernel
theorem dX7_foresee_107 : decode cX7_foresee 107 = .ok (.aload_n 3, 1) := by decide +kernel
theorem dX7_foresee_108 : decode cX7_foresee 108 = .ok (.iload 4, 2) := by decide +kernel
theorem dX7_foresee_110 : decode cX7_foresee 110 = .ok (.iaload, 1) := by decide +kernel
theorem dX7_foresee_111 : decode cX7_foresee 111 = .ok (.iastore, 1) := by decide +kernel
theorem dX7_foresee_112 : decode cX7_foresee 112 = .ok (.aload_n 3, 1) := by decide +kernel
theorem dX7_foresee_113 : decode cX7_foresee 113 = .ok (.iload 5, 2) := by decide +kernel
theorem dX7_foresee_115 : decode cX7_foresee 115 = .ok (.iconst 1, 1) := by decide +kernel
theorem dX7_foresee_116 : decode cX7_foresee 116 = .ok (.iadd, 1) := by decide +kernel
theorem dX7_foresee_117 : decode cX7_foresee 117 = .ok (.aload_n 3, 1) := by decide +kernel
theorem dX7_foresee_118 : decode cX7_foresee 118 = .ok (.iload 4, 2) := by decide +kernel
theorem dX7_foresee_120 : decode cX7_foresee 120 = .ok (.iconst 1, 1) := by decide +kernel
theorem dX7_foresee_121 : decode cX7_foresee 121 = .ok (.iadd, 1) := by decide +kernel
theorem dX7_foresee_122 : decode cX7_foresee 122 = .ok (.iaload, 1) := by decide +kernel
theorem dX7_foresee_123 : decode cX7_foresee 123 = .ok (.iastore, 1) := by decide +kernel
theorem dX7_foresee_124 : decode cX7_foresee 124 = .ok (.aload_n 3, 1) := by decide +kernel
theorem dX7_foresee_125 : decode cX7_foresee 125 = .ok (.iload 4, 2) := by decide +kernel
theorem dX7_foresee_127 : decode cX7_foresee 127 = .ok (.iconst 0, 1) := by decide +kernel
theorem dX7_foresee_128 : decode cX7_foresee 128 = .ok (.iastore, 1) := by decide +kernel
theorem dX7_foresee_129 : decode cX7_foresee 129 = .ok (.aload_n 3, 1) := by decide +kernel
theorem dX7_foresee_130 : decode cX7_foresee 130 = .ok (.iload 4, 2) := by decide +kernel
theorem dX7_foresee_132 : decode cX7_foresee 132 = .ok (.iconst 1, 1) := by decide +kernel
theorem dX7_foresee_133 : decode cX7_foresee 133 = .ok (.iadd, 1) := by decide +kernel
theorem dX7_foresee_134 : decode cX7_foresee 134 = .ok (.iconst 0, 1) := by decide +kernel
theorem dX7_foresee_135 : decode cX7_foresee 135 = .ok (.iastore, 1) := by decide +kernel
theorem dX7_foresee_136 : decode cX7_foresee 136 = .ok (.iinc 2 1, 3) := by decide +kernel
theorem dX7_foresee_139 : decode cX7_foresee 139 = .ok (.goto (-130), 3) := by decide +kernel
theorem dX7_foresee_142 : decode cX7_foresee 142 = .ok (.return_, 1) := by decide +kernel
theorem dX8_init_0 : decode cX8_init 0 = .ok (.aload_n 0, 1) := by decide +kernel
theorem dX8_init_1 : decode cX8_init 1 = .ok (.invokespecial 3, 3) := by decide +kernel
theorem dX8_init_4 : decode cX8_init 4 = .ok (.return_, 1) := by decide +kernel
theorem dX8_fences_0 : decode cX8_fences 0 = .ok (.iconst 2, 1) := by decide +kernel
theorem dX8_fences_1 : decode cX8_fences 1 = .ok (.ireturn, 1) := by decide +kernel
theorem dX8_homeOfKeys_0 : decode cX8_homeOfKeys 0 = .ok (.aload_n 0, 1) := by decide +kernel
theorem dX8_homeOfKeys_1 : decode cX8_homeOfKeys 1 = .ok (.aload_n 1, 1) := by decide +kernel
theorem dX8_homeOfKeys_2 : decode cX8_homeOfKeys 2 = .ok (.invokevirtual 9, 3) := by decide +kernel
theorem dX8_homeOfKeys_5 : decode cX8_homeOfKeys 5 = .ok (.istore_n 2, 1) := by decide +kernel
theorem dX8_homeOfKeys_6 : decode cX8_homeOfKeys 6 = .ok (.iload_n 2, 1) := by decide +kernel
theorem dX8_homeOfKeys_7 : decode cX8_homeOfKeys 7 = .ok (.ifCond .ne 7, 3) := by decide +kernel
theorem dX8_homeOfKeys_10 : decode cX8_homeOfKeys 10 = .ok (.iconst (-1), 1) := by decide +kernel
theorem dX8_homeOfKeys_11 : decode cX8_homeOfKeys 11 = .ok (.goto 7, 3) := by decide +kernel
theorem dX8_homeOfKeys_14 : decode cX8_homeOfKeys 14 = .ok (.iload_n 2, 1) := by decide +kernel
theorem dX8_homeOfKeys_15 : decode cX8_homeOfKeys 15 = .ok (.invokestatic 15, 3) := by decide +kernel
theorem dX8_homeOfKeys_18 : decode cX8_homeOfKeys 18 = .ok (.ireturn, 1) := by decide +kernel
theorem dX8_allIsWell_0 : decode cX8_allIsWell 0 = .ok (.aload_n 0, 1) := by decide +kernel
theorem dX8_allIsWell_1 : decode cX8_allIsWell 1 = .ok (.aload_n 1, 1) := by decide +kernel
theorem dX8_allIsWell_2 : decode cX8_allIsWell 2 = .ok (.invokevirtual 9, 3) := by decide +kernel
theorem dX8_allIsWell_5 : decode cX8_allIsWell 5 = .ok (.ifCond .le 7, 3) := by decide +kernel
theorem dX8_allIsWell_8 : decode cX8_allIsWell 8 = .ok (.iconst 1, 1) := by decide +kernel
theorem dX8_allIsWell_9 : decode cX8_allIsWell 9 = .ok (.goto 4, 3) := by decide +kernel
theorem dX8_allIsWell_12 : decode cX8_allIsWell 12 = .ok (.iconst 0, 1) := by decide +kernel
theorem dX8_allIsWell_13 : decode cX8_allIsWell 13 = .ok (.ireturn, 1) := by decide +kernel
theorem dX8_planChange_0 : decode cX8_planChange 0 = .ok (.aload_n 0, 1) := by decide +kernel
theorem dX8_planChange_1 : decode cX8_planChange 1 = .ok (.aload_n 1, 1) := by decide +kernel
theorem dX8_planChange_2 : decode cX8_planChange 2 = .ok (.invokevirtual 9, 3) := by decide +kernel
theorem dX8_planChange_5 : decode cX8_planChange 5 = .ok (.iconst 1, 1) := by decide +kernel
theorem dX8_planChange_6 : decode cX8_planChange 6 = .ok (.iadd, 1) := by decide +kernel
theorem dX8_planChange_7 : decode cX8_planChange 7 = .ok (.istore 9, 2) := by decide +kernel
theorem dX8_planChange_9 : decode cX8_planChange 9 = .ok (.aload_n 0, 1) := by decide +kernel
theorem dX8_planChange_10 : decode cX8_planChange 10 = .ok (.aload_n 1, 1) := by decide +kernel
theorem dX8_planChange_11 : decode cX8_planChange 11 = .ok (.invokevirtual 19, 3) := by decide +kernel
theorem dX8_planChange_14 : decode cX8_planChange 14 = .ok (.istore 10, 2) := by decide +kernel
theorem dX8_planChange_16 : decode cX8_planChange 16 = .ok (.iconst 0, 1) := by decide +kernel
theorem dX8_planChange_17 : decode cX8_planChange 17 = .ok (.istore 11, 2) := by decide +kernel
theorem dX8_planChange_19 : decode cX8_planChange 19 = .ok (.iload 11, 2) := by decide +kernel
theorem dX8_planChange_21 : decode cX8_planChange 21 = .ok (.iconst 3, 1) := by decide +kernel
theorem dX8_planChange_22 : decode cX8_planChange 22 = .ok (.if_icmp .ge 64, 3) := by decide +kernel
theorem dX8_planChange_25 : decode cX8_planChange 25 = .ok (.iload 11, 2) := by decide +kernel
theorem dX8_planChange_27 : decode cX8_planChange 27 = .ok (.iload_n 2, 1) := by decide +kernel
theorem dX8_planChange_28 : decode cX8_planChange 28 = .ok (.if_icmp .ne 7, 3) := by decide +kernel
theorem dX8_planChange_31 : decode cX8_planChange 31 = .ok (.lload_n 3, 1) := by decide +kernel
theorem dX8_planChange_32 : decode cX8_planChange 32 = .ok (.goto 23, 3) := by decide +kernel
theorem dX8_planChange_35 : decode cX8_planChange 35 = .ok (.iload 11, 2) := by decide +kernel
theorem dX8_planChange_37 : decode cX8_planChange 37 = .ok (.iload 5, 2) := by decide +kernel
theorem dX8_planChange_39 : decode cX8_planChange 39 = .ok (.if_icmp .ne 8, 3) := by decide +kernel
theorem dX8_planChange_42 : decode cX8_planChange 42 = .ok (.lload 6, 2) := by decide +kernel
theorem dX8_planChange_44 : decode cX8_planChange 44 = .ok (.goto 11, 3) := by decide +kernel
theorem dX8_planChange_47 : decode cX8_planChange 47 = .ok (.aload_n 1, 1) := by decide +kernel
theorem dX8_planChange_48 : decode cX8_planChange 48 = .ok (.iload 10, 2) := by decide +kernel
theorem dX8_planChange_50 : decode cX8_planChange 50 = .ok (.iload 11, 2) := by decide +kernel
theorem dX8_planChange_52 : decode cX8_planChange 52 = .ok (.invokestatic 22, 3) := by decide +kernel
theorem dX8_planChange_55 : decode cX8_planChange 55 = .ok (.lstore 12, 2) := by decide +kernel
theorem dX8_planChange_57 : decode cX8_planChange 57 = .ok (.aload 8, 2) := by decide +kernel
theorem dX8_planChange_59 : decode cX8_planChange 59 = .ok (.iload 9, 2) := by decide +kernel
theorem dX8_planChange_61 : decode cX8_planChange 61 = .ok (.invokestatic 15, 3) := by decide +kernel
theorem dX8_planChange_64 : decode cX8_planChange 64 = .ok (.iload 11, 2) := by decide +kernel
theorem dX8_planChange_66 : decode cX8_planChange 66 = .ok (.iadd, 1) := by decide +kernel
theorem dX8_planChange_67 : decode cX8_planChange 67 = .ok (.lload 12, 2) := by decide +kernel
theorem dX8_planChange_69 : decode cX8_planChange 69 = .ok (.invokestatic 26, 3) := by decide +kernel
theorem dX8_planChange_72 : decode cX8_planChange 72 = .ok (.lload 12, 2) := by decide +kernel
theorem dX8_planChange_74 : decode cX8_planChange 74 = .ok (.invokestatic 30, 3) := by decide +kernel
theorem dX8_planChange_77 : decode cX8_planChange 77 = .ok (.invokevirtual 33, 3) := by decide +kernel
theorem dX8_planChange_80 : decode cX8_planChange 80 = .ok (.iinc 11 1, 3) := by decide +kernel
theorem dX8_planChange_83 : decode cX8_planChange 83 = .ok (.goto (-64), 3) := by decide +kernel
theorem dX8_planChange_86 : decode cX8_planChange 86 = .ok (.aload 8, 2) := by decide +kernel
theorem dX8_planChange_88 : decode cX8_planChange 88 = .ok (.iconst 0, 1) := by decide +kernel
theorem dX8_planChange_89 : decode cX8_planChange 89 = .ok (.invokevirtual 39, 3) := by decide +kernel
theorem dX8_planChange_92 : decode cX8_planChange 92 = .ok (.aload 8, 2) := by decide +kernel
theorem dX8_planChange_94 : decode cX8_planChange 94 = .ok (.iload 9, 2) := by decide +kernel
theorem dX8_planChange_96 : decode cX8_planChange 96 = .ok (.invokestatic 43, 3) := by decide +kernel
theorem dX8_planChange_99 : decode cX8_planChange 99 = .ok (.ifCond .eq 7, 3) := by decide +kernel
theorem dX8_planChange_102 : decode cX8_planChange 102 = .ok (.iconst 3, 1) := by decide +kernel
theorem dX8_planChange_103 : decode cX8_planChange 103 = .ok (.goto 5, 3) := by decide +kernel
theorem dX8_planChange_106 : decode cX8_planChange 106 = .ok (.bipush 7, 2) := by decide +kernel
theorem dX8_planChange_108 : decode cX8_planChange 108 = .ok (.iload 9, 2) := by decide +kernel
theorem dX8_planChange_110 : decode cX8_planChange 110 = .ok (.iload 9, 2) := by decide +kernel
theorem dX8_planChange_112 : decode cX8_planChange 112 = .ok (.invokestatic 47, 3) := by decide +kernel
theorem dX8_planChange_115 : decode cX8_planChange 115 = .ok (.invokevirtual 33, 3) := by decide +kernel
theorem dX8_planChange_118 : decode cX8_planChange 118 = .ok (.aload 8, 2) := by decide +kernel
theorem dX8_planChange_120 : decode cX8_planChange 120 = .ok (.iconst 1, 1) := by decide +kernel
theorem dX8_planChange_121 : decode cX8_planChange 121 = .ok (.invokevirtual 39, 3) := by decide +kernel
theorem dX8_planChange_124 : decode cX8_planChange 124 = .ok (.return_, 1) := by decide +kernel
theorem dX8_layOut_0 : decode cX8_layOut 0 = .ok (.aload_n 1, 1) := by decide +kernel
theorem dX8_layOut_1 : decode cX8_layOut 1 = .ok (.bipush 6, 2) := by decide +kernel
theorem dX8_layOut_3 : decode cX8_layOut 3 = .ok (.iconst 1, 1) := by decide +kernel
theorem dX8_layOut_4 : decode cX8_layOut 4 = .ok (.iastore, 1) := by decide +kernel
theorem dX8_layOut_5 : decode cX8_layOut 5 = .ok (.aload_n 1, 1) := by decide +kernel
theorem dX8_layOut_6 : decode cX8_layOut 6 = .ok (.bipush 7, 2) := by decide +kernel
theorem dX8_layOut_8 : decode cX8_layOut 8 = .ok (.iconst 1, 1) := by decide +kernel
theorem dX8_layOut_9 : decode cX8_layOut 9 = .ok (.invokestatic 47, 3) := by decide +kernel
theorem dX8_layOut_12 : decode cX8_layOut 12 = .ok (.iastore, 1) := by decide +kernel
theorem dX8_layOut_13 : decode cX8_layOut 13 = .ok (.return_, 1) := by decide +kernel
theorem dX8_version_0 : decode cX8_version 0 = .ok (.aload_n 1, 1) := by decide +kernel
theorem dX8_version_1 : decode cX8_version 1 = .ok (.bipush 6, 2) := by decide +kernel
theorem dX8_version_3 : decode cX8_version 3 = .ok (.iaload, 1) := by decide +kernel
theorem dX8_version_4 : decode cX8_version 4 = .ok (.istore_n 2, 1) := by decide +kernel
theorem dX8_version_5 : decode cX8_version 5 = .ok (.aload_n 1, 1) := by decide +kernel
theorem dX8_version_6 : decode cX8_version 6 = .ok (.bipush 14, 2) := by decide +kernel
theorem dX8_version_8 : decode cX8_version 8 = .ok (.iaload, 1) := by decide +kernel
theorem dX8_version_9 : decode cX8_version 9 = .ok (.istore_n 3, 1) := by decide +kernel
theorem dX8_version_10 : decode cX8_version 10 = .ok (.iload_n 2, 1) := by decide +kernel
theorem dX8_version_11 : decode cX8_version 11 = .ok (.ifCond .le 25, 3) := by decide +kernel
theorem dX8_version_14 : decode cX8_version 14 = .ok (.iload_n 2, 1) := by decide +kernel
theorem dX8_version_15 : decode cX8_version 15 = .ok (.invokestatic 43, 3) := by decide +kernel
theorem dX8_version_18 : decode cX8_version 18 = .ok (.ifCond .eq 18, 3) := by decide +kernel
theorem dX8_version_21 : decode cX8_version 21 = .ok (.aload_n 1, 1) := by decide +kernel
theorem dX8_version_22 : decode cX8_version 22 = .ok (.bipush 7, 2) := by decide +kernel
theorem dX8_version_24 : decode cX8_version 24 = .ok (.iaload, 1) := by decide +kernel
theorem dX8_version_25 : decode cX8_version 25 = .ok (.iload_n 2, 1) := by decide +kernel
theorem dX8_version_26 : decode cX8_version 26 = .ok (.invokestatic 47, 3) := by decide +kernel
theorem dX8_version_29 : decode cX8_version 29 = .ok (.if_icmp .ne 7, 3) := by decide +kernel
theorem dX8_version_32 : decode cX8_version 32 = .ok (.iconst 1, 1) := by decide +kernel
theorem dX8_version_33 : decode cX8_version 33 = .ok (.goto 4, 3) := by decide +kernel
theorem dX8_version_36 : decode cX8_version 36 = .ok (.iconst 0, 1) := by decide +kernel
theorem dX8_version_37 : decode cX8_version 37 = .ok (.istore 4, 2) := by decide +kernel
theorem dX8_version_39 : decode cX8_version 39 = .ok (.iload_n 3, 1) := by decide +kernel
theorem dX8_version_40 : decode cX8_version 40 = .ok (.ifCond .le 25, 3) := by decide +kernel
theorem dX8_version_43 : decode cX8_version 43 = .ok (.iload_n 3, 1) := by decide +kernel
theorem dX8_version_44 : decode cX8_version 44 = .ok (.invokestatic 43, 3) := by decide +kernel
theorem dX8_version_47 : decode cX8_version 47 = .ok (.ifCond .ne 18, 3) := by decide +kernel
theorem dX8_version_50 : decode cX8_version 50 = .ok (.aload_n 1, 1) := by decide +kernel
theorem dX8_version_51 : decode cX8_version 51 = .ok (.bipush 15, 2) := by decide +kernel
theorem dX8_version_53 : decode cX8_version 53 = .ok (.iaload, 1) := by decide +kernel
theorem dX8_version_54 : decode cX8_version 54 = .ok (.iload_n 3, 1) := by decide +kernel
theorem dX8_version_55 : decode cX8_version 55 = .ok (.invokestatic 47, 3) := by decide +kernel
theorem dX8_version_58 : decode cX8_version 58 = .ok (.if_icmp .ne 7, 3) := by decide +kernel
theorem dX8_version_61 : decode cX8_version 61 = .ok (.iconst 1, 1) := by decide +kernel
theorem dX8_version_62 : decode cX8_version 62 = .ok (.goto 4, 3) := by decide +kernel
theorem dX8_version_65 : decode cX8_version 65 = .ok (.iconst 0, 1) := by decide +kernel
theorem dX8_version_66 : decode cX8_version 66 = .ok (.istore 5, 2) := by decide +kernel
theorem dX8_version_68 : decode cX8_version 68 = .ok (.iload 4, 2) := by decide +kernel
theorem dX8_version_70 : decode cX8_version 70 = .ok (.ifCond .eq 7, 3) := by decide +kernel
theorem dX8_version_73 : decode cX8_version 73 = .ok (.iload_n 2, 1) := by decide +kernel
theorem dX8_version_74 : decode cX8_version 74 = .ok (.goto 4, 3) := by decide +kernel
theorem dX8_version_77 : decode cX8_version 77 = .ok (.iconst 0, 1) := by decide +kernel
theorem dX8_version_78 : decode cX8_version 78 = .ok (.iload 5, 2) := by decide +kernel
theorem dX8_version_80 : decode cX8_version 80 = .ok (.ifCond .eq 7, 3) := by decide +kernel
theorem dX8_version_83 : decode cX8_version 83 = .ok (.iload_n 3, 1) := by decide +kernel
theorem dX8_version_84 : decode cX8_version 84 = .ok (.goto 4, 3) := by decide +kernel
theorem dX8_version_87 : decode cX8_version 87 = .ok (.iconst 0, 1) := by decide +kernel
theorem dX8_version_88 : decode cX8_version 88 = .ok (.invokestatic 50, 3) := by decide +kernel
theorem dX8_version_91 : decode cX8_version 91 = .ok (.ireturn, 1) := by decide +kernel
theorem dX8_homeWith_0 : decode cX8_homeWith 0 = .ok (.iload_n 0, 1) := by decide +kernel
theorem dX8_homeWith_1 : decode cX8_homeWith 1 = .ok (.invokestatic 43, 3) := by decide +kernel
theorem dX8_homeWith_4 : decode cX8_homeWith 4 = .ok (.ifCond .eq 7, 3) := by decide +kernel
theorem dX8_homeWith_7 : decode cX8_homeWith 7 = .ok (.iconst 0, 1) := by decide +kernel
theorem dX8_homeWith_8 : decode cX8_homeWith 8 = .ok (.goto 4, 3) := by decide +kernel
theorem dX8_homeWith_11 : decode cX8_homeWith 11 = .ok (.iconst 4, 1) := by decide +kernel
theorem dX8_homeWith_12 : decode cX8_homeWith 12 = .ok (.ireturn, 1) := by decide +kernel
theorem dX8_isOdd_0 : decode cX8_isOdd 0 = .ok (.iload_n 0, 1) := by decide +kernel
theorem dX8_isOdd_1 : decode cX8_isOdd 1 = .ok (.iconst 1, 1) := by decide +kernel
theorem dX8_isOdd_2 : decode cX8_isOdd 2 = .ok (.iand, 1) := by decide +kernel
theorem dX8_isOdd_3 : decode cX8_isOdd 3 = .ok (.ifCond .eq 7, 3) := by decide +kernel
theorem dX8_isOdd_6 : decode cX8_isOdd 6 = .ok (.iconst 1, 1) := by decide +kernel
theorem dX8_isOdd_7 : decode cX8_isOdd 7 = .ok (.goto 4, 3) := by decide +kernel
theorem dX8_isOdd_10 : decode cX8_isOdd 10 = .ok (.iconst 0, 1) := by decide +kernel
theorem dX8_isOdd_11 : decode cX8_isOdd 11 = .ok (.ireturn, 1) := by decide +kernel
theorem dX8_seal_0 : decode cX8_seal 0 = .ok (.bipush 31, 2) := by decide +kernel
theorem dX8_seal_2 : decode cX8_seal 2 = .ok (.iload_n 0, 1) := by decide +kernel
theorem dX8_seal_3 : decode cX8_seal 3 = .ok (.imul, 1) := by decide +kernel
theorem dX8_seal_4 : decode cX8_seal 4 = .ok (.bipush 7, 2) := by decide +kernel
theorem dX8_seal_6 : decode cX8_seal 6 = .ok (.iadd, 1) := by decide +kernel
theorem dX8_seal_7 : decode cX8_seal 7 = .ok (.ireturn, 1) := by decide +kernel
theorem dX9_init_0 : decode cX9_init 0 = .ok (.aload_n 0, 1) := by decide +kernel
theorem dX9_init_1 : decode cX9_init 1 = .ok (.invokespecial 3, 3) := by decide +kernel
theorem dX9_init_4 : decode cX9_init 4 = .ok (.aload_n 0, 1) := by decide +kernel
theorem dX9_init_5 : decode cX9_init 5 = .ok (.bipush 32, 2) := by decide +kernel
theorem dX9_init_7 : decode cX9_init 7 = .ok (.newarray .int, 2) := by decide +kernel
theorem dX9_init_9 : decode cX9_init 9 = .ok (.putfield 9, 3) := by decide +kernel
theorem dX9_init_12 : decode cX9_init 12 = .ok (.aload_n 0, 1) := by decide +kernel
theorem dX9_init_13 : decode cX9_init 13 = .ok (.bipush 32, 2) := by decide +kernel
theorem dX9_init_15 : decode cX9_init 15 = .ok (.newarray .int, 2) := by decide +kernel
theorem dX9_init_17 : decode cX9_init 17 = .ok (.putfield 15, 3) := by decide +kernel
theorem dX9_init_20 : decode cX9_init 20 = .ok (.aload_n 0, 1) := by decide +kernel
theorem dX9_init_21 : decode cX9_init 21 = .ok (.bipush 33, 2) := by decide +kernel
theorem dX9_init_23 : decode cX9_init 23 = .ok (.newarray .int, 2) := by decide +kernel
theorem dX9_init_25 : decode cX9_init 25 = .ok (.putfield 18, 3) := by decide +kernel
theorem dX9_init_28 : decode cX9_init 28 = .ok (.aload_n 0, 1) := by decide +kernel
theorem dX9_init_29 : decode cX9_init 29 = .ok (.sipush 152, 3) := by decide +kernel
theorem dX9_init_32 : decode cX9_init 32 = .ok (.newarray .int, 2) := by decide +kernel
theorem dX9_init_34 : decode cX9_init 34 = .ok (.putfield 21, 3) := by decide +kernel
theorem dX9_init_37 : decode cX9_init 37 = .ok (.aload_n 0, 1) := by decide +kernel
theorem dX9_init_38 : decode cX9_init 38 = .ok (.sipush 152, 3) := by decide +kernel
theorem dX9_init_41 : decode cX9_init 41 = .ok (.newarray .int, 2) := by decide +kernel
theorem dX9_init_43 : decode cX9_init 43 = .ok (.putfield 24, 3) := by decide +kernel
theorem dX9_init_46 : decode cX9_init 46 = .ok (.aload_n 0, 1) := by decide +kernel
theorem dX9_init_47 : decode cX9_init 47 = .ok (.sipush 990, 3) := by decide +kernel
theorem dX9_init_50 : decode cX9_init 50 = .ok (.newarray .int, 2) := by decide +kernel
theorem dX9_init_52 : decode cX9_init 52 = .ok (.putfield 27, 3) := by decide +kernel
theorem dX9_init_55 : decode cX9_init 55 = .ok (.aload_n 0, 1) := by decide +kernel
theorem dX9_init_56 : decode cX9_init 56 = .ok (.bipush 32, 2) := by decide +kernel
theorem dX9_init_58 : decode cX9_init 58 = .ok (.newarray .int, 2) := by decide +kernel
theorem dX9_init_60 : decode cX9_init 60 = .ok (.putfield 30, 3) := by decide +kernel
theorem dX9_init_63 : decode cX9_init 63 = .ok (.aload_n 0, 1) := by decide +kernel
theorem dX9_init_64 : decode cX9_init 64 = .ok (.bipush 33, 2) := by decide +kernel
theorem dX9_init_66 : decode cX9_init 66 = .ok (.newarray .int, 2) := by decide +kernel
theorem dX9_init_68 : decode cX9_init 68 = .ok (.putfield 33, 3) := by decide +kernel
theorem dX9_init_71 : decode cX9_init 71 = .ok (.aload_n 0, 1) := by decide +kernel
theorem dX9_init_72 : decode cX9_init 72 = .ok (.iconst 0, 1) := by decide +kernel
theorem dX9_init_73 : decode cX9_init 73 = .ok (.putfield 36, 3) := by decide +kernel
theorem dX9_init_76 : decode cX9_init 76 = .ok (.aload_n 0, 1) := by decide +kernel
theorem dX9_init_77 : decode cX9_init 77 = .ok (.iconst 0, 1) := by decide +kernel
theorem dX9_init_78 : decode cX9_init 78 = .ok (.putfield 40, 3) := by decide +kernel
theorem dX9_init_81 : decode cX9_init 81 = .ok (.aload_n 0, 1) := by decide +kernel
theorem dX9_init_82 : decode cX9_init 82 = .ok (.iconst 1, 1) := by decide +kernel
theorem dX9_init_83 : decode cX9_init 83 = .ok (.putfield 43, 3) := by decide +kernel
theorem dX9_init_86 : decode cX9_init 86 = .ok (.aload_n 0, 1) := by decide +kernel
theorem dX9_init_87 : decode cX9_init 87 = .ok (.iconst 1, 1) := by decide +kernel
theorem dX9_init_88 : decode cX9_init 88 = .ok (.putfield 46, 3) := by decide +kernel
theorem dX9_init_91 : decode cX9_init 91 = .ok (.aload_n 0, 1) := by decide +kernel
theorem dX9_init_92 : decode cX9_init 92 = .ok (.iconst (-1), 1) := by decide +kernel
theorem dX9_init_93 : decode cX9_init 93 = .ok (.putfield 49, 3) := by decide +kernel
theorem dX9_init_96 : decode cX9_init 96 = .ok (.aload_n 0, 1) := by decide +kernel
theorem dX9_init_97 : decode cX9_init 97 = .ok (.iconst (-1), 1) := by decide +kernel
theorem dX9_init_98 : decode cX9_init 98 = .ok (.putfield 52, 3) := by decide +kernel
theorem dX9_init_101 : decode cX9_init 101 = .ok (.return_, 1) := by decide +kernel
theorem dX9_refresh_0 : decode cX9_refresh 0 = .ok (.aload_n 0, 1) := by decide +kernel
theorem dX9_refresh_1 : decode cX9_refresh 1 = .ok (.getfield 52, 3) := by decide +kernel
theorem dX9_refresh_4 : decode cX9_refresh 4 = .ok (.aload_n 1, 1) := by decide +kernel
theorem dX9_refresh_5 : decode cX9_refresh 5 = .ok (.getfield 55, 3) := by decide +kernel
theorem dX9_refresh_8 : decode cX9_refresh 8 = .ok (.if_icmp .ne 4, 3) := by decide +kernel
theorem dX9_refresh_11 : decode cX9_refresh 11 = .ok (.return_, 1) := by decide +kernel
theorem dX9_refresh_12 : decode cX9_refresh 12 = .ok (.aload_n 0, 1) := by decide +kernel
theorem dX9_refresh_13 : decode cX9_refresh 13 = .ok (.aload_n 1, 1) := by decide +kernel
theorem dX9_refresh_14 : decode cX9_refresh 14 = .ok (.getfield 55, 3) := by decide +kernel
theorem dX9_refresh_17 : decode cX9_refresh 17 = .ok (.putfield 52, 3) := by decide +kernel
theorem dX9_refresh_20 : decode cX9_refresh 20 = .ok (.aload_n 0, 1) := by decide +kernel
theorem dX9_refresh_21 : decode cX9_refresh 21 = .ok (.iconst (-1), 1) := by decide +kernel
theorem dX9_refresh_22 : decode cX9_refresh 22 = .ok (.putfield 49, 3) := by decide +kernel
theorem dX9_refresh_25 : decode cX9_refresh 25 = .ok (.aload_n 0, 1) := by decide +kernel
theorem dX9_refresh_26 : decode cX9_refresh 26 = .ok (.iconst 0, 1) := by decide +kernel
theorem dX9_refresh_27 : decode cX9_refresh 27 = .ok (.putfield 36, 3) := by decide +kernel
theorem dX9_refresh_30 : decode cX9_refresh 30 = .ok (.aload_n 0, 1) := by decide +kernel
theorem dX9_refresh_31 : decode cX9_refresh 31 = .ok (.iconst 0, 1) := by decide +kernel
theorem dX9_refresh_32 : decode cX9_refresh 32 = .ok (.putfield 40, 3) := by decide +kernel
theorem dX9_refresh_35 : decode cX9_refresh 35 = .ok (.aload_n 0, 1) := by decide +kernel
theorem dX9_refresh_36 : decode cX9_refresh 36 = .ok (.aload_n 1, 1) := by decide +kernel
theorem dX9_refresh_37 : decode cX9_refresh 37 = .ok (.getfield 60, 3) := by decide +kernel
theorem dX9_refresh_40 : decode cX9_refresh 40 = .ok (.iconst 1, 1) := by decide +kernel
theorem dX9_refresh_41 : decode cX9_refresh 41 = .ok (.invokestatic 61, 3) := by decide +kernel
theorem dX9_refresh_44 : decode cX9_refresh 44 = .ok (.bipush 30, 2) := by decide +kernel
theorem dX9_refresh_46 : decode cX9_refresh 46 = .ok (.invokestatic 67, 3) := by decide +kernel
theorem dX9_refresh_49 : decode cX9_refresh 49 = .ok (.putfield 43, 3) := by decide +kernel
theorem dX9_refresh_52 : decode cX9_refresh 52 = .ok (.iconst 0, 1) := by decide +kernel
theorem dX9_refresh_53 : decode cX9_refresh 53 = .ok (.istore_n 2, 1) := by decide +kernel
theorem dX9_refresh_54 : decode cX9_refresh 54 = .ok (.iload_n 2, 1) := by decide +kernel
theorem dX9_refresh_55 : decode cX9_refresh 55 = .ok (.bipush 32, 2) := by decide +kernel
theorem dX9_refresh_57 : decode cX9_refresh 57 = .ok (.if_icmp .ge 40, 3) := by decide +kernel
theorem dX9_refresh_60 : decode cX9_refresh 60 = .ok (.aload_n 0, 1) := by decide +kernel
theorem dX9_refresh_61 : decode cX9_refresh 61 = .ok (.getfield 9, 3) := by decide +kernel
theorem dX9_refresh_64 : decode cX9_refresh 64 = .ok (.iload_n 2, 1) := by decide +kernel
theorem dX9_refresh_65 : decode cX9_refresh 65 = .ok (.aload_n 1, 1) := by decide +kernel
theorem dX9_refresh_66 : decode cX9_refresh 66 = .ok (.getfield 70, 3) := by decide +kernel
theorem dX9_refresh_69 : decode cX9_refresh 69 = .ok (.iload_n 2, 1) := by decide +kernel
theorem dX9_refresh_70 : decode cX9_refresh 70 = .ok (.iaload, 1) := by decide +kernel
theorem dX9_refresh_71 : decode cX9_refresh 71 = .ok (.iastore, 1) := by decide +kernel
theorem dX9_refresh_72 : decode cX9_refresh 72 = .ok (.aload_n 1, 1) := by decide +kernel
theorem dX9_refresh_73 : decode cX9_refresh 73 = .ok (.getfield 73, 3) := by decide +kernel
theorem dX9_refresh_76 : decode cX9_refresh 76 = .ok (.iload_n 2, 1) := by decide +kernel
theorem dX9_refresh_77 : decode cX9_refresh 77 = .ok (.iconst 1, 1) := by decide +kernel
theorem dX9_refresh_78 : decode cX9_refresh 78 = .ok (.ishr, 1) := by decide +kernel
theorem dX9_refresh_79 : decode cX9_refresh 79 = .ok (.ishr, 1) := by decide +kernel
theorem dX9_refresh_80 : decode cX9_refresh 80 = .ok (.iconst 1, 1) := by decide +kernel
theorem dX9_refresh_81 : decode cX9_refresh 81 = .ok (.iand, 1) := by decide +kernel
theorem dX9_refresh_82 : decode cX9_refresh 82 = .ok (.ifCond .eq 9, 3) := by decide +kernel
theorem dX9_refresh_85 : decode cX9_refresh 85 = .ok (.aload_n 0, 1) := by decide +kernel
theorem dX9_refresh_86 : decode cX9_refresh 86 = .ok (.aload_n 1, 1) := by decide +kernel
theorem dX9_refresh_87 : decode cX9_refresh 87 = .ok (.iload_n 2, 1) := by decide +kernel
theorem dX9_refresh_88 : decode cX9_refresh 88 = .ok (.invokevirtual 76, 3) := by decide +kernel
theorem dX9_refresh_91 : decode cX9_refresh 91 = .ok (.iinc 2 1, 3) := by decide +kernel
theorem dX9_refresh_94 : decode cX9_refresh 94 = .ok (.goto (-40), 3) := by decide +kernel
theorem dX9_refresh_97 : decode cX9_refresh 97 = .ok (.aload_n 0, 1) := by decide +kernel
theorem dX9_refresh_98 : decode cX9_refresh 98 = .ok (.invokevirtual 80, 3) := by decide +kernel
theorem dX9_refresh_101 : decode cX9_refresh 101 = .ok (.aload_n 0, 1) := by decide +kernel
theorem dX9_refresh_102 : decode cX9_refresh 102 = .ok (.getfield 33, 3) := by decide +kernel
theorem dX9_refresh_105 : decode cX9_refresh 105 = .ok (.iconst 0, 1) := by decide +kernel
theorem dX9_refresh_106 : decode cX9_refresh 106 = .ok (.iconst 0, 1) := by decide +kernel
theorem dX9_refresh_107 : decode cX9_refresh 107 = .ok (.aload_n 0, 1) := by decide +kernel
theorem dX9_refresh_108 : decode cX9_refresh 108 = .ok (.getfield 43, 3) := by decide +kernel
theorem dX9_refresh_111 : decode cX9_refresh 111 = .ok (.iconst 1, 1) := by decide +kernel
theorem dX9_refresh_112 : decode cX9_refresh 112 = .ok (.isub, 1) := by decide +kernel
theorem dX9_refresh_113 : decode cX9_refresh 113 = .ok (.invokestatic 83, 3) := by decide +kernel
theorem dX9_refresh_116 : decode cX9_refresh 116 = .ok (.iastore, 1) := by decide +kernel
theorem dX9_refresh_117 : decode cX9_refresh 117 = .ok (.aload_n 0, 1) := by decide +kernel
theorem dX9_refresh_118 : decode cX9_refresh 118 = .ok (.aload_n 0, 1) := by decide +kernel
theorem dX9_refresh_119 : decode cX9_refresh 119 = .ok (.iconst 0, 1) := by decide +kernel
theorem dX9_refresh_120 : decode cX9_refresh 120 = .ok (.aload_n 0, 1) := by decide +kernel
theorem dX9_refresh_121 : decode cX9_refresh 121 = .ok (.getfield 33, 3) := by decide +kernel
theorem dX9_refresh_124 : decode cX9_refresh 124 = .ok (.iconst 0, 1) := by decide +kernel
theorem dX9_refresh_125 : decode cX9_refresh 125 = .ok (.iaload, 1) := by decide +kernel
theorem dX9_refresh_126 : decode cX9_refresh 126 = .ok (.invokevirtual 86, 3) := by decide +kernel
theorem dX9_refresh_129 : decode cX9_refresh 129 = .ok (.putfield 46, 3) := by decide +kernel
theorem dX9_refresh_132 : decode cX9_refresh 132 = .ok (.return_, 1) := by decide +kernel
theorem dX9_gather_0 : decode cX9_gather 0 = .ok (.iload_n 2, 1) := by decide +kernel
theorem dX9_gather_1 : decode cX9_gather 1 = .ok (.iconst 1, 1) := by decide +kernel
theorem dX9_gather_2 : decode cX9_gather 2 = .ok (.iand, 1) := by decide +kernel
theorem dX9_gather_3 : decode cX9_gather 3 = .ok (.ifCond .ne 10, 3) := by decide +kernel
theorem dX9_gather_6 : decode cX9_gather 6 = .ok (.aload_n 1, 1) := by decide +kernel
theorem dX9_gather_7 : decode cX9_gather 7 = .ok (.getfield 89, 3) := by decide +kernel
theorem dX9_gather_10 : decode cX9_gather 10 = .ok (.goto 7, 3) := by decide +kernel
theorem dX9_gather_13 : decode cX9_gather 13 = .ok (.aload_n 1, 1) := by decide +kernel
theorem dX9_gather_14 : decode cX9_gather 14 = .ok (.getfield 92, 3) := by decide +kernel
theorem dX9_gather_17 : decode cX9_gather 17 = .ok (.astore_n 3, 1) := by decide +kernel
theorem dX9_gather_18 : decode cX9_gather 18 = .ok (.aload_n 1, 1) := by decide +kernel
theorem dX9_gather_19 : decode cX9_gather 19 = .ok (.getfield 70, 3) := by decide +kernel
theorem dX9_gather_22 : decode cX9_gather 22 = .ok (.iload_n 2, 1) := by decide +kernel
theorem dX9_gather_23 : decode cX9_gather 23 = .ok (.iaload, 1) := by decide +kernel
theorem dX9_gather_24 : decode cX9_gather 24 = .ok (.istore 4, 2) := by decide +kernel
theorem dX9_gather_26 : decode cX9_gather 26 = .ok (.iconst 0, 1) := by decide +kernel
theorem dX9_gather_27 : decode cX9_gather 27 = .ok (.istore 5, 2) := by decide +kernel
theorem dX9_gather_29 : decode cX9_gather 29 = .ok (.aload_n 0, 1) := by decide +kernel
theorem dX9_gather_30 : decode cX9_gather 30 = .ok (.getfield 18, 3) := by decide +kernel
theorem dX9_gather_33 : decode cX9_gather 33 = .ok (.aload_n 0, 1) := by decide +kernel
theorem dX9_gather_34 : decode cX9_gather 34 = .ok (.getfield 36, 3) := by decide +kernel
theorem dX9_gather_37 : decode cX9_gather 37 = .ok (.aload_n 0, 1) := by decide +kernel
theorem dX9_gather_38 : decode cX9_gather 38 = .ok (.getfield 40, 3) := by decide +kernel
theorem dX9_gather_41 : decode cX9_gather 41 = .ok (.iastore, 1) := by decide +kernel
theorem dX9_gather_42 : decode cX9_gather 42 = .ok (.iconst 0, 1) := by decide +kernel
theorem dX9_gather_43 : decode cX9_gather 43 = .ok (.istore 6, 2) := by decide +kernel
theorem dX9_gather_45 : decode cX9_gather 45 = .ok (.iload 6, 2) := by decide +kernel
theorem dX9_gather_47 : decode cX9_gather 47 = .ok (.aload_n 1, 1) := by decide +kernel
theorem dX9_gather_48 : decode cX9_gather 48 = .ok (.getfield 95, 3) := by decide +kernel
theorem dX9_gather_51 : decode cX9_gather 51 = .ok (.if_icmp .ge 79, 3) := by decide +kernel
theorem dX9_gather_54 : decode cX9_gather 54 = .ok (.aload_n 1, 1) := by decide +kernel
theorem dX9_gather_55 : decode cX9_gather 55 = .ok (.getfield 98, 3) := by decide +kernel
theorem dX9_gather_58 : decode cX9_gather 58 = .ok (.iload 6, 2) := by decide +kernel
theorem dX9_gather_60 : decode cX9_gather 60 = .ok (.iaload, 1) := by decide +kernel
theorem dX9_gather_61 : decode cX9_gather 61 = .ok (.iload_n 2, 1) := by decide +kernel
theorem dX9_gather_62 : decode cX9_gather 62 = .ok (.iconst 1, 1) := by decide +kernel
theorem dX9_gather_63 : decode cX9_gather 63 = .ok (.ishr, 1) := by decide +kernel
theorem dX9_gather_64 : decode cX9_gather 64 = .ok (.if_icmp .eq 6, 3) := by decide +kernel
theorem dX9_gather_67 : decode cX9_gather 67 = .ok (.goto 57, 3) := by decide +kernel
theorem dX9_gather_70 : decode cX9_gather 70 = .ok (.aload_n 1, 1) := by decide +kernel
theorem dX9_gather_71 : decode cX9_gather 71 = .ok (.getfield 101, 3) := by decide +kernel
theorem dX9_gather_74 : decode cX9_gather 74 = .ok (.iload 6, 2) := by decide +kernel
theorem dX9_gather_76 : decode cX9_gather 76 = .ok (.iaload, 1) := by decide +kernel
theorem dX9_gather_77 : decode cX9_gather 77 = .ok (.istore 7, 2) := by decide +kernel
theorem dX9_gather_79 : decode cX9_gather 79 = .ok (.iload 7, 2) := by decide +kernel
theorem dX9_gather_81 : decode cX9_gather 81 = .ok (.iload 5, 2) := by decide +kernel
theorem dX9_gather_83 : decode cX9_gather 83 = .ok (.if_icmp .lt 22, 3) := by decide +kernel
theorem dX9_gather_86 : decode cX9_gather 86 = .ok (.aload_n 0, 1) := by decide +kernel
theorem dX9_gather_87 : decode cX9_gather 87 = .ok (.iload 4, 2) := by decide +kernel
theorem dX9_gather_89 : decode cX9_gather 89 = .ok (.iload 5, 2) := by decide +kernel
theorem dX9_gather_91 : decode cX9_gather 91 = .ok (.iload 7, 2) := by decide +kernel
theorem dX9_gather_93 : decode cX9_gather 93 = .ok (.invokestatic 83, 3) := by decide +kernel
theorem dX9_gather_96 : decode cX9_gather 96 = .ok (.invokevirtual 104, 3) := by decide +kernel
theorem dX9_gather_99 : decode cX9_gather 99 = .ok (.iload 7, 2) := by decide +kernel
theorem dX9_gather_101 : decode cX9_gather 101 = .ok (.iconst 1, 1) := by decide +kernel
theorem dX9_gather_102 : decode cX9_gather 102 = .ok (.iadd, 1) := by decide +kernel
theorem dX9_gather_103 : decode cX9_gather 103 = .ok (.istore 5, 2) := by decide +kernel
theorem dX9_gather_105 : decode cX9_gather 105 = .ok (.aload_n 3, 1) := by decide +kernel
theorem dX9_gather_106 : decode cX9_gather 106 = .ok (.iload 6, 2) := by decide +kernel
theorem dX9_gather_108 : decode cX9_gather 108 = .ok (.iaload, 1) := by decide +kernel
theorem dX9_gather_109 : decode cX9_gather 109 = .ok (.istore 4, 2) := by decide +kernel
theorem dX9_gather_111 : decode cX9_gather 111 = .ok (.aload_n 0, 1) := by decide +kernel
theorem dX9_gather_112 : decode cX9_gather 112 = .ok (.iload 4, 2) := by decide +kernel
theorem dX9_gather_114 : decode cX9_gather 114 = .ok (.iload 7, 2) := by decide +kernel
theorem dX9_gather_116 : decode cX9_gather 116 = .ok (.iload 7, 2) := by decide +kernel
theorem dX9_gather_118 : decode cX9_gather 118 = .ok (.invokestatic 83, 3) := by decide +kernel
theorem dX9_gather_121 : decode cX9_gather 121 = .ok (.invokevirtual 104, 3) := by decide +kernel
theorem dX9_gather_124 : decode cX9_gather 124 = .ok (.iinc 6 1, 3) := by decide +kernel
theorem dX9_gather_127 : decode cX9_gather 127 = .ok (.goto (-82), 3) := by decide +kernel
theorem dX9_gather_130 : decode cX9_gather 130 = .ok (.iload 5, 2) := by decide +kernel
theorem dX9_gather_132 : decode cX9_gather 132 = .ok (.aload_n 0, 1) := by decide +kernel
theorem dX9_gather_133 : decode cX9_gather 133 = .ok (.getfield 43, 3) := by decide +kernel
theorem dX9_gather_136 : decode cX9_gather 136 = .ok (.if_icmp .ge 20, 3) := by decide +kernel
theorem dX9_gather_139 : decode cX9_gather 139 = .ok (.aload_n 0, 1) := by decide +kernel
theorem dX9_gather_140 : decode cX9_gather 140 = .ok (.iload 4, 2) := by decide +kernel
theorem dX9_gather_142 : decode cX9_gather 142 = .ok (.iload 5, 2) := by decide +kernel
theorem dX9_gather_144 : decode cX9_gather 144 = .ok (.aload_n 0, 1) := by decide +kernel
theorem dX9_gather_145 : decode cX9_gather 145 = .ok (.getfield 43, 3) := by decide +kernel
theorem dX9_gather_148 : decode cX9_gather 148 = .ok (.iconst 1, 1) := by decide +kernel
theorem dX9_gather_149 : decode cX9_gather 149 = .ok (.isub, 1) := by decide +kernel
theorem dX9_gather_150 : decode cX9_gather 150 = .ok (.invokestatic 83, 3) := by decide +kernel
theorem dX9_gather_153 : decode cX9_gather 153 = .ok (.invokevirtual 104, 3) := by decide +kernel
theorem dX9_gather_156 : decode cX9_gather 156 = .ok (.aload_n 0, 1) := by decide +kernel
theorem dX9_gather_157 : decode cX9_gather 157 = .ok (.getfield 40, 3) := by decide +kernel
theorem dX9_gather_160 : decode cX9_gather 160 = .ok (.aload_n 0, 1) := by decide +kernel
theorem dX9_gather_161 : decode cX9_gather 161 = .ok (.getfield 18, 3) := by decide +kernel
theorem dX9_gather_164 : decode cX9_gather 164 = .ok (.aload_n 0, 1) := by decide +kernel
theorem dX9_gather_165 : decode cX9_gather 165 = .ok (.getfield 36, 3) := by decide +kernel
theorem dX9_gather_168 : decode cX9_gather 168 = .ok (.iaload, 1) := by decide +kernel
theorem dX9_gather_169 : decode cX9_gather 169 = .ok (.isub, 1) := by decide +kernel
theorem dX9_gather_170 : decode cX9_gather 170 = .ok (.iconst 1, 1) := by decide +kernel
theorem dX9_gather_171 : decode cX9_gather 171 = .ok (.if_icmp .le 39, 3) := by decide +kernel
theorem dX9_gather_174 : decode cX9_gather 174 = .ok (.aload_n 0, 1) := by decide +kernel
theorem dX9_gather_175 : decode cX9_gather 175 = .ok (.getfield 15, 3) := by decide +kernel
theorem dX9_gather_178 : decode cX9_gather 178 = .ok (.aload_n 0, 1) := by decide +kernel
theorem dX9_gather_179 : decode cX9_gather 179 = .ok (.getfield 36, 3) := by decide +kernel
theorem dX9_gather_182 : decode cX9_gather 182 = .ok (.iload_n 2, 1) := by decide +kernel
theorem dX9_gather_183 : decode cX9_gather 183 = .ok (.iastore, 1) := by decide +kernel
theorem dX9_gather_184 : decode cX9_gather 184 = .ok (.aload_n 0, 1) := by decide +kernel
theorem dX9_gather_185 : decode cX9_gather 185 = .ok (.dup, 1) := by decide +kernel
theorem dX9_gather_186 : decode cX9_gather 186 = .ok (.getfield 36, 3) := by decide +kernel
theorem dX9_gather_189 : decode cX9_gather 189 = .ok (.iconst 1, 1) := by decide +kernel
theorem dX9_gather_190 : decode cX9_gather 190 = .ok (.iadd, 1) := by decide +kernel
theorem dX9_gather_191 : decode cX9_gather 191 = .ok (.putfield 36, 3) := by decide +kernel
theorem dX9_gather_194 : decode cX9_gather 194 = .ok (.aload_n 0, 1) := by decide +kernel
theorem dX9_gather_195 : decode cX9_gather 195 = .ok (.getfield 18, 3) := by decide +kernel
theorem dX9_gather_198 : decode cX9_gather 198 = .ok (.aload_n 0, 1) := by decide +kernel
theorem dX9_gather_199 : decode cX9_gather 199 = .ok (.getfield 36, 3) := by decide +kernel
theorem dX9_gather_202 : decode cX9_gather 202 = .ok (.aload_n 0, 1) := by decide +kernel
theorem dX9_gather_203 : decode cX9_gather 203 = .ok (.getfield 40, 3) := by decide +kernel
theorem dX9_gather_206 : decode cX9_gather 206 = .ok (.iastore, 1) := by decide +kernel
theorem dX9_gather_207 : decode cX9_gather 207 = .ok (.goto 16, 3) := by decide +kernel
theorem dX9_gather_210 : decode cX9_gather 210 = .ok (.aload_n 0, 1) := by decide +kernel
theorem dX9_gather_211 : decode cX9_gather 211 = .ok (.aload_n 0, 1) := by decide +kernel
theorem dX9_gather_212 : decode cX9_gather 212 = .ok (.getfield 18, 3) := by decide +kernel
theorem dX9_gather_215 : decode cX9_gather 215 = .ok (.aload_n 0, 1) := by decide +kernel
theorem dX9_gather_216 : decode cX9_gather 216 = .ok (.getfield 36, 3) := by decide +kernel
theorem dX9_gather_219 : decode cX9_gather 219 = .ok (.iaload, 1) := by decide +kernel
theorem dX9_gather_220 : decode cX9_gather 220 = .ok (.putfield 40, 3) := by decide +kernel
theorem dX9_gather_223 : decode cX9_gather 223 = .ok (.return_, 1) := by decide +kernel
theorem dX9_allow_0 : decode cX9_allow 0 = .ok (.aload_n 0, 1) := by decide +kernel
theorem dX9_allow_1 : decode cX9_allow 1 = .ok (.getfield 18, 3) := by decide +kernel
theorem dX9_allow_4 : decode cX9_allow 4 = .ok (.aload_n 0, 1) := by decide +kernel
theorem dX9_allow_5 : decode cX9_allow 5 = .ok (.getfield 36, 3) := by decide +kernel
theorem dX9_allow_8 : decode cX9_allow 8 = .ok (.iaload, 1) := by decide +kernel
theorem dX9_allow_9 : decode cX9_allow 9 = .ok (.istore_n 3, 1) := by decide +kernel
theorem dX9_allow_10 : decode cX9_allow 10 = .ok (.iload_n 3, 1) := by decide +kernel
theorem dX9_allow_11 : decode cX9_allow 11 = .ok (.aload_n 0, 1) := by decide +kernel
theorem dX9_allow_12 : decode cX9_allow 12 = .ok (.getfield 40, 3) := by decide +kernel
theorem dX9_allow_15 : decode cX9_allow 15 = .ok (.if_icmp .ge 19, 3) := by decide +kernel
theorem dX9_allow_18 : decode cX9_allow 18 = .ok (.aload_n 0, 1) := by decide +kernel
theorem dX9_allow_19 : decode cX9_allow 19 = .ok (.getfield 21, 3) := by decide +kernel
theorem dX9_allow_22 : decode cX9_allow 22 = .ok (.iload_n 3, 1) := by decide +kernel
theorem dX9_allow_23 : decode cX9_allow 23 = .ok (.iaload, 1) := by decide +kernel
theorem dX9_allow_24 : decode cX9_allow 24 = .ok (.iload_n 1, 1) := by decide +kernel
theorem dX9_allow_25 : decode cX9_allow 25 = .ok (.if_icmp .ge 9, 3) := by decide +kernel
theorem dX9_allow_28 : decode cX9_allow 28 = .ok (.iinc 3 1, 3) := by decide +kernel
theorem dX9_allow_31 : decode cX9_allow 31 = .ok (.goto (-21), 3) := by decide +kernel
theorem dX9_allow_34 : decode cX9_allow 34 = .ok (.iload_n 3, 1) := by decide +kernel
theorem dX9_allow_35 : decode cX9_allow 35 = .ok (.aload_n 0, 1) := by decide +kernel
theorem dX9_allow_36 : decode cX9_allow 36 = .ok (.getfield 40, 3) := by decide +kernel
theorem dX9_allow_39 : decode cX9_allow 39 = .ok (.if_icmp .ge 24, 3) := by decide +kernel
theorem dX9_allow_42 : decode cX9_allow 42 = .ok (.aload_n 0, 1) := by decide +kernel
theorem dX9_allow_43 : decode cX9_allow 43 = .ok (.getfield 21, 3) := by decide +kernel
theorem dX9_allow_46 : decode cX9_allow 46 = .ok (.iload_n 3, 1) := by decide +kernel
theorem dX9_allow_47 : decode cX9_allow 47 = .ok (.iaload, 1) := by decide +kernel
theorem dX9_allow_48 : decode cX9_allow 48 = .ok (.iload_n 1, 1) := by decide +kernel
theorem dX9_allow_49 : decode cX9_allow 49 = .ok (.if_icmp .ne 14, 3) := by decide +kernel
theorem dX9_allow_52 : decode cX9_allow 52 = .ok (.aload_n 0, 1) := by decide +kernel
theorem dX9_allow_53 : decode cX9_allow 53 = .ok (.getfield 24, 3) := by decide +kernel
theorem dX9_allow_56 : decode cX9_allow 56 = .ok (.iload_n 3, 1) := by decide +kernel
theorem dX9_allow_57 : decode cX9_allow 57 = .ok (.dup2, 1) := by decide +kernel
theorem dX9_allow_58 : decode cX9_allow 58 = .ok (.iaload, 1) := by decide +kernel
theorem dX9_allow_59 : decode cX9_allow 59 = .ok (.iload_n 2, 1) := by decide +kernel
theorem dX9_allow_60 : decode cX9_allow 60 = .ok (.ior, 1) := by decide +kernel
theorem dX9_allow_61 : decode cX9_allow 61 = .ok (.iastore, 1) := by decide +kernel
theorem dX9_allow_62 : decode cX9_allow 62 = .ok (.return_, 1) := by decide +kernel
theorem dX9_allow_63 : decode cX9_allow 63 = .ok (.aload_n 0, 1) := by decide +kernel
theorem dX9_allow_64 : decode cX9_allow 64 = .ok (.getfield 40, 3) := by decide +kernel
theorem dX9_allow_67 : decode cX9_allow 67 = .ok (.sipush 152, 3) := by decide +kernel
theorem dX9_allow_70 : decode cX9_allow 70 = .ok (.if_icmp .lt 4, 3) := by decide +kernel
theorem dX9_allow_73 : decode cX9_allow 73 = .ok (.return_, 1) := by decide +kernel
theorem dX9_allow_74 : decode cX9_allow 74 = .ok (.aload_n 0, 1) := by decide +kernel
theorem dX9_allow_75 : decode cX9_allow 75 = .ok (.getfield 40, 3) := by decide +kernel
theorem dX9_allow_78 : decode cX9_allow 78 = .ok (.istore 4, 2) := by decide +kernel
theorem dX9_allow_80 : decode cX9_allow 80 = .ok (.iload 4, 2) := by decide +kernel
theorem dX9_allow_82 : decode cX9_allow 82 = .ok (.iload_n 3, 1) := by decide +kernel
theorem dX9_allow_83 : decode cX9_allow 83 = .ok (.if_icmp .le 41, 3) := by decide +kernel
theorem dX9_allow_86 : decode cX9_allow 86 = .ok (.aload_n 0, 1) := by decide +kernel
theorem dX9_allow_87 : decode cX9_allow 87 = .ok (.getfield 21, 3) := by decide +kernel
theorem dX9_allow_90 : decode cX9_allow 90 = .ok (.iload 4, 2) := by decide +kernel
theorem dX9_allow_92 : decode cX9_allow 92 = .ok (.aload_n 0, 1) := by decide +kernel
theorem dX9_allow_93 : decode cX9_allow 93 = .ok (.getfield 21, 3) := by decide +kernel
theorem dX9_allow_96 : decode cX9_allow 96 = .ok (.iload 4, 2) := by decide +kernel
theorem dX9_allow_98 : decode cX9_allow 98 = .ok (.iconst 1, 1) := by decide +kernel
theorem dX9_allow_99 : decode cX9_allow 99 = .ok (.isub, 1) := by decide +kernel
theorem dX9_allow_100 : decode cX9_allow 100 = .ok (.iaload, 1) := by decide +kernel
theorem dX9_allow_101 : decode cX9_allow 101 = .ok (.iastore, 1) := by decide +kernel
theorem dX9_allow_102 : decode cX9_allow 102 = .ok (.aload_n 0, 1) := by decide +kernel
theorem dX9_allow_103 : decode cX9_allow 103 = .ok (.getfield 24, 3) := by decide +kernel
theorem dX9_allow_106 : decode cX9_allow 106 = .ok (.iload 4, 2) := by decide +kernel
theorem dX9_allow_108 : decode cX9_allow 108 = .ok (.aload_n 0, 1) := by decide +kernel
theorem dX9_allow_109 : decode cX9_allow 109 = .ok (.getfield 24, 3) := by decide +kernel
theorem dX9_allow_112 : decode cX9_allow 112 = .ok (.iload 4, 2) := by decide +kernel
theorem dX9_allow_114 : decode cX9_allow 114 = .ok (.iconst 1, 1) := by decide +kernel
theorem dX9_allow_115 : decode cX9_allow 115 = .ok (.isub, 1) := by decide +kernel
theorem dX9_allow_116 : decode cX9_allow 116 = .ok (.iaload, 1) := by decide +kernel
theorem dX9_allow_117 : decode cX9_allow 117 = .ok (.iastore, 1) := by decide +kernel
theorem dX9_allow_118 : decode cX9_allow 118 = .ok (.iinc 4 (-1), 3) := by decide +kernel
theorem dX9_allow_121 : decode cX9_allow 121 = .ok (.goto (-41), 3) := by decide +kernel
theorem dX9_allow_124 : decode cX9_allow 124 = .ok (.aload_n 0, 1) := by decide +kernel
theorem dX9_allow_125 : decode cX9_allow 125 = .ok (.getfield 21, 3) := by decide +kernel
theorem dX9_allow_128 : decode cX9_allow 128 = .ok (.iload_n 3, 1) := by decide +kernel
theorem dX9_allow_129 : decode cX9_allow 129 = .ok (.iload_n 1, 1) := by decide +kernel
theorem dX9_allow_130 : decode cX9_allow 130 = .ok (.iastore, 1) := by decide +kernel
theorem dX9_allow_131 : decode cX9_allow 131 = .ok (.aload_n 0, 1) := by decide +kernel
theorem dX9_allow_132 : decode cX9_allow 132 = .ok (.getfield 24, 3) := by decide +kernel
theorem dX9_allow_135 : decode cX9_allow 135 = .ok (.iload_n 3, 1) := by decide +kernel
theorem dX9_allow_136 : decode cX9_allow 136 = .ok (.iload_n 2, 1) := by decide +kernel
theorem dX9_allow_137 : decode cX9_allow 137 = .ok (.iastore, 1) := by decide +kernel
theorem dX9_allow_138 : decode cX9_allow 138 = .ok (.aload_n 0, 1) := by decide +kernel
theorem dX9_allow_139 : decode cX9_allow 139 = .ok (.dup, 1) := by decide +kernel
theorem dX9_allow_140 : decode cX9_allow 140 = .ok (.getfield 40, 3) := by decide +kernel
theorem dX9_allow_143 : decode cX9_allow 143 = .ok (.iconst 1, 1) := by decide +kernel
theorem dX9_allow_144 : decode cX9_allow 144 = .ok (.iadd, 1) := by decide +kernel
theorem dX9_allow_145 : decode cX9_allow 145 = .ok (.putfield 40, 3) := by decide +kernel
theorem dX9_allow_148 : decode cX9_allow 148 = .ok (.return_, 1) := by decide +kernel
theorem dX9_span_0 : decode cX9_span 0 = .ok (.iconst 1, 1) := by decide +kernel
theorem dX9_span_1 : decode cX9_span 1 = .ok (.iload_n 1, 1) := by decide +kernel
theorem dX9_span_2 : decode cX9_span 2 = .ok (.iload_n 0, 1) := by decide +kernel
theorem dX9_span_3 : decode cX9_span 3 = .ok (.isub, 1) := by decide +kernel
theorem dX9_span_4 : decode cX9_span 4 = .ok (.iconst 1, 1) := by decide +kernel
theorem dX9_span_5 : decode cX9_span 5 = .ok (.iadd, 1) := by decide +kernel
theorem dX9_span_6 : decode cX9_span 6 = .ok (.ishl, 1) := by decide +kernel
theorem dX9_span_7 : decode cX9_span 7 = .ok (.iconst 1, 1) := by decide +kernel
theorem dX9_span_8 : decode cX9_span 8 = .ok (.isub, 1) := by decide +kernel
theorem dX9_span_9 : decode cX9_span 9 = .ok (.iload_n 0, 1) := by decide +kernel
theorem dX9_span_10 : decode cX9_span 10 = .ok (.ishl, 1) := by decide +kernel
theorem dX9_span_11 : decode cX9_span 11 = .ok (.ireturn, 1) := by decide +kernel
theorem dX9_countAlone_0 : decode cX9_countAlone 0 = .ok (.iconst 0, 1) := by decide +kernel
theorem dX9_countAlone_1 : decode cX9_countAlone 1 = .ok (.istore_n 1, 1) := by decide +kernel
theorem dX9_countAlone_2 : decode cX9_countAlone 2 = .ok (.iload_n 1, 1) := by decide +kernel
theorem dX9_countAlone_3 : decode cX9_countAlone 3 = .ok (.aload_n 0, 1) := by decide +kernel
theorem dX9_countAlone_4 : decode cX9_countAlone 4 = .ok (.getfield 43, 3) := by decide +kernel
theorem dX9_countAlone_7 : decode cX9_countAlone 7 = .ok (.if_icmp .ge 78, 3) := by decide +kernel
theorem dX9_countAlone_10 : decode cX9_countAlone 10 = .ok (.iload_n 1, 1) := by decide +kernel
theorem dX9_countAlone_11 : decode cX9_countAlone 11 = .ok (.bipush 33, 2) := by decide +kernel
theorem dX9_countAlone_13 : decode cX9_countAlone 13 = .ok (.imul, 1) := by decide +kernel
theorem dX9_countAlone_14 : decode cX9_countAlone 14 = .ok (.istore_n 2, 1) := by decide +kernel
theorem dX9_countAlone_15 : decode cX9_countAlone 15 = .ok (.aload_n 0, 1) := by decide +kernel
theorem dX9_countAlone_16 : decode cX9_countAlone 16 = .ok (.getfield 27, 3) := by decide +kernel
theorem dX9_countAlone_19 : decode cX9_countAlone 19 = .ok (.iload_n 2, 1) := by decide +kernel
theorem dX9_countAlone_20 : decode cX9_countAlone 20 = .ok (.aload_n 0, 1) := by decide +kernel
theorem dX9_countAlone_21 : decode cX9_countAlone 21 = .ok (.getfield 36, 3) := by decide +kernel
theorem dX9_countAlone_24 : decode cX9_countAlone 24 = .ok (.iadd, 1) := by decide +kernel
theorem dX9_countAlone_25 : decode cX9_countAlone 25 = .ok (.iconst 1, 1) := by decide +kernel
theorem dX9_countAlone_26 : decode cX9_countAlone 26 = .ok (.iastore, 1) := by decide +kernel
theorem dX9_countAlone_27 : decode cX9_countAlone 27 = .ok (.aload_n 0, 1) := by decide +kernel
theorem dX9_countAlone_28 : decode cX9_countAlone 28 = .ok (.getfield 36, 3) := by decide +kernel
theorem dX9_countAlone_31 : decode cX9_countAlone 31 = .ok (.iconst 1, 1) := by decide +kernel
theorem dX9_countAlone_32 : decode cX9_countAlone 32 = .ok (.isub, 1) := by decide +kernel
theorem dX9_countAlone_33 : decode cX9_countAlone 33 = .ok (.istore_n 3, 1) := by decide +kernel
theorem dX9_countAlone_34 : decode cX9_countAlone 34 = .ok (.iload_n 3, 1) := by decide +kernel
theorem dX9_countAlone_35 : decode cX9_countAlone 35 = .ok (.ifCond .lt 44, 3) := by decide +kernel
theorem dX9_countAlone_38 : decode cX9_countAlone 38 = .ok (.aload_n 0, 1) := by decide +kernel
theorem dX9_countAlone_39 : decode cX9_countAlone 39 = .ok (.getfield 27, 3) := by decide +kernel
theorem dX9_countAlone_42 : decode cX9_countAlone 42 = .ok (.iload_n 2, 1) := by decide +kernel
theorem dX9_countAlone_43 : decode cX9_countAlone 43 = .ok (.iload_n 3, 1) := by decide +kernel
theorem dX9_countAlone_44 : decode cX9_countAlone 44 = .ok (.iadd, 1) := by decide +kernel
theorem dX9_countAlone_45 : decode cX9_countAlone 45 = .ok (.iconst 1, 1) := by decide +kernel
theorem dX9_countAlone_46 : decode cX9_countAlone 46 = .ok (.iadd, 1) := by decide +kernel
theorem dX9_countAlone_47 : decode cX9_countAlone 47 = .ok (.iaload, 1) := by decide +kernel
theorem dX9_countAlone_48 : decode cX9_countAlone 48 = .ok (.aload_n 0, 1) := by decide +kernel
theorem dX9_countAlone_49 : decode cX9_countAlone 49 = .ok (.iload_n 1, 1) := by decide +kernel
theorem dX9_countAlone_50 : decode cX9_countAlone 50 = .ok (.iload_n 3, 1) := by decide +kernel
theorem dX9_countAlone_51 : decode cX9_countAlone 51 = .ok (.invokevirtual 108, 3) := by decide +kernel
theorem dX9_countAlone_54 : decode cX9_countAlone 54 = .ok (.imul, 1) := by decide +kernel
theorem dX9_countAlone_55 : decode cX9_countAlone 55 = .ok (.istore 4, 2) := by decide +kernel
theorem dX9_countAlone_57 : decode cX9_countAlone 57 = .ok (.aload_n 0, 1) := by decide +kernel
theorem dX9_countAlone_58 : decode cX9_countAlone 58 = .ok (.getfield 27, 3) := by decide +kernel
theorem dX9_countAlone_61 : decode cX9_countAlone 61 = .ok (.iload_n 2, 1) := by decide +kernel
theorem dX9_countAlone_62 : decode cX9_countAlone 62 = .ok (.iload_n 3, 1) := by decide +kernel
theorem dX9_countAlone_63 : decode cX9_countAlone 63 = .ok (.iadd, 1) := by decide +kernel
theorem dX9_countAlone_64 : decode cX9_countAlone 64 = .ok (.sipush 4097, 3) := by decide +kernel
theorem dX9_countAlone_67 : decode cX9_countAlone 67 = .ok (.iload 4, 2) := by decide +kernel
theorem dX9_countAlone_69 : decode cX9_countAlone 69 = .ok (.invokestatic 67, 3) := by decide +kernel
theorem dX9_countAlone_72 : decode cX9_countAlone 72 = .ok (.iastore, 1) := by decide +kernel
theorem dX9_countAlone_73 : decode cX9_countAlone 73 = .ok (.iinc 3 (-1), 3) := by decide +kernel
theorem dX9_countAlone_76 : decode cX9_countAlone 76 = .ok (.goto (-42), 3) := by decide +kernel
theorem dX9_countAlone_79 : decode cX9_countAlone 79 = .ok (.iinc 1 1, 3) := by decide +kernel
theorem dX9_countAlone_82 : decode cX9_countAlone 82 = .ok (.goto (-80), 3) := by decide +kernel
theorem dX9_countAlone_85 : decode cX9_countAlone 85 = .ok (.return_, 1) := by decide +kernel
theorem dX9_choicesOf_0 : decode cX9_choicesOf 0 = .ok (.iconst 0, 1) := by decide +kernel
theorem dX9_choicesOf_1 : decode cX9_choicesOf 1 = .ok (.istore_n 3, 1) := by decide +kernel
theorem dX9_choicesOf_2 : decode cX9_choicesOf 2 = .ok (.aload_n 0, 1) := by decide +kernel
theorem dX9_choicesOf_3 : decode cX9_choicesOf 3 = .ok (.getfield 18, 3) := by decide +kernel
theorem dX9_choicesOf_6 : decode cX9_choicesOf 6 = .ok (.iload_n 2, 1) := by decide +kernel
theorem dX9_choicesOf_7 : decode cX9_choicesOf 7 = .ok (.iaload, 1) := by decide +kernel
theorem dX9_choicesOf_8 : decode cX9_choicesOf 8 = .ok (.istore 4, 2) := by decide +kernel
theorem dX9_choicesOf_10 : decode cX9_choicesOf 10 = .ok (.iload 4, 2) := by decide +kernel
theorem dX9_choicesOf_12 : decode cX9_choicesOf 12 = .ok (.aload_n 0, 1) := by decide +kernel
theorem dX9_choicesOf_13 : decode cX9_choicesOf 13 = .ok (.getfield 18, 3) := by decide +kernel
theorem dX9_choicesOf_16 : decode cX9_choicesOf 16 = .ok (.iload_n 2, 1) := by decide +kernel
theorem dX9_choicesOf_17 : decode cX9_choicesOf 17 = .ok (.iconst 1, 1) := by decide +kernel
theorem dX9_choicesOf_18 : decode cX9_choicesOf 18 = .ok (.iadd, 1) := by decide +kernel
theorem dX9_choicesOf_19 : decode cX9_choicesOf 19 = .ok (.iaload, 1) := by decide +kernel
theorem dX9_choicesOf_20 : decode cX9_choicesOf 20 = .ok (.if_icmp .ge 23, 3) := by decide +kernel
theorem dX9_choicesOf_23 : decode cX9_choicesOf 23 = .ok (.iload_n 3, 1) := by decide +kernel
theorem dX9_choicesOf_24 : decode cX9_choicesOf 24 = .ok (.aload_n 0, 1) := by decide +kernel
theorem dX9_choicesOf_25 : decode cX9_choicesOf 25 = .ok (.getfield 24, 3) := by decide +kernel
theorem dX9_choicesOf_28 : decode cX9_choicesOf 28 = .ok (.iload 4, 2) := by decide +kernel
theorem dX9_choicesOf_30 : decode cX9_choicesOf 30 = .ok (.iaload, 1) := by decide +kernel
theorem dX9_choicesOf_31 : decode cX9_choicesOf 31 = .ok (.iload_n 1, 1) := by decide +kernel
theorem dX9_choicesOf_32 : decode cX9_choicesOf 32 = .ok (.ishr, 1) := by decide +kernel
theorem dX9_choicesOf_33 : decode cX9_choicesOf 33 = .ok (.iconst 1, 1) := by decide +kernel
theorem dX9_choicesOf_34 : decode cX9_choicesOf 34 = .ok (.iand, 1) := by decide +kernel
theorem dX9_choicesOf_35 : decode cX9_choicesOf 35 = .ok (.iadd, 1) := by decide +kernel
theorem dX9_choicesOf_36 : decode cX9_choicesOf 36 = .ok (.istore_n 3, 1) := by decide +kernel
theorem dX9_choicesOf_37 : decode cX9_choicesOf 37 = .ok (.iinc 4 1, 3) := by decide +kernel
theorem dX9_choicesOf_40 : decode cX9_choicesOf 40 = .ok (.goto (-30), 3) := by decide +kernel
theorem dX9_choicesOf_43 : decode cX9_choicesOf 43 = .ok (.iload_n 3, 1) := by decide +kernel
theorem dX9_choicesOf_44 : decode cX9_choicesOf 44 = .ok (.ireturn, 1) := by decide +kernel
theorem dX9_countFrom_0 : decode cX9_countFrom 0 = .ok (.iload_n 2, 1) := by decide +kernel
theorem dX9_countFrom_1 : decode cX9_countFrom 1 = .ok (.ifCond .ne 5, 3) := by decide +kernel
theorem dX9_countFrom_4 : decode cX9_countFrom 4 = .ok (.iconst 0, 1) := by decide +kernel
theorem dX9_countFrom_5 : decode cX9_countFrom 5 = .ok (.ireturn, 1) := by decide +kernel
theorem dX9_countFrom_6 : decode cX9_countFrom 6 = .ok (.iload_n 1, 1) := by decide +kernel
theorem dX9_countFrom_7 : decode cX9_countFrom 7 = .ok (.aload_n 0, 1) := by decide +kernel
theorem dX9_countFrom_8 : decode cX9_countFrom 8 = .ok (.getfield 36, 3) := by decide +kernel
theorem dX9_countFrom_11 : decode cX9_countFrom 11 = .ok (.if_icmp .lt 5, 3) := by decide +kernel
theorem dX9_countFrom_14 : decode cX9_countFrom 14 = .ok (.iconst 1, 1) := by decide +kernel
theorem dX9_countFrom_15 : decode cX9_countFrom 15 = .ok (.ireturn, 1) := by decide +kernel
theorem dX9_countFrom_16 : decode cX9_countFrom 16 = .ok (.iload_n 2, 1) := by decide +kernel
theorem dX9_countFrom_17 : decode cX9_countFrom 17 = .ok (.iload_n 2, 1) := by decide +kernel
theorem dX9_countFrom_18 : decode cX9_countFrom 18 = .ok (.iconst 1, 1) := by decide +kernel
theorem dX9_countFrom_19 : decode cX9_countFrom 19 = .ok (.isub, 1) := by decide +kernel
theorem dX9_countFrom_20 : decode cX9_countFrom 20 = .ok (.iand, 1) := by decide +kernel
theorem dX9_countFrom_21 : decode cX9_countFrom 21 = .ok (.ifCond .ne 20, 3) := by decide +kernel
theorem dX9_countFrom_24 : decode cX9_countFrom 24 = .ok (.aload_n 0, 1) := by decide +kernel
theorem dX9_countFrom_25 : decode cX9_countFrom 25 = .ok (.getfield 27, 3) := by decide +kernel
theorem dX9_countFrom_28 : decode cX9_countFrom 28 = .ok (.iload_n 2, 1) := by decide +kernel
theorem dX9_countFrom_29 : decode cX9_countFrom 29 = .ok (.iconst 1, 1) := by decide +kernel
theorem dX9_countFrom_30 : decode cX9_countFrom 30 = .ok (.isub, 1) := by decide +kernel
theorem dX9_countFrom_31 : decode cX9_countFrom 31 = .ok (.invokestatic 111, 3) := by decide +kernel
theorem dX9_countFrom_34 : decode cX9_countFrom 34 = .ok (.bipush 33, 2) := by decide +kernel
theorem dX9_countFrom_36 : decode cX9_countFrom 36 = .ok (.imul, 1) := by decide +kernel
theorem dX9_countFrom_37 : decode cX9_countFrom 37 = .ok (.iload_n 1, 1) := by decide +kernel
theorem dX9_countFrom_38 : decode cX9_countFrom 38 = .ok (.iadd, 1) := by decide +kernel
theorem dX9_countFrom_39 : decode cX9_countFrom 39 = .ok (.iaload, 1) := by decide +kernel
theorem dX9_countFrom_40 : decode cX9_countFrom 40 = .ok (.ireturn, 1) := by decide +kernel
theorem dX9_countFrom_41 : decode cX9_countFrom 41 = .ok (.iconst 0, 1) := by decide +kernel
theorem dX9_countFrom_42 : decode cX9_countFrom 42 = .ok (.istore_n 3, 1) := by decide +kernel
theorem dX9_countFrom_43 : decode cX9_countFrom 43 = .ok (.aload_n 0, 1) := by decide +kernel
theorem dX9_countFrom_44 : decode cX9_countFrom 44 = .ok (.getfield 18, 3) := by decide +kernel
theorem dX9_countFrom_47 : decode cX9_countFrom 47 = .ok (.iload_n 1, 1) := by decide +kernel
theorem dX9_countFrom_48 : decode cX9_countFrom 48 = .ok (.iaload, 1) := by decide +kernel
theorem dX9_countFrom_49 : decode cX9_countFrom 49 = .ok (.istore 4, 2) := by decide +kernel
theorem dX9_countFrom_51 : decode cX9_countFrom 51 = .ok (.iload 4, 2) := by decide +kernel
theorem dX9_countFrom_53 : decode cX9_countFrom 53 = .ok (.aload_n 0, 1) := by decide +kernel
theorem dX9_countFrom_54 : decode cX9_countFrom 54 = .ok (.getfield 18, 3) := by decide +kernel
theorem dX9_countFrom_57 : decode cX9_countFrom 57 = .ok (.iload_n 1, 1) := by decide +kernel
theorem dX9_countFrom_58 : decode cX9_countFrom 58 = .ok (.iconst 1, 1) := by decide +kernel
theorem dX9_countFrom_59 : decode cX9_countFrom 59 = .ok (.iadd, 1) := by decide +kernel
theorem dX9_countFrom_60 : decode cX9_countFrom 60 = .ok (.iaload, 1) := by decide +kernel
theorem dX9_countFrom_61 : decode cX9_countFrom 61 = .ok (.if_icmp .ge 35, 3) := by decide +kernel
theorem dX9_countFrom_64 : decode cX9_countFrom 64 = .ok (.iload_n 3, 1) := by decide +kernel
theorem dX9_countFrom_65 : decode cX9_countFrom 65 = .ok (.sipush 4096, 3) := by decide +kernel
theorem dX9_countFrom_68 : decode cX9_countFrom 68 = .ok (.if_icmp .gt 28, 3) := by decide +kernel
theorem dX9_countFrom_71 : decode cX9_countFrom 71 = .ok (.iload_n 3, 1) := by decide +kernel
theorem dX9_countFrom_72 : decode cX9_countFrom 72 = .ok (.aload_n 0, 1) := by decide +kernel
theorem dX9_countFrom_73 : decode cX9_countFrom 73 = .ok (.iload_n 1, 1) := by decide +kernel
theorem dX9_countFrom_74 : decode cX9_countFrom 74 = .ok (.iconst 1, 1) := by decide +kernel
theorem dX9_countFrom_75 : decode cX9_countFrom 75 = .ok (.iadd, 1) := by decide +kernel
theorem dX9_countFrom_76 : decode cX9_countFrom 76 = .ok (.iload_n 2, 1) := by decide +kernel
theorem dX9_countFrom_77 : decode cX9_countFrom 77 = .ok (.aload_n 0, 1) := by decide +kernel
theorem dX9_countFrom_78 : decode cX9_countFrom 78 = .ok (.getfield 24, 3) := by decide +kernel
theorem dX9_countFrom_81 : decode cX9_countFrom 81 = .ok (.iload 4, 2) := by decide +kernel
theorem dX9_countFrom_83 : decode cX9_countFrom 83 = .ok (.iaload, 1) := by decide +kernel
theorem dX9_countFrom_84 : decode cX9_countFrom 84 = .ok (.iand, 1) := by decide +kernel
theorem dX9_countFrom_85 : decode cX9_countFrom 85 = .ok (.invokevirtual 86, 3) := by decide +kernel
theorem dX9_countFrom_88 : decode cX9_countFrom 88 = .ok (.iadd, 1) := by decide +kernel
theorem dX9_countFrom_89 : decode cX9_countFrom 89 = .ok (.istore_n 3, 1) := by decide +kernel
theorem dX9_countFrom_90 : decode cX9_countFrom 90 = .ok (.iinc 4 1, 3) := by decide +kernel
theorem dX9_countFrom_93 : decode cX9_countFrom 93 = .ok (.goto (-42), 3) := by decide +kernel
theorem dX9_countFrom_96 : decode cX9_countFrom 96 = .ok (.sipush 4097, 3) := by decide +kernel
theorem dX9_countFrom_99 : decode cX9_countFrom 99 = .ok (.iload_n 3, 1) := by decide +kernel
theorem dX9_countFrom_100 : decode cX9_countFrom 100 = .ok (.invokestatic 67, 3) := by decide +kernel
theorem dX9_countFrom_103 : decode cX9_countFrom 103 = .ok (.ireturn, 1) := by decide +kernel
theorem dX9_seek_0 : decode cX9_seek 0 = .ok (.aload_n 0, 1) := by decide +kernel
theorem dX9_seek_1 : decode cX9_seek 1 = .ok (.getfield 49, 3) := by decide +kernel
theorem dX9_seek_4 : decode cX9_seek 4 = .ok (.ifCond .lt 20, 3) := by decide +kernel
theorem dX9_seek_7 : decode cX9_seek 7 = .ok (.iload_n 1, 1) := by decide +kernel
theorem dX9_seek_8 : decode cX9_seek 8 = .ok (.aload_n 0, 1) := by decide +kernel
theorem dX9_seek_9 : decode cX9_seek 9 = .ok (.getfield 49, 3) := by decide +kernel
theorem dX9_seek_12 : decode cX9_seek 12 = .ok (.iconst 1, 1) := by decide +kernel
theorem dX9_seek_13 : decode cX9_seek 13 = .ok (.iadd, 1) := by decide +kernel
theorem dX9_seek_14 : decode cX9_seek 14 = .ok (.if_icmp .ne 10, 3) := by decide +kernel
theorem dX9_seek_17 : decode cX9_seek 17 = .ok (.aload_n 0, 1) := by decide +kernel
theorem dX9_seek_18 : decode cX9_seek 18 = .ok (.invokevirtual 117, 3) := by decide +kernel
theorem dX9_seek_21 : decode cX9_seek 21 = .ok (.goto 16, 3) := by decide +kernel
theorem dX9_seek_24 : decode cX9_seek 24 = .ok (.iload_n 1, 1) := by decide +kernel
theorem dX9_seek_25 : decode cX9_seek 25 = .ok (.aload_n 0, 1) := by decide +kernel
theorem dX9_seek_26 : decode cX9_seek 26 = .ok (.getfield 49, 3) := by decide +kernel
theorem dX9_seek_29 : decode cX9_seek 29 = .ok (.if_icmp .eq 8, 3) := by decide +kernel
theorem dX9_seek_32 : decode cX9_seek 32 = .ok (.aload_n 0, 1) := by decide +kernel
theorem dX9_seek_33 : decode cX9_seek 33 = .ok (.iload_n 1, 1) := by decide +kernel
theorem dX9_seek_34 : decode cX9_seek 34 = .ok (.invokevirtual 120, 3) := by decide +kernel
theorem dX9_seek_37 : decode cX9_seek 37 = .ok (.aload_n 0, 1) := by decide +kernel
theorem dX9_seek_38 : decode cX9_seek 38 = .ok (.iload_n 1, 1) := by decide +kernel
theorem dX9_seek_39 : decode cX9_seek 39 = .ok (.putfield 49, 3) := by decide +kernel
theorem dX9_seek_42 : decode cX9_seek 42 = .ok (.return_, 1) := by decide +kernel
theorem dX9_advance_0 : decode cX9_advance 0 = .ok (.aload_n 0, 1) := by decide +kernel
theorem dX9_advance_1 : decode cX9_advance 1 = .ok (.getfield 36, 3) := by decide +kernel
theorem dX9_advance_4 : decode cX9_advance 4 = .ok (.iconst 1, 1) := by decide +kernel
theorem dX9_advance_5 : decode cX9_advance 5 = .ok (.isub, 1) := by decide +kernel
theorem dX9_advance_6 : decode cX9_advance 6 = .ok (.istore_n 1, 1) := by decide +kernel
theorem dX9_advance_7 : decode cX9_advance 7 = .ok (.iload_n 1, 1) := by decide +kernel
theorem dX9_advance_8 : decode cX9_advance 8 = .ok (.ifCond .lt 17, 3) := by decide +kernel
theorem dX9_advance_11 : decode cX9_advance 11 = .ok (.aload_n 0, 1) := by decide +kernel
theorem dX9_advance_12 : decode cX9_advance 12 = .ok (.iload_n 1, 1) := by decide +kernel
theorem dX9_advance_13 : decode cX9_advance 13 = .ok (.invokevirtual 124, 3) := by decide +kernel
theorem dX9_advance_16 : decode cX9_advance 16 = .ok (.ifCond .ne 9, 3) := by decide +kernel
theorem dX9_advance_19 : decode cX9_advance 19 = .ok (.iinc 1 (-1), 3) := by decide +kernel
theorem dX9_advance_22 : decode cX9_advance 22 = .ok (.goto (-15), 3) := by decide +kernel
theorem dX9_advance_25 : decode cX9_advance 25 = .ok (.iload_n 1, 1) := by decide +kernel
theorem dX9_advance_26 : decode cX9_advance 26 = .ok (.iconst 1, 1) := by decide +kernel
theorem dX9_advance_27 : decode cX9_advance 27 = .ok (.iadd, 1) := by decide +kernel
theorem dX9_advance_28 : decode cX9_advance 28 = .ok (.istore_n 2, 1) := by decide +kernel
theorem dX9_advance_29 : decode cX9_advance 29 = .ok (.iload_n 2, 1) := by decide +kernel
theorem dX9_advance_30 : decode cX9_advance 30 = .ok (.aload_n 0, 1) := by decide +kernel
theorem dX9_advance_31 : decode cX9_advance 31 = .ok (.getfield 36, 3) := by decide +kernel
theorem dX9_advance_34 : decode cX9_advance 34 = .ok (.if_icmp .ge 29, 3) := by decide +kernel
theorem dX9_advance_37 : decode cX9_advance 37 = .ok (.aload_n 0, 1) := by decide +kernel
theorem dX9_advance_38 : decode cX9_advance 38 = .ok (.getfield 30, 3) := by decide +kernel
theorem dX9_advance_41 : decode cX9_advance 41 = .ok (.iload_n 2, 1) := by decide +kernel
theorem dX9_advance_42 : decode cX9_advance 42 = .ok (.aload_n 0, 1) := by decide +kernel
theorem dX9_advance_43 : decode cX9_advance 43 = .ok (.getfield 18, 3) := by decide +kernel
theorem dX9_advance_46 : decode cX9_advance 46 = .ok (.iload_n 2, 1) := by decide +kernel
theorem dX9_advance_47 : decode cX9_advance 47 = .ok (.iaload, 1) := by decide +kernel
theorem dX9_advance_48 : decode cX9_advance 48 = .ok (.iconst 1, 1) := by decide +kernel
theorem dX9_advance_49 : decode cX9_advance 49 = .ok (.isub, 1) := by decide +kernel
theorem dX9_advance_50 : decode cX9_advance 50 = .ok (.iastore, 1) := by decide +kernel
theorem dX9_advance_51 : decode cX9_advance 51 = .ok (.aload_n 0, 1) := by decide +kernel
theorem dX9_advance_52 : decode cX9_advance 52 = .ok (.iload_n 2, 1) := by decide +kernel
theorem dX9_advance_53 : decode cX9_advance 53 = .ok (.invokevirtual 124, 3) := by decide +kernel
theorem dX9_advance_56 : decode cX9_advance 56 = .ok (.pop, 1) := by decide +kernel
theorem dX9_advance_57 : decode cX9_advance 57 = .ok (.iinc 2 1, 3) := by decide +kernel
theorem dX9_advance_60 : decode cX9_advance 60 = .ok (.goto (-31), 3) := by decide +kernel
theorem dX9_advance_63 : decode cX9_advance 63 = .ok (.return_, 1) := by decide +kernel
theorem dX9_step_0 : decode cX9_step 0 = .ok (.aload_n 0, 1) := by decide +kernel
theorem dX9_step_1 : decode cX9_step 1 = .ok (.getfield 30, 3) := by decide +kernel
theorem dX9_step_4 : decode cX9_step 4 = .ok (.iload_n 1, 1) := by decide +kernel
theorem dX9_step_5 : decode cX9_step 5 = .ok (.iaload, 1) := by decide +kernel
theorem dX9_step_6 : decode cX9_step 6 = .ok (.iconst 1, 1) := by decide +kernel
theorem dX9_step_7 : decode cX9_step 7 = .ok (.iadd, 1) := by decide +kernel
theorem dX9_step_8 : decode cX9_step 8 = .ok (.istore_n 2, 1) := by decide +kernel
theorem dX9_step_9 : decode cX9_step 9 = .ok (.iload_n 2, 1) := by decide +kernel
theorem dX9_step_10 : decode cX9_step 10 = .ok (.aload_n 0, 1) := by decide +kernel
theorem dX9_step_11 : decode cX9_step 11 = .ok (.getfield 18, 3) := by decide +kernel
theorem dX9_step_14 : decode cX9_step 14 = .ok (.iload_n 1, 1) := by decide +kernel
theorem dX9_step_15 : decode cX9_step 15 = .ok (.iconst 1, 1) := by decide +kernel
theorem dX9_step_16 : decode cX9_step 16 = .ok (.iadd, 1) := by decide +kernel
theorem dX9_step_17 : decode cX9_step 17 = .ok (.iaload, 1) := by decide +kernel
theorem dX9_step_18 : decode cX9_step 18 = .ok (.if_icmp .ge 33, 3) := by decide +kernel
theorem dX9_step_21 : decode cX9_step 21 = .ok (.aload_n 0, 1) := by decide +kernel
theorem dX9_step_22 : decode cX9_step 22 = .ok (.getfield 33, 3) := by decide +kernel
theorem dX9_step_25 : decode cX9_step 25 = .ok (.iload_n 1, 1) := by decide +kernel
theorem dX9_step_26 : decode cX9_step 26 = .ok (.iaload, 1) := by decide +kernel
theorem dX9_step_27 : decode cX9_step 27 = .ok (.aload_n 0, 1) := by decide +kernel
theorem dX9_step_28 : decode cX9_step 28 = .ok (.getfield 24, 3) := by decide +kernel
theorem dX9_step_31 : decode cX9_step 31 = .ok (.iload_n 2, 1) := by decide +kernel
theorem dX9_step_32 : decode cX9_step 32 = .ok (.iaload, 1) := by decide +kernel
theorem dX9_step_33 : decode cX9_step 33 = .ok (.iand, 1) := by decide +kernel
theorem dX9_step_34 : decode cX9_step 34 = .ok (.ifCond .eq 11, 3) := by decide +kernel
theorem dX9_step_37 : decode cX9_step 37 = .ok (.aload_n 0, 1) := by decide +kernel
theorem dX9_step_38 : decode cX9_step 38 = .ok (.iload_n 1, 1) := by decide +kernel
theorem dX9_step_39 : decode cX9_step 39 = .ok (.iload_n 2, 1) := by decide +kernel
theorem dX9_step_40 : decode cX9_step 40 = .ok (.invokevirtual 128, 3) := by decide +kernel
theorem dX9_step_43 : decode cX9_step 43 = .ok (.iconst 1, 1) := by decide +kernel
theorem dX9_step_44 : decode cX9_step 44 = .ok (.ireturn, 1) := by decide +kernel
theorem dX9_step_45 : decode cX9_step 45 = .ok (.iinc 2 1, 3) := by decide +kernel
theorem dX9_step_48 : decode cX9_step 48 = .ok (.goto (-39), 3) := by decide +kernel
theorem dX9_step_51 : decode cX9_step 51 = .ok (.iconst 0, 1) := by decide +kernel
theorem dX9_step_52 : decode cX9_step 52 = .ok (.ireturn, 1) := by decide +kernel
theorem dX9_descend_0 : decode cX9_descend 0 = .ok (.iload_n 1, 1) := by decide +kernel
theorem dX9_descend_1 : decode cX9_descend 1 = .ok (.istore_n 2, 1) := by decide +kernel
theorem dX9_descend_2 : decode cX9_descend 2 = .ok (.iconst 0, 1) := by decide +kernel
theorem dX9_descend_3 : decode cX9_descend 3 = .ok (.istore_n 3, 1) := by decide +kernel
theorem dX9_descend_4 : decode cX9_descend 4 = .ok (.iload_n 3, 1) := by decide +kernel
theorem dX9_descend_5 : decode cX9_descend 5 = .ok (.aload_n 0, 1) := by decide +kernel
theorem dX9_descend_6 : decode cX9_descend 6 = .ok (.getfield 36, 3) := by decide +kernel
theorem dX9_descend_9 : decode cX9_descend 9 = .ok (.if_icmp .ge 80, 3) := by decide +kernel
theorem dX9_descend_12 : decode cX9_descend 12 = .ok (.aload_n 0, 1) := by decide +kernel
theorem dX9_descend_13 : decode cX9_descend 13 = .ok (.getfield 18, 3) := by decide +kernel
theorem dX9_descend_16 : decode cX9_descend 16 = .ok (.iload_n 3, 1) := by decide +kernel
theorem dX9_descend_17 : decode cX9_descend 17 = .ok (.iaload, 1) := by decide +kernel
theorem dX9_descend_18 : decode cX9_descend 18 = .ok (.istore 4, 2) := by decide +kernel
theorem dX9_descend_20 : decode cX9_descend 20 = .ok (.iload 4, 2) := by decide +kernel
theorem dX9_descend_22 : decode cX9_descend 22 = .ok (.aload_n 0, 1) := by decide +kernel
theorem dX9_descend_23 : decode cX9_descend 23 = .ok (.getfield 18, 3) := by decide +kernel
theorem dX9_descend_26 : decode cX9_descend 26 = .ok (.iload_n 3, 1) := by decide +kernel
theorem dX9_descend_27 : decode cX9_descend 27 = .ok (.iconst 1, 1) := by decide +kernel
theorem dX9_descend_28 : decode cX9_descend 28 = .ok (.iadd, 1) := by decide +kernel
theorem dX9_descend_29 : decode cX9_descend 29 = .ok (.iaload, 1) := by decide +kernel
theorem dX9_descend_30 : decode cX9_descend 30 = .ok (.if_icmp .ge 53, 3) := by decide +kernel
theorem dX9_descend_33 : decode cX9_descend 33 = .ok (.aload_n 0, 1) := by decide +kernel
theorem dX9_descend_34 : decode cX9_descend 34 = .ok (.iload_n 3, 1) := by decide +kernel
theorem dX9_descend_35 : decode cX9_descend 35 = .ok (.iconst 1, 1) := by decide +kernel
theorem dX9_descend_36 : decode cX9_descend 36 = .ok (.iadd, 1) := by decide +kernel
theorem dX9_descend_37 : decode cX9_descend 37 = .ok (.aload_n 0, 1) := by decide +kernel
theorem dX9_descend_38 : decode cX9_descend 38 = .ok (.getfield 33, 3) := by decide +kernel
theorem dX9_descend_41 : decode cX9_descend 41 = .ok (.iload_n 3, 1) := by decide +kernel
theorem dX9_descend_42 : decode cX9_descend 42 = .ok (.iaload, 1) := by decide +kernel
theorem dX9_descend_43 : decode cX9_descend 43 = .ok (.aload_n 0, 1) := by decide +kernel
theorem dX9_descend_44 : decode cX9_descend 44 = .ok (.getfield 24, 3) := by decide +kernel
theorem dX9_descend_47 : decode cX9_descend 47 = .ok (.iload 4, 2) := by decide +kernel
theorem dX9_descend_49 : decode cX9_descend 49 = .ok (.iaload, 1) := by decide +kernel
theorem dX9_descend_50 : decode cX9_descend 50 = .ok (.iand, 1) := by decide +kernel
theorem dX9_descend_51 : decode cX9_descend 51 = .ok (.invokevirtual 86, 3) := by decide +kernel
theorem dX9_descend_54 : decode cX9_descend 54 = .ok (.istore 5, 2) := by decide +kernel
theorem dX9_descend_56 : decode cX9_descend 56 = .ok (.iload_n 2, 1) := by decide +kernel
theorem dX9_descend_57 : decode cX9_descend 57 = .ok (.iload 5, 2) := by decide +kernel
theorem dX9_descend_59 : decode cX9_descend 59 = .ok (.if_icmp .ge 13, 3) := by decide +kernel
theorem dX9_descend_62 : decode cX9_descend 62 = .ok (.aload_n 0, 1) := by decide +kernel
theorem dX9_descend_63 : decode cX9_descend 63 = .ok (.iload_n 3, 1) := by decide +kernel
theorem dX9_descend_64 : decode cX9_descend 64 = .ok (.iload 4, 2) := by decide +kernel
theorem dX9_descend_66 : decode cX9_descend 66 = .ok (.invokevirtual 128, 3) := by decide +kernel
theorem dX9_descend_69 : decode cX9_descend 69 = .ok (.goto 14, 3) := by decide +kernel
theorem dX9_descend_72 : decode cX9_descend 72 = .ok (.iload_n 2, 1) := by decide +kernel
theorem dX9_descend_73 : decode cX9_descend 73 = .ok (.iload 5, 2) := by decide +kernel
theorem dX9_descend_75 : decode cX9_descend 75 = .ok (.isub, 1) := by decide +kernel
theorem dX9_descend_76 : decode cX9_descend 76 = .ok (.istore_n 2, 1) := by decide +kernel
theorem dX9_descend_77 : decode cX9_descend 77 = .ok (.iinc 4 1, 3) := by decide +kernel
theorem dX9_descend_80 : decode cX9_descend 80 = .ok (.goto (-60), 3) := by decide +kernel
theorem dX9_descend_83 : decode cX9_descend 83 = .ok (.iinc 3 1, 3) := by decide +kernel
theorem dX9_descend_86 : decode cX9_descend 86 = .ok (.goto (-82), 3) := by decide +kernel
theorem dX9_descend_89 : decode cX9_descend 89 = .ok (.return_, 1) := by decide +kernel
theorem dX9_pick_0 : decode cX9_pick 0 = .ok (.aload_n 0, 1) := by decide +kernel
theorem dX9_pick_1 : decode cX9_pick 1 = .ok (.getfield 30, 3) := by decide +kernel
theorem dX9_pick_4 : decode cX9_pick 4 = .ok (.iload_n 1, 1) := by decide +kernel
theorem dX9_pick_5 : decode cX9_pick 5 = .ok (.iload_n 2, 1) := by decide +kernel
theorem dX9_pick_6 : decode cX9_pick 6 = .ok (.iastore, 1) := by decide +kernel
theorem dX9_pick_7 : decode cX9_pick 7 = .ok (.aload_n 0, 1) := by decide +kernel
theorem dX9_pick_8 : decode cX9_pick 8 = .ok (.getfield 9, 3) := by decide +kernel
theorem dX9_pick_11 : decode cX9_pick 11 = .ok (.aload_n 0, 1) := by decide +kernel
theorem dX9_pick_12 : decode cX9_pick 12 = .ok (.getfield 15, 3) := by decide +kernel
theorem dX9_pick_15 : decode cX9_pick 15 = .ok (.iload_n 1, 1) := by decide +kernel
theorem dX9_pick_16 : decode cX9_pick 16 = .ok (.iaload, 1) := by decide +kernel
theorem dX9_pick_17 : decode cX9_pick 17 = .ok (.aload_n 0, 1) := by decide +kernel
theorem dX9_pick_18 : decode cX9_pick 18 = .ok (.getfield 21, 3) := by decide +kernel
theorem dX9_pick_21 : decode cX9_pick 21 = .ok (.iload_n 2, 1) := by decide +kernel
theorem dX9_pick_22 : decode cX9_pick 22 = .ok (.iaload, 1) := by decide +kernel
theorem dX9_pick_23 : decode cX9_pick 23 = .ok (.iastore, 1) := by decide +kernel
theorem dX9_pick_24 : decode cX9_pick 24 = .ok (.aload_n 0, 1) := by decide +kernel
theorem dX9_pick_25 : decode cX9_pick 25 = .ok (.getfield 33, 3) := by decide +kernel
theorem dX9_pick_28 : decode cX9_pick 28 = .ok (.iload_n 1, 1) := by decide +kernel
theorem dX9_pick_29 : decode cX9_pick 29 = .ok (.iconst 1, 1) := by decide +kernel
theorem dX9_pick_30 : decode cX9_pick 30 = .ok (.iadd, 1) := by decide +kernel
theorem dX9_pick_31 : decode cX9_pick 31 = .ok (.aload_n 0, 1) := by decide +kernel
theorem dX9_pick_32 : decode cX9_pick 32 = .ok (.getfield 33, 3) := by decide +kernel
theorem dX9_pick_35 : decode cX9_pick 35 = .ok (.iload_n 1, 1) := by decide +kernel
theorem dX9_pick_36 : decode cX9_pick 36 = .ok (.iaload, 1) := by decide +kernel
theorem dX9_pick_37 : decode cX9_pick 37 = .ok (.aload_n 0, 1) := by decide +kernel
theorem dX9_pick_38 : decode cX9_pick 38 = .ok (.getfield 24, 3) := by decide +kernel
theorem dX9_pick_41 : decode cX9_pick 41 = .ok (.iload_n 2, 1) := by decide +kernel
theorem dX9_pick_42 : decode cX9_pick 42 = .ok (.iaload, 1) := by decide +kernel
theorem dX9_pick_43 : decode cX9_pick 43 = .ok (.iand, 1) := by decide +kernel
theorem dX9_pick_44 : decode cX9_pick 44 = .ok (.iastore, 1) := by decide +kernel
theorem dX9_pick_45 : decode cX9_pick 45 = .ok (.return_, 1) := by decide +kernel
theorem dX10_init_0 : decode cX10_init 0 = .ok (.aload_n 0, 1) := by decide +kernel
theorem dX10_init_1 : decode cX10_init 1 = .ok (.invokespecial 3, 3) := by decide +kernel
theorem dX10_init_4 : decode cX10_init 4 = .ok (.aload_n 0, 1) := by decide +kernel
theorem dX10_init_5 : decode cX10_init 5 = .ok (.new 9, 3) := by decide +kernel
theorem dX10_init_8 : decode cX10_init 8 = .ok (.dup, 1) := by decide +kernel
theorem dX10_init_9 : decode cX10_init 9 = .ok (.invokespecial 11, 3) := by decide +kernel
theorem dX10_init_12 : decode cX10_init 12 = .ok (.putfield 12, 3) := by decide +kernel
theorem dX10_init_15 : decode cX10_init 15 = .ok (.aload_n 0, 1) := by decide +kernel
theorem dX10_init_16 : decode cX10_init 16 = .ok (.new 16, 3) := by decide +kernel
theorem dX10_init_19 : decode cX10_init 19 = .ok (.dup, 1) := by decide +kernel
theorem dX10_init_20 : decode cX10_init 20 = .ok (.invokespecial 18, 3) := by decide +kernel
theorem dX10_init_23 : decode cX10_init 23 = .ok (.putfield 19, 3) := by decide +kernel
theorem dX10_init_26 : decode cX10_init 26 = .ok (.aload_n 0, 1) := by decide +kernel
theorem dX10_init_27 : decode cX10_init 27 = .ok (.new 23, 3) := by decide +kernel
theorem dX10_init_30 : decode cX10_init 30 = .ok (.dup, 1) := by decide +kernel
theorem dX10_init_31 : decode cX10_init 31 = .ok (.invokespecial 25, 3) := by decide +kernel
theorem dX10_init_34 : decode cX10_init 34 = .ok (.putfield 26, 3) := by decide +kernel
theorem dX10_init_37 : decode cX10_init 37 = .ok (.aload_n 0, 1) := by decide +kernel
theorem dX10_init_38 : decode cX10_init 38 = .ok (.new 30, 3) := by decide +kernel
theorem dX10_init_41 : decode cX10_init 41 = .ok (.dup, 1) := by decide +kernel
theorem dX10_init_42 : decode cX10_init 42 = .ok (.invokespecial 32, 3) := by decide +kernel
theorem dX10_init_45 : decode cX10_init 45 = .ok (.putfield 33, 3) := by decide +kernel
theorem dX10_init_48 : decode cX10_init 48 = .ok (.aload_n 0, 1) := by decide +kernel
theorem dX10_init_49 : decode cX10_init 49 = .ok (.new 37, 3) := by decide +kernel
theorem dX10_init_52 : decode cX10_init 52 = .ok (.dup, 1) := by decide +kernel
theorem dX10_init_53 : decode cX10_init 53 = .ok (.invokespecial 39, 3) := by decide +kernel
theorem dX10_init_56 : decode cX10_init 56 = .ok (.putfield 40, 3) := by decide +kernel
theorem dX10_init_59 : decode cX10_init 59 = .ok (.aload_n 0, 1) := by decide +kernel
theorem dX10_init_60 : decode cX10_init 60 = .ok (.iconst 3, 1) := by decide +kernel
theorem dX10_init_61 : decode cX10_init 61 = .ok (.anewarray 44, 3) := by decide +kernel
theorem dX10_init_64 : decode cX10_init 64 = .ok (.dup, 1) := by decide +kernel
theorem dX10_init_65 : decode cX10_init 65 = .ok (.iconst 0, 1) := by decide +kernel
theorem dX10_init_66 : decode cX10_init 66 = .ok (.new 46, 3) := by decide +kernel
theorem dX10_init_69 : decode cX10_init 69 = .ok (.dup, 1) := by decide +kernel
theorem dX10_init_70 : decode cX10_init 70 = .ok (.invokespecial 48, 3) := by decide +kernel
theorem dX10_init_73 : decode cX10_init 73 = .ok (.aastore, 1) := by decide +kernel
theorem dX10_init_74 : decode cX10_init 74 = .ok (.dup, 1) := by decide +kernel
theorem dX10_init_75 : decode cX10_init 75 = .ok (.iconst 1, 1) := by decide +kernel
theorem dX10_init_76 : decode cX10_init 76 = .ok (.new 49, 3) := by decide +kernel
theorem dX10_init_79 : decode cX10_init 79 = .ok (.dup, 1) := by decide +kernel
theorem dX10_init_80 : decode cX10_init 80 = .ok (.invokespecial 51, 3) := by decide +kernel
theorem dX10_init_83 : decode cX10_init 83 = .ok (.aastore, 1) := by decide +kernel
theorem dX10_init_84 : decode cX10_init 84 = .ok (.dup, 1) := by decide +kernel
theorem dX10_init_85 : decode cX10_init 85 = .ok (.iconst 2, 1) := by decide +kernel
theorem dX10_init_86 : decode cX10_init 86 = .ok (.new 52, 3) := by decide +kernel
theorem dX10_init_89 : decode cX10_init 89 = .ok (.dup, 1) := by decide +kernel
theorem dX10_init_90 : decode cX10_init 90 = .ok (.invokespecial 54, 3) := by decide +kernel
theorem dX10_init_93 : decode cX10_init 93 = .ok (.aastore, 1) := by decide +kernel
theorem dX10_init_94 : decode cX10_init 94 = .ok (.putfield 55, 3) := by decide +kernel
theorem dX10_init_97 : decode cX10_init 97 = .ok (.aload_n 0, 1) := by decide +kernel
theorem dX10_init_98 : decode cX10_init 98 = .ok (.aload_n 0, 1) := by decide +kernel
theorem dX10_init_99 : decode cX10_init 99 = .ok (.getfield 55, 3) := by decide +kernel
theorem dX10_init_102 : decode cX10_init 102 = .ok (.arraylength, 1) := by decide +kernel
theorem dX10_init_103 : decode cX10_init 103 = .ok (.newarray .int, 2) := by decide +kernel
theorem dX10_init_105 : decode cX10_init 105 = .ok (.putfield 59, 3) := by decide +kernel
theorem dX10_init_108 : decode cX10_init 108 = .ok (.aload_n 0, 1) := by decide +kernel
theorem dX10_init_109 : decode cX10_init 109 = .ok (.bipush 7, 2) := by decide +kernel
theorem dX10_init_111 : decode cX10_init 111 = .ok (.newarray .int, 2) := by decide +kernel
theorem dX10_init_113 : decode cX10_init 113 = .ok (.putfield 63, 3) := by decide +kernel
theorem dX10_init_116 : decode cX10_init 116 = .ok (.aload_n 0, 1) := by decide +kernel
theorem dX10_init_117 : decode cX10_init 117 = .ok (.iconst (-1), 1) := by decide +kernel
theorem dX10_init_118 : decode cX10_init 118 = .ok (.putfield 66, 3) := by decide +kernel
theorem dX10_init_121 : decode cX10_init 121 = .ok (.aload_n 0, 1) := by decide +kernel
theorem dX10_init_122 : decode cX10_init 122 = .ok (.iconst 0, 1) := by decide +kernel
theorem dX10_init_123 : decode cX10_init 123 = .ok (.putfield 70, 3) := by decide +kernel
theorem dX10_init_126 : decode cX10_init 126 = .ok (.return_, 1) := by decide +kernel
theorem dX10_write_0 : decode cX10_write 0 = .ok (.iload_n 1, 1) := by decide +kernel
theorem dX10_write_1 : decode cX10_write 1 = .ok (.invokestatic 73, 3) := by decide +kernel
theorem dX10_write_4 : decode cX10_write 4 = .ok (.ifCond .ne 9, 3) := by decide +kernel
theorem dX10_write_7 : decode cX10_write 7 = .ok (.aload_n 0, 1) := by decide +kernel
theorem dX10_write_8 : decode cX10_write 8 = .ok (.iconst (-1), 1) := by decide +kernel
theorem dX10_write_9 : decode cX10_write 9 = .ok (.invokevirtual 77, 3) := by decide +kernel
theorem dX10_write_12 : decode cX10_write 12 = .ok (.ireturn, 1) := by decide +kernel
theorem dX10_write_13 : decode cX10_write 13 = .ok (.aload_n 0, 1) := by decide +kernel
theorem dX10_write_14 : decode cX10_write 14 = .ok (.getfield 12, 3) := by decide +kernel
theorem dX10_write_17 : decode cX10_write 17 = .ok (.iconst 1, 1) := by decide +kernel
theorem dX10_write_18 : decode cX10_write 18 = .ok (.invokevirtual 81, 3) := by decide +kernel
theorem dX10_write_21 : decode cX10_write 21 = .ok (.ifCond .ne 10, 3) := by decide +kernel
theorem dX10_write_24 : decode cX10_write 24 = .ok (.aload_n 0, 1) := by decide +kernel
theorem dX10_write_25 : decode cX10_write 25 = .ok (.bipush (-6), 2) := by decide +kernel
theorem dX10_write_27 : decode cX10_write 27 = .ok (.invokevirtual 77, 3) := by decide +kernel
theorem dX10_write_30 : decode cX10_write 30 = .ok (.ireturn, 1) := by decide +kernel
theorem dX10_write_31 : decode cX10_write 31 = .ok (.aload_n 0, 1) := by decide +kernel
theorem dX10_write_32 : decode cX10_write 32 = .ok (.getfield 12, 3) := by decide +kernel
theorem dX10_write_35 : decode cX10_write 35 = .ok (.iload_n 1, 1) := by decide +kernel
theorem dX10_write_36 : decode cX10_write 36 = .ok (.iload_n 2, 1) := by decide +kernel
theorem dX10_write_37 : decode cX10_write 37 = .ok (.iload_n 3, 1) := by decide +kernel
theorem dX10_write_38 : decode cX10_write 38 = .ok (.invokevirtual 84, 3) := by decide +kernel
theorem dX10_write_41 : decode cX10_write 41 = .ok (.aload_n 0, 1) := by decide +kernel
theorem dX10_write_42 : decode cX10_write 42 = .ok (.getfield 12, 3) := by decide +kernel
theorem dX10_write_45 : decode cX10_write 45 = .ok (.getfield 88, 3) := by decide +kernel
theorem dX10_write_48 : decode cX10_write 48 = .ok (.ireturn, 1) := by decide +kernel
theorem dX10_fence_0 : decode cX10_fence 0 = .ok (.aload_n 0, 1) := by decide +kernel
theorem dX10_fence_1 : decode cX10_fence 1 = .ok (.getfield 12, 3) := by decide +kernel
theorem dX10_fence_4 : decode cX10_fence 4 = .ok (.iconst 1, 1) := by decide +kernel
theorem dX10_fence_5 : decode cX10_fence 5 = .ok (.invokevirtual 81, 3) := by decide +kernel
theorem dX10_fence_8 : decode cX10_fence 8 = .ok (.ifCond .ne 10, 3) := by decide +kernel
theorem dX10_fence_11 : decode cX10_fence 11 = .ok (.aload_n 0, 1) := by decide +kernel
theorem dX10_fence_12 : decode cX10_fence 12 = .ok (.bipush (-6), 2) := by decide +kernel
theorem dX10_fence_14 : decode cX10_fence 14 = .ok (.invokevirtual 77, 3) := by decide +kernel
theorem dX10_fence_17 : decode cX10_fence 17 = .ok (.ireturn, 1) := by decide +kernel
theorem dX10_fence_18 : decode cX10_fence 18 = .ok (.aload_n 0, 1) := by decide +kernel
theorem dX10_fence_19 : decode cX10_fence 19 = .ok (.getfield 12, 3) := by decide +kernel
theorem dX10_fence_22 : decode cX10_fence 22 = .ok (.invokevirtual 91, 3) := by decide +kernel
theorem dX10_fence_25 : decode cX10_fence 25 = .ok (.aload_n 0, 1) := by decide +kernel
theorem dX10_fence_26 : decode cX10_fence 26 = .ok (.getfield 12, 3) := by decide +kernel
theorem dX10_fence_29 : decode cX10_fence 29 = .ok (.getfield 88, 3) := by decide +kernel
theorem dX10_fence_32 : decode cX10_fence 32 = .ok (.ireturn, 1) := by decide +kernel
theorem dX10_flush_0 : decode cX10_flush 0 = .ok (.aload_n 0, 1) := by decide +kernel
theorem dX10_flush_1 : decode cX10_flush 1 = .ok (.getfield 12, 3) := by decide +kernel
theorem dX10_flush_4 : decode cX10_flush 4 = .ok (.getfield 94, 3) := by decide +kernel
theorem dX10_flush_7 : decode cX10_flush 7 = .ok (.istore_n 1, 1) := by decide +kernel
end
section
theorem dX10_flush_8 : decode cX10_flush 8 = .ok (.aload_n 0, 1) := by decide +kernel
theorem dX10_flush_9 : decode cX10_flush 9 = .ok (.getfield 12, 3) := by decide +kernel
theorem dX10_flush_12 : decode cX10_flush 12 = .ok (.invokevirtual 97, 3) := by decide +kernel
theorem dX10_flush_15 : decode cX10_flush 15 = .ok (.iload_n 1, 1) := by decide +kernel
theorem dX10_flush_16 : decode cX10_flush 16 = .ok (.ireturn, 1) := by decide +kernel
theorem dX10_read_0 : decode cX10_read 0 = .ok (.iload_n 1, 1) := by decide +kernel
theorem dX10_read_1 : decode cX10_read 1 = .ok (.iload_n 2, 1) := by decide +kernel
theorem dX10_read_2 : decode cX10_read 2 = .ok (.invokestatic 100, 3) := by decide +kernel
theorem dX10_read_5 : decode cX10_read 5 = .ok (.ifCond .ne 13, 3) := by decide +kernel
theorem dX10_read_8 : decode cX10_read 8 = .ok (.new 104, 3) := by decide +kernel
theorem dX10_read_11 : decode cX10_read 11 = .ok (.dup, 1) := by decide +kernel
theorem dX10_read_12 : decode cX10_read 12 = .ok (.ldc 106, 2) := by decide +kernel
theorem dX10_read_14 : decode cX10_read 14 = .ok (.invokespecial 108, 3) := by decide +kernel
theorem dX10_read_17 : decode cX10_read 17 = .ok (.athrow, 1) := by decide +kernel
theorem dX10_read_18 : decode cX10_read 18 = .ok (.aload_n 0, 1) := by decide +kernel
theorem dX10_read_19 : decode cX10_read 19 = .ok (.getfield 12, 3) := by decide +kernel
theorem dX10_read_22 : decode cX10_read 22 = .ok (.getfield 111, 3) := by decide +kernel
theorem dX10_read_25 : decode cX10_read 25 = .ok (.iconst 2, 1) := by decide +kernel
theorem dX10_read_26 : decode cX10_read 26 = .ok (.iload_n 1, 1) := by decide +kernel
theorem dX10_read_27 : decode cX10_read 27 = .ok (.imul, 1) := by decide +kernel
theorem dX10_read_28 : decode cX10_read 28 = .ok (.iload_n 2, 1) := by decide +kernel
theorem dX10_read_29 : decode cX10_read 29 = .ok (.iadd, 1) := by decide +kernel
theorem dX10_read_30 : decode cX10_read 30 = .ok (.iaload, 1) := by decide +kernel
theorem dX10_read_31 : decode cX10_read 31 = .ok (.ireturn, 1) := by decide +kernel
theorem dX10_plate_0 : decode cX10_plate 0 = .ok (.iload_n 1, 1) := by decide +kernel
theorem dX10_plate_1 : decode cX10_plate 1 = .ok (.iload_n 2, 1) := by decide +kernel
theorem dX10_plate_2 : decode cX10_plate 2 = .ok (.invokestatic 100, 3) := by decide +kernel
theorem dX10_plate_5 : decode cX10_plate 5 = .ok (.ifCond .ne 13, 3) := by decide +kernel
theorem dX10_plate_8 : decode cX10_plate 8 = .ok (.new 104, 3) := by decide +kernel
theorem dX10_plate_11 : decode cX10_plate 11 = .ok (.dup, 1) := by decide +kernel
theorem dX10_plate_12 : decode cX10_plate 12 = .ok (.ldc 106, 2) := by decide +kernel
theorem dX10_plate_14 : decode cX10_plate 14 = .ok (.invokespecial 108, 3) := by decide +kernel
theorem dX10_plate_17 : decode cX10_plate 17 = .ok (.athrow, 1) := by decide +kernel
theorem dX10_plate_18 : decode cX10_plate 18 = .ok (.aload_n 0, 1) := by decide +kernel
theorem dX10_plate_19 : decode cX10_plate 19 = .ok (.getfield 12, 3) := by decide +kernel
theorem dX10_plate_22 : decode cX10_plate 22 = .ok (.getfield 114, 3) := by decide +kernel
theorem dX10_plate_25 : decode cX10_plate 25 = .ok (.iconst 2, 1) := by decide +kernel
theorem dX10_plate_26 : decode cX10_plate 26 = .ok (.iload_n 1, 1) := by decide +kernel
theorem dX10_plate_27 : decode cX10_plate 27 = .ok (.imul, 1) := by decide +kernel
theorem dX10_plate_28 : decode cX10_plate 28 = .ok (.iload_n 2, 1) := by decide +kernel
theorem dX10_plate_29 : decode cX10_plate 29 = .ok (.iadd, 1) := by decide +kernel
theorem dX10_plate_30 : decode cX10_plate 30 = .ok (.iaload, 1) := by decide +kernel
theorem dX10_plate_31 : decode cX10_plate 31 = .ok (.ireturn, 1) := by decide +kernel
theorem dX10_entry_0 : decode cX10_entry 0 = .ok (.iload_n 1, 1) := by decide +kernel
theorem dX10_entry_1 : decode cX10_entry 1 = .ok (.ifCond .lt 14, 3) := by decide +kernel
theorem dX10_entry_4 : decode cX10_entry 4 = .ok (.iload_n 1, 1) := by decide +kernel
theorem dX10_entry_5 : decode cX10_entry 5 = .ok (.aload_n 0, 1) := by decide +kernel
theorem dX10_entry_6 : decode cX10_entry 6 = .ok (.getfield 12, 3) := by decide +kernel
theorem dX10_entry_9 : decode cX10_entry 9 = .ok (.getfield 88, 3) := by decide +kernel
theorem dX10_entry_12 : decode cX10_entry 12 = .ok (.if_icmp .lt 9, 3) := by decide +kernel
theorem dX10_entry_15 : decode cX10_entry 15 = .ok (.aload_n 0, 1) := by decide +kernel
theorem dX10_entry_16 : decode cX10_entry 16 = .ok (.iconst (-1), 1) := by decide +kernel
theorem dX10_entry_17 : decode cX10_entry 17 = .ok (.invokevirtual 77, 3) := by decide +kernel
theorem dX10_entry_20 : decode cX10_entry 20 = .ok (.ireturn, 1) := by decide +kernel
theorem dX10_entry_21 : decode cX10_entry 21 = .ok (.iload_n 2, 1) := by decide +kernel
theorem dX10_entry_22 : decode cX10_entry 22 = .ok (.tableswitch 70 0 3 #[30, 40, 50, 60], 30) := by decide +kernel
theorem dX10_entry_52 : decode cX10_entry 52 = .ok (.aload_n 0, 1) := by decide +kernel
theorem dX10_entry_53 : decode cX10_entry 53 = .ok (.getfield 12, 3) := by decide +kernel
theorem dX10_entry_56 : decode cX10_entry 56 = .ok (.getfield 117, 3) := by decide +kernel
theorem dX10_entry_59 : decode cX10_entry 59 = .ok (.iload_n 1, 1) := by decide +kernel
theorem dX10_entry_60 : decode cX10_entry 60 = .ok (.iaload, 1) := by decide +kernel
theorem dX10_entry_61 : decode cX10_entry 61 = .ok (.ireturn, 1) := by decide +kernel
theorem dX10_entry_62 : decode cX10_entry 62 = .ok (.aload_n 0, 1) := by decide +kernel
theorem dX10_entry_63 : decode cX10_entry 63 = .ok (.getfield 12, 3) := by decide +kernel
theorem dX10_entry_66 : decode cX10_entry 66 = .ok (.getfield 120, 3) := by decide +kernel
theorem dX10_entry_69 : decode cX10_entry 69 = .ok (.iload_n 1, 1) := by decide +kernel
theorem dX10_entry_70 : decode cX10_entry 70 = .ok (.iaload, 1) := by decide +kernel
theorem dX10_entry_71 : decode cX10_entry 71 = .ok (.ireturn, 1) := by decide +kernel
theorem dX10_entry_72 : decode cX10_entry 72 = .ok (.aload_n 0, 1) := by decide +kernel
theorem dX10_entry_73 : decode cX10_entry 73 = .ok (.getfield 12, 3) := by decide +kernel
theorem dX10_entry_76 : decode cX10_entry 76 = .ok (.getfield 123, 3) := by decide +kernel
theorem dX10_entry_79 : decode cX10_entry 79 = .ok (.iload_n 1, 1) := by decide +kernel
theorem dX10_entry_80 : decode cX10_entry 80 = .ok (.iaload, 1) := by decide +kernel
theorem dX10_entry_81 : decode cX10_entry 81 = .ok (.ireturn, 1) := by decide +kernel
theorem dX10_entry_82 : decode cX10_entry 82 = .ok (.aload_n 0, 1) := by decide +kernel
theorem dX10_entry_83 : decode cX10_entry 83 = .ok (.getfield 12, 3) := by decide +kernel
theorem dX10_entry_86 : decode cX10_entry 86 = .ok (.getfield 126, 3) := by decide +kernel
theorem dX10_entry_89 : decode cX10_entry 89 = .ok (.iload_n 1, 1) := by decide +kernel
theorem dX10_entry_90 : decode cX10_entry 90 = .ok (.iaload, 1) := by decide +kernel
theorem dX10_entry_91 : decode cX10_entry 91 = .ok (.ireturn, 1) := by decide +kernel
theorem dX10_entry_92 : decode cX10_entry 92 = .ok (.bipush (-9), 2) := by decide +kernel
theorem dX10_entry_94 : decode cX10_entry 94 = .ok (.ireturn, 1) := by decide +kernel
theorem dX10_states_0 : decode cX10_states 0 = .ok (.aload_n 0, 1) := by decide +kernel
theorem dX10_states_1 : decode cX10_states 1 = .ok (.getfield 19, 3) := by decide +kernel
theorem dX10_states_4 : decode cX10_states 4 = .ok (.aload_n 0, 1) := by decide +kernel
theorem dX10_states_5 : decode cX10_states 5 = .ok (.getfield 12, 3) := by decide +kernel
theorem dX10_states_8 : decode cX10_states 8 = .ok (.invokevirtual 129, 3) := by decide +kernel
theorem dX10_states_11 : decode cX10_states 11 = .ok (.aload_n 0, 1) := by decide +kernel
theorem dX10_states_12 : decode cX10_states 12 = .ok (.getfield 19, 3) := by decide +kernel
theorem dX10_states_15 : decode cX10_states 15 = .ok (.getfield 133, 3) := by decide +kernel
theorem dX10_states_18 : decode cX10_states 18 = .ok (.sipush 4096, 3) := by decide +kernel
theorem dX10_states_21 : decode cX10_states 21 = .ok (.if_icmp .le 12, 3) := by decide +kernel
theorem dX10_states_24 : decode cX10_states 24 = .ok (.aload_n 0, 1) := by decide +kernel
theorem dX10_states_25 : decode cX10_states 25 = .ok (.bipush (-6), 2) := by decide +kernel
theorem dX10_states_27 : decode cX10_states 27 = .ok (.invokevirtual 77, 3) := by decide +kernel
theorem dX10_states_30 : decode cX10_states 30 = .ok (.goto 10, 3) := by decide +kernel
theorem dX10_states_33 : decode cX10_states 33 = .ok (.aload_n 0, 1) := by decide +kernel
theorem dX10_states_34 : decode cX10_states 34 = .ok (.getfield 19, 3) := by decide +kernel
theorem dX10_states_37 : decode cX10_states 37 = .ok (.getfield 133, 3) := by decide +kernel
theorem dX10_states_40 : decode cX10_states 40 = .ok (.ireturn, 1) := by decide +kernel
theorem dX10_state_0 : decode cX10_state 0 = .ok (.iload_n 2, 1) := by decide +kernel
theorem dX10_state_1 : decode cX10_state 1 = .ok (.iload_n 3, 1) := by decide +kernel
theorem dX10_state_2 : decode cX10_state 2 = .ok (.invokestatic 100, 3) := by decide +kernel
theorem dX10_state_5 : decode cX10_state 5 = .ok (.ifCond .ne 13, 3) := by decide +kernel
theorem dX10_state_8 : decode cX10_state 8 = .ok (.new 104, 3) := by decide +kernel
theorem dX10_state_11 : decode cX10_state 11 = .ok (.dup, 1) := by decide +kernel
theorem dX10_state_12 : decode cX10_state 12 = .ok (.ldc 106, 2) := by decide +kernel
theorem dX10_state_14 : decode cX10_state 14 = .ok (.invokespecial 108, 3) := by decide +kernel
theorem dX10_state_17 : decode cX10_state 17 = .ok (.athrow, 1) := by decide +kernel
theorem dX10_state_18 : decode cX10_state 18 = .ok (.aload_n 0, 1) := by decide +kernel
theorem dX10_state_19 : decode cX10_state 19 = .ok (.getfield 19, 3) := by decide +kernel
theorem dX10_state_22 : decode cX10_state 22 = .ok (.aload_n 0, 1) := by decide +kernel
theorem dX10_state_23 : decode cX10_state 23 = .ok (.getfield 12, 3) := by decide +kernel
theorem dX10_state_26 : decode cX10_state 26 = .ok (.invokevirtual 129, 3) := by decide +kernel
theorem dX10_state_29 : decode cX10_state 29 = .ok (.aload_n 0, 1) := by decide +kernel
theorem dX10_state_30 : decode cX10_state 30 = .ok (.getfield 19, 3) := by decide +kernel
theorem dX10_state_33 : decode cX10_state 33 = .ok (.getfield 133, 3) := by decide +kernel
theorem dX10_state_36 : decode cX10_state 36 = .ok (.sipush 4096, 3) := by decide +kernel
theorem dX10_state_39 : decode cX10_state 39 = .ok (.if_icmp .gt 18, 3) := by decide +kernel
theorem dX10_state_42 : decode cX10_state 42 = .ok (.iload_n 1, 1) := by decide +kernel
theorem dX10_state_43 : decode cX10_state 43 = .ok (.ifCond .lt 14, 3) := by decide +kernel
theorem dX10_state_46 : decode cX10_state 46 = .ok (.iload_n 1, 1) := by decide +kernel
theorem dX10_state_47 : decode cX10_state 47 = .ok (.aload_n 0, 1) := by decide +kernel
theorem dX10_state_48 : decode cX10_state 48 = .ok (.getfield 19, 3) := by decide +kernel
theorem dX10_state_51 : decode cX10_state 51 = .ok (.getfield 133, 3) := by decide +kernel
theorem dX10_state_54 : decode cX10_state 54 = .ok (.if_icmp .lt 13, 3) := by decide +kernel
theorem dX10_state_57 : decode cX10_state 57 = .ok (.new 104, 3) := by decide +kernel
theorem dX10_state_60 : decode cX10_state 60 = .ok (.dup, 1) := by decide +kernel
theorem dX10_state_61 : decode cX10_state 61 = .ok (.ldc 136, 2) := by decide +kernel
theorem dX10_state_63 : decode cX10_state 63 = .ok (.invokespecial 108, 3) := by decide +kernel
theorem dX10_state_66 : decode cX10_state 66 = .ok (.athrow, 1) := by decide +kernel
theorem dX10_state_67 : decode cX10_state 67 = .ok (.aload_n 0, 1) := by decide +kernel
theorem dX10_state_68 : decode cX10_state 68 = .ok (.getfield 19, 3) := by decide +kernel
theorem dX10_state_71 : decode cX10_state 71 = .ok (.iload_n 1, 1) := by decide +kernel
theorem dX10_state_72 : decode cX10_state 72 = .ok (.invokevirtual 138, 3) := by decide +kernel
theorem dX10_state_75 : decode cX10_state 75 = .ok (.aload_n 0, 1) := by decide +kernel
theorem dX10_state_76 : decode cX10_state 76 = .ok (.getfield 19, 3) := by decide +kernel
theorem dX10_state_79 : decode cX10_state 79 = .ok (.getfield 142, 3) := by decide +kernel
theorem dX10_state_82 : decode cX10_state 82 = .ok (.iconst 2, 1) := by decide +kernel
theorem dX10_state_83 : decode cX10_state 83 = .ok (.iload_n 2, 1) := by decide +kernel
theorem dX10_state_84 : decode cX10_state 84 = .ok (.imul, 1) := by decide +kernel
theorem dX10_state_85 : decode cX10_state 85 = .ok (.iload_n 3, 1) := by decide +kernel
theorem dX10_state_86 : decode cX10_state 86 = .ok (.iadd, 1) := by decide +kernel
theorem dX10_state_87 : decode cX10_state 87 = .ok (.iaload, 1) := by decide +kernel
theorem dX10_state_88 : decode cX10_state 88 = .ok (.ireturn, 1) := by decide +kernel
theorem dX10_fall_0 : decode cX10_fall 0 = .ok (.aload_n 0, 1) := by decide +kernel
theorem dX10_fall_1 : decode cX10_fall 1 = .ok (.getfield 19, 3) := by decide +kernel
theorem dX10_fall_4 : decode cX10_fall 4 = .ok (.aload_n 0, 1) := by decide +kernel
theorem dX10_fall_5 : decode cX10_fall 5 = .ok (.getfield 12, 3) := by decide +kernel
theorem dX10_fall_8 : decode cX10_fall 8 = .ok (.invokevirtual 129, 3) := by decide +kernel
theorem dX10_fall_11 : decode cX10_fall 11 = .ok (.aload_n 0, 1) := by decide +kernel
theorem dX10_fall_12 : decode cX10_fall 12 = .ok (.getfield 19, 3) := by decide +kernel
theorem dX10_fall_15 : decode cX10_fall 15 = .ok (.getfield 133, 3) := by decide +kernel
theorem dX10_fall_18 : decode cX10_fall 18 = .ok (.sipush 4096, 3) := by decide +kernel
theorem dX10_fall_21 : decode cX10_fall 21 = .ok (.if_icmp .le 10, 3) := by decide +kernel
theorem dX10_fall_24 : decode cX10_fall 24 = .ok (.aload_n 0, 1) := by decide +kernel
theorem dX10_fall_25 : decode cX10_fall 25 = .ok (.bipush (-6), 2) := by decide +kernel
theorem dX10_fall_27 : decode cX10_fall 27 = .ok (.invokevirtual 77, 3) := by decide +kernel
theorem dX10_fall_30 : decode cX10_fall 30 = .ok (.ireturn, 1) := by decide +kernel
theorem dX10_fall_31 : decode cX10_fall 31 = .ok (.iload_n 1, 1) := by decide +kernel
theorem dX10_fall_32 : decode cX10_fall 32 = .ok (.ifCond .lt 14, 3) := by decide +kernel
theorem dX10_fall_35 : decode cX10_fall 35 = .ok (.iload_n 1, 1) := by decide +kernel
theorem dX10_fall_36 : decode cX10_fall 36 = .ok (.aload_n 0, 1) := by decide +kernel
theorem dX10_fall_37 : decode cX10_fall 37 = .ok (.getfield 19, 3) := by decide +kernel
theorem dX10_fall_40 : decode cX10_fall 40 = .ok (.getfield 133, 3) := by decide +kernel
theorem dX10_fall_43 : decode cX10_fall 43 = .ok (.if_icmp .lt 9, 3) := by decide +kernel
theorem dX10_fall_46 : decode cX10_fall 46 = .ok (.aload_n 0, 1) := by decide +kernel
theorem dX10_fall_47 : decode cX10_fall 47 = .ok (.iconst (-1), 1) := by decide +kernel
theorem dX10_fall_48 : decode cX10_fall 48 = .ok (.invokevirtual 77, 3) := by decide +kernel
theorem dX10_fall_51 : decode cX10_fall 51 = .ok (.ireturn, 1) := by decide +kernel
theorem dX10_fall_52 : decode cX10_fall 52 = .ok (.aload_n 0, 1) := by decide +kernel
theorem dX10_fall_53 : decode cX10_fall 53 = .ok (.getfield 19, 3) := by decide +kernel
theorem dX10_fall_56 : decode cX10_fall 56 = .ok (.iload_n 1, 1) := by decide +kernel
theorem dX10_fall_57 : decode cX10_fall 57 = .ok (.invokevirtual 138, 3) := by decide +kernel
theorem dX10_fall_60 : decode cX10_fall 60 = .ok (.aload_n 0, 1) := by decide +kernel
theorem dX10_fall_61 : decode cX10_fall 61 = .ok (.getfield 12, 3) := by decide +kernel
theorem dX10_fall_64 : decode cX10_fall 64 = .ok (.aload_n 0, 1) := by decide +kernel
theorem dX10_fall_65 : decode cX10_fall 65 = .ok (.getfield 19, 3) := by decide +kernel
theorem dX10_fall_68 : decode cX10_fall 68 = .ok (.getfield 142, 3) := by decide +kernel
theorem dX10_fall_71 : decode cX10_fall 71 = .ok (.invokevirtual 145, 3) := by decide +kernel
theorem dX10_fall_74 : decode cX10_fall 74 = .ok (.aload_n 0, 1) := by decide +kernel
theorem dX10_fall_75 : decode cX10_fall 75 = .ok (.dup, 1) := by decide +kernel
theorem dX10_fall_76 : decode cX10_fall 76 = .ok (.getfield 70, 3) := by decide +kernel
theorem dX10_fall_79 : decode cX10_fall 79 = .ok (.iconst 1, 1) := by decide +kernel
theorem dX10_fall_80 : decode cX10_fall 80 = .ok (.iadd, 1) := by decide +kernel
theorem dX10_fall_81 : decode cX10_fall 81 = .ok (.putfield 70, 3) := by decide +kernel
theorem dX10_fall_84 : decode cX10_fall 84 = .ok (.iconst 1, 1) := by decide +kernel
theorem dX10_fall_85 : decode cX10_fall 85 = .ok (.ireturn, 1) := by decide +kernel
theorem dX10_store_0 : decode cX10_store 0 = .ok (.aload_n 0, 1) := by decide +kernel
theorem dX10_store_1 : decode cX10_store 1 = .ok (.iload_n 1, 1) := by decide +kernel
theorem dX10_store_2 : decode cX10_store 2 = .ok (.invokevirtual 149, 3) := by decide +kernel
theorem dX10_store_5 : decode cX10_store 5 = .ok (.ifCond .ne 10, 3) := by decide +kernel
theorem dX10_store_8 : decode cX10_store 8 = .ok (.aload_n 0, 1) := by decide +kernel
theorem dX10_store_9 : decode cX10_store 9 = .ok (.bipush (-2), 2) := by decide +kernel
theorem dX10_store_11 : decode cX10_store 11 = .ok (.invokevirtual 77, 3) := by decide +kernel
theorem dX10_store_14 : decode cX10_store 14 = .ok (.ireturn, 1) := by decide +kernel
theorem dX10_store_15 : decode cX10_store 15 = .ok (.aload_n 0, 1) := by decide +kernel
theorem dX10_store_16 : decode cX10_store 16 = .ok (.iload_n 1, 1) := by decide +kernel
theorem dX10_store_17 : decode cX10_store 17 = .ok (.putfield 66, 3) := by decide +kernel
theorem dX10_store_20 : decode cX10_store 20 = .ok (.aload_n 0, 1) := by decide +kernel
theorem dX10_store_21 : decode cX10_store 21 = .ok (.getfield 12, 3) := by decide +kernel
theorem dX10_store_24 : decode cX10_store 24 = .ok (.aload_n 0, 1) := by decide +kernel
theorem dX10_store_25 : decode cX10_store 25 = .ok (.getfield 55, 3) := by decide +kernel
theorem dX10_store_28 : decode cX10_store 28 = .ok (.iload_n 1, 1) := by decide +kernel
theorem dX10_store_29 : decode cX10_store 29 = .ok (.aaload, 1) := by decide +kernel
theorem dX10_store_30 : decode cX10_store 30 = .ok (.invokevirtual 152, 3) := by decide +kernel
theorem dX10_store_33 : decode cX10_store 33 = .ok (.aload_n 0, 1) := by decide +kernel
theorem dX10_store_34 : decode cX10_store 34 = .ok (.getfield 55, 3) := by decide +kernel
theorem dX10_store_37 : decode cX10_store 37 = .ok (.iload_n 1, 1) := by decide +kernel
theorem dX10_store_38 : decode cX10_store 38 = .ok (.aaload, 1) := by decide +kernel
theorem dX10_store_39 : decode cX10_store 39 = .ok (.invokevirtual 156, 3) := by decide +kernel
theorem dX10_store_42 : decode cX10_store 42 = .ok (.ireturn, 1) := by decide +kernel
theorem dX10_put_0 : decode cX10_put 0 = .ok (.aload_n 0, 1) := by decide +kernel
theorem dX10_put_1 : decode cX10_put 1 = .ok (.invokevirtual 160, 3) := by decide +kernel
theorem dX10_put_4 : decode cX10_put 4 = .ok (.ifCond .ne 10, 3) := by decide +kernel
theorem dX10_put_7 : decode cX10_put 7 = .ok (.aload_n 0, 1) := by decide +kernel
theorem dX10_put_8 : decode cX10_put 8 = .ok (.bipush (-5), 2) := by decide +kernel
theorem dX10_put_10 : decode cX10_put 10 = .ok (.invokevirtual 77, 3) := by decide +kernel
theorem dX10_put_13 : decode cX10_put 13 = .ok (.ireturn, 1) := by decide +kernel
theorem dX10_put_14 : decode cX10_put 14 = .ok (.iload_n 1, 1) := by decide +kernel
theorem dX10_put_15 : decode cX10_put 15 = .ok (.invokestatic 164, 3) := by decide +kernel
theorem dX10_put_18 : decode cX10_put 18 = .ok (.ifCond .ne 9, 3) := by decide +kernel
theorem dX10_put_21 : decode cX10_put 21 = .ok (.aload_n 0, 1) := by decide +kernel
theorem dX10_put_22 : decode cX10_put 22 = .ok (.iconst (-1), 1) := by decide +kernel
theorem dX10_put_23 : decode cX10_put 23 = .ok (.invokevirtual 77, 3) := by decide +kernel
theorem dX10_put_26 : decode cX10_put 26 = .ok (.ireturn, 1) := by decide +kernel
theorem dX10_put_27 : decode cX10_put 27 = .ok (.aload_n 0, 1) := by decide +kernel
theorem dX10_put_28 : decode cX10_put 28 = .ok (.getfield 26, 3) := by decide +kernel
theorem dX10_put_31 : decode cX10_put 31 = .ok (.aload_n 0, 1) := by decide +kernel
theorem dX10_put_32 : decode cX10_put 32 = .ok (.getfield 59, 3) := by decide +kernel
theorem dX10_put_35 : decode cX10_put 35 = .ok (.aload_n 0, 1) := by decide +kernel
theorem dX10_put_36 : decode cX10_put 36 = .ok (.getfield 66, 3) := by decide +kernel
theorem dX10_put_39 : decode cX10_put 39 = .ok (.iaload, 1) := by decide +kernel
theorem dX10_put_40 : decode cX10_put 40 = .ok (.invokevirtual 167, 3) := by decide +kernel
theorem dX10_put_43 : decode cX10_put 43 = .ok (.aload_n 0, 1) := by decide +kernel
theorem dX10_put_44 : decode cX10_put 44 = .ok (.getfield 55, 3) := by decide +kernel
theorem dX10_put_47 : decode cX10_put 47 = .ok (.aload_n 0, 1) := by decide +kernel
theorem dX10_put_48 : decode cX10_put 48 = .ok (.getfield 66, 3) := by decide +kernel
theorem dX10_put_51 : decode cX10_put 51 = .ok (.aaload, 1) := by decide +kernel
theorem dX10_put_52 : decode cX10_put 52 = .ok (.aload_n 0, 1) := by decide +kernel
theorem dX10_put_53 : decode cX10_put 53 = .ok (.getfield 12, 3) := by decide +kernel
theorem dX10_put_56 : decode cX10_put 56 = .ok (.getfield 111, 3) := by decide +kernel
theorem dX10_put_59 : decode cX10_put 59 = .ok (.iload_n 1, 1) := by decide +kernel
theorem dX10_put_60 : decode cX10_put 60 = .ok (.lload_n 2, 1) := by decide +kernel
theorem dX10_put_61 : decode cX10_put 61 = .ok (.aload_n 0, 1) := by decide +kernel
theorem dX10_put_62 : decode cX10_put 62 = .ok (.getfield 26, 3) := by decide +kernel
theorem dX10_put_65 : decode cX10_put 65 = .ok (.invokevirtual 170, 3) := by decide +kernel
theorem dX10_put_68 : decode cX10_put 68 = .ok (.aload_n 0, 1) := by decide +kernel
theorem dX10_put_69 : decode cX10_put 69 = .ok (.invokevirtual 174, 3) := by decide +kernel
theorem dX10_put_72 : decode cX10_put 72 = .ok (.ireturn, 1) := by decide +kernel
theorem dX10_move_0 : decode cX10_move 0 = .ok (.aload_n 0, 1) := by decide +kernel
theorem dX10_move_1 : decode cX10_move 1 = .ok (.invokevirtual 160, 3) := by decide +kernel
theorem dX10_move_4 : decode cX10_move 4 = .ok (.ifCond .ne 10, 3) := by decide +kernel
theorem dX10_move_7 : decode cX10_move 7 = .ok (.aload_n 0, 1) := by decide +kernel
theorem dX10_move_8 : decode cX10_move 8 = .ok (.bipush (-5), 2) := by decide +kernel
theorem dX10_move_10 : decode cX10_move 10 = .ok (.invokevirtual 77, 3) := by decide +kernel
theorem dX10_move_13 : decode cX10_move 13 = .ok (.ireturn, 1) := by decide +kernel
theorem dX10_move_14 : decode cX10_move 14 = .ok (.iload_n 1, 1) := by decide +kernel
theorem dX10_move_15 : decode cX10_move 15 = .ok (.iload_n 2, 1) := by decide +kernel
theorem dX10_move_16 : decode cX10_move 16 = .ok (.invokestatic 177, 3) := by decide +kernel
theorem dX10_move_19 : decode cX10_move 19 = .ok (.ifCond .ne 9, 3) := by decide +kernel
theorem dX10_move_22 : decode cX10_move 22 = .ok (.aload_n 0, 1) := by decide +kernel
theorem dX10_move_23 : decode cX10_move 23 = .ok (.iconst (-1), 1) := by decide +kernel
theorem dX10_move_24 : decode cX10_move 24 = .ok (.invokevirtual 77, 3) := by decide +kernel
theorem dX10_move_27 : decode cX10_move 27 = .ok (.ireturn, 1) := by decide +kernel
theorem dX10_move_28 : decode cX10_move 28 = .ok (.aload_n 0, 1) := by decide +kernel
theorem dX10_move_29 : decode cX10_move 29 = .ok (.getfield 26, 3) := by decide +kernel
theorem dX10_move_32 : decode cX10_move 32 = .ok (.aload_n 0, 1) := by decide +kernel
theorem dX10_move_33 : decode cX10_move 33 = .ok (.getfield 59, 3) := by decide +kernel
theorem dX10_move_36 : decode cX10_move 36 = .ok (.aload_n 0, 1) := by decide +kernel
theorem dX10_move_37 : decode cX10_move 37 = .ok (.getfield 66, 3) := by decide +kernel
theorem dX10_move_40 : decode cX10_move 40 = .ok (.iaload, 1) := by decide +kernel
theorem dX10_move_41 : decode cX10_move 41 = .ok (.invokevirtual 167, 3) := by decide +kernel
theorem dX10_move_44 : decode cX10_move 44 = .ok (.aload_n 0, 1) := by decide +kernel
theorem dX10_move_45 : decode cX10_move 45 = .ok (.getfield 55, 3) := by decide +kernel
theorem dX10_move_48 : decode cX10_move 48 = .ok (.aload_n 0, 1) := by decide +kernel
theorem dX10_move_49 : decode cX10_move 49 = .ok (.getfield 66, 3) := by decide +kernel
theorem dX10_move_52 : decode cX10_move 52 = .ok (.aaload, 1) := by decide +kernel
theorem dX10_move_53 : decode cX10_move 53 = .ok (.aload_n 0, 1) := by decide +kernel
theorem dX10_move_54 : decode cX10_move 54 = .ok (.getfield 12, 3) := by decide +kernel
theorem dX10_move_57 : decode cX10_move 57 = .ok (.getfield 111, 3) := by decide +kernel
theorem dX10_move_60 : decode cX10_move 60 = .ok (.iload_n 1, 1) := by decide +kernel
theorem dX10_move_61 : decode cX10_move 61 = .ok (.iload_n 2, 1) := by decide +kernel
theorem dX10_move_62 : decode cX10_move 62 = .ok (.aload_n 0, 1) := by decide +kernel
theorem dX10_move_63 : decode cX10_move 63 = .ok (.getfield 26, 3) := by decide +kernel
theorem dX10_move_66 : decode cX10_move 66 = .ok (.invokevirtual 180, 3) := by decide +kernel
theorem dX10_move_69 : decode cX10_move 69 = .ok (.aload_n 0, 1) := by decide +kernel
theorem dX10_move_70 : decode cX10_move 70 = .ok (.invokevirtual 174, 3) := by decide +kernel
theorem dX10_move_73 : decode cX10_move 73 = .ok (.ireturn, 1) := by decide +kernel
theorem dX10_get_0 : decode cX10_get 0 = .ok (.aload_n 0, 1) := by decide +kernel
theorem dX10_get_1 : decode cX10_get 1 = .ok (.invokevirtual 160, 3) := by decide +kernel
theorem dX10_get_4 : decode cX10_get 4 = .ok (.ifCond .ne 13, 3) := by decide +kernel
theorem dX10_get_7 : decode cX10_get 7 = .ok (.new 184, 3) := by decide +kernel
theorem dX10_get_10 : decode cX10_get 10 = .ok (.dup, 1) := by decide +kernel
theorem dX10_get_11 : decode cX10_get 11 = .ok (.ldc 186, 2) := by decide +kernel
theorem dX10_get_13 : decode cX10_get 13 = .ok (.invokespecial 188, 3) := by decide +kernel
theorem dX10_get_16 : decode cX10_get 16 = .ok (.athrow, 1) := by decide +kernel
theorem dX10_get_17 : decode cX10_get 17 = .ok (.iload_n 1, 1) := by decide +kernel
theorem dX10_get_18 : decode cX10_get 18 = .ok (.invokestatic 164, 3) := by decide +kernel
theorem dX10_get_21 : decode cX10_get 21 = .ok (.ifCond .ne 13, 3) := by decide +kernel
theorem dX10_get_24 : decode cX10_get 24 = .ok (.new 104, 3) := by decide +kernel
theorem dX10_get_27 : decode cX10_get 27 = .ok (.dup, 1) := by decide +kernel
theorem dX10_get_28 : decode cX10_get 28 = .ok (.ldc 189, 2) := by decide +kernel
theorem dX10_get_30 : decode cX10_get 30 = .ok (.invokespecial 108, 3) := by decide +kernel
theorem dX10_get_33 : decode cX10_get 33 = .ok (.athrow, 1) := by decide +kernel
theorem dX10_get_34 : decode cX10_get 34 = .ok (.aload_n 0, 1) := by decide +kernel
theorem dX10_get_35 : decode cX10_get 35 = .ok (.getfield 55, 3) := by decide +kernel
theorem dX10_get_38 : decode cX10_get 38 = .ok (.aload_n 0, 1) := by decide +kernel
theorem dX10_get_39 : decode cX10_get 39 = .ok (.getfield 66, 3) := by decide +kernel
theorem dX10_get_42 : decode cX10_get 42 = .ok (.aaload, 1) := by decide +kernel
theorem dX10_get_43 : decode cX10_get 43 = .ok (.aload_n 0, 1) := by decide +kernel
theorem dX10_get_44 : decode cX10_get 44 = .ok (.getfield 12, 3) := by decide +kernel
theorem dX10_get_47 : decode cX10_get 47 = .ok (.getfield 111, 3) := by decide +kernel
theorem dX10_get_50 : decode cX10_get 50 = .ok (.iload_n 1, 1) := by decide +kernel
theorem dX10_get_51 : decode cX10_get 51 = .ok (.invokevirtual 191, 3) := by decide +kernel
theorem dX10_get_54 : decode cX10_get 54 = .ok (.lreturn, 1) := by decide +kernel
theorem dX10_rise_0 : decode cX10_rise 0 = .ok (.aload_n 0, 1) := by decide +kernel
theorem dX10_rise_1 : decode cX10_rise 1 = .ok (.invokevirtual 160, 3) := by decide +kernel
theorem dX10_rise_4 : decode cX10_rise 4 = .ok (.ifCond .eq 13, 3) := by decide +kernel
theorem dX10_rise_7 : decode cX10_rise 7 = .ok (.aload_n 0, 1) := by decide +kernel
theorem dX10_rise_8 : decode cX10_rise 8 = .ok (.getfield 12, 3) := by decide +kernel
theorem dX10_rise_11 : decode cX10_rise 11 = .ok (.getfield 88, 3) := by decide +kernel
theorem dX10_rise_14 : decode cX10_rise 14 = .ok (.ifCond .le 10, 3) := by decide +kernel
theorem dX10_rise_17 : decode cX10_rise 17 = .ok (.aload_n 0, 1) := by decide +kernel
theorem dX10_rise_18 : decode cX10_rise 18 = .ok (.bipush (-5), 2) := by decide +kernel
theorem dX10_rise_20 : decode cX10_rise 20 = .ok (.invokevirtual 77, 3) := by decide +kernel
theorem dX10_rise_23 : decode cX10_rise 23 = .ok (.ireturn, 1) := by decide +kernel
theorem dX10_rise_24 : decode cX10_rise 24 = .ok (.aload_n 0, 1) := by decide +kernel
theorem dX10_rise_25 : decode cX10_rise 25 = .ok (.getfield 26, 3) := by decide +kernel
theorem dX10_rise_28 : decode cX10_rise 28 = .ok (.aload_n 0, 1) := by decide +kernel
theorem dX10_rise_29 : decode cX10_rise 29 = .ok (.getfield 59, 3) := by decide +kernel
theorem dX10_rise_32 : decode cX10_rise 32 = .ok (.aload_n 0, 1) := by decide +kernel
theorem dX10_rise_33 : decode cX10_rise 33 = .ok (.getfield 66, 3) := by decide +kernel
theorem dX10_rise_36 : decode cX10_rise 36 = .ok (.iaload, 1) := by decide +kernel
theorem dX10_rise_37 : decode cX10_rise 37 = .ok (.invokevirtual 167, 3) := by decide +kernel
theorem dX10_rise_40 : decode cX10_rise 40 = .ok (.aload_n 0, 1) := by decide +kernel
theorem dX10_rise_41 : decode cX10_rise 41 = .ok (.getfield 55, 3) := by decide +kernel
theorem dX10_rise_44 : decode cX10_rise 44 = .ok (.aload_n 0, 1) := by decide +kernel
theorem dX10_rise_45 : decode cX10_rise 45 = .ok (.getfield 66, 3) := by decide +kernel
theorem dX10_rise_48 : decode cX10_rise 48 = .ok (.aaload, 1) := by decide +kernel
theorem dX10_rise_49 : decode cX10_rise 49 = .ok (.aload_n 0, 1) := by decide +kernel
theorem dX10_rise_50 : decode cX10_rise 50 = .ok (.getfield 12, 3) := by decide +kernel
theorem dX10_rise_53 : decode cX10_rise 53 = .ok (.getfield 111, 3) := by decide +kernel
theorem dX10_rise_56 : decode cX10_rise 56 = .ok (.aload_n 0, 1) := by decide +kernel
theorem dX10_rise_57 : decode cX10_rise 57 = .ok (.getfield 26, 3) := by decide +kernel
theorem dX10_rise_60 : decode cX10_rise 60 = .ok (.invokevirtual 195, 3) := by decide +kernel
theorem dX10_rise_63 : decode cX10_rise 63 = .ok (.aload_n 0, 1) := by decide +kernel
theorem dX10_rise_64 : decode cX10_rise 64 = .ok (.invokevirtual 174, 3) := by decide +kernel
theorem dX10_rise_67 : decode cX10_rise 67 = .ok (.ireturn, 1) := by decide +kernel
theorem dX10_isSound_0 : decode cX10_isSound 0 = .ok (.aload_n 0, 1) := by decide +kernel
theorem dX10_isSound_1 : decode cX10_isSound 1 = .ok (.invokevirtual 160, 3) := by decide +kernel
theorem dX10_isSound_4 : decode cX10_isSound 4 = .ok (.ifCond .eq 29, 3) := by decide +kernel
theorem dX10_isSound_7 : decode cX10_isSound 7 = .ok (.aload_n 0, 1) := by decide +kernel
theorem dX10_isSound_8 : decode cX10_isSound 8 = .ok (.getfield 55, 3) := by decide +kernel
theorem dX10_isSound_11 : decode cX10_isSound 11 = .ok (.aload_n 0, 1) := by decide +kernel
theorem dX10_isSound_12 : decode cX10_isSound 12 = .ok (.getfield 66, 3) := by decide +kernel
theorem dX10_isSound_15 : decode cX10_isSound 15 = .ok (.aaload, 1) := by decide +kernel
theorem dX10_isSound_16 : decode cX10_isSound 16 = .ok (.aload_n 0, 1) := by decide +kernel
theorem dX10_isSound_17 : decode cX10_isSound 17 = .ok (.getfield 12, 3) := by decide +kernel
theorem dX10_isSound_20 : decode cX10_isSound 20 = .ok (.getfield 111, 3) := by decide +kernel
theorem dX10_isSound_23 : decode cX10_isSound 23 = .ok (.invokevirtual 199, 3) := by decide +kernel
theorem dX10_isSound_26 : decode cX10_isSound 26 = .ok (.ifCond .eq 7, 3) := by decide +kernel
theorem dX10_isSound_29 : decode cX10_isSound 29 = .ok (.iconst 1, 1) := by decide +kernel
theorem dX10_isSound_30 : decode cX10_isSound 30 = .ok (.goto 4, 3) := by decide +kernel
theorem dX10_isSound_33 : decode cX10_isSound 33 = .ok (.iconst 0, 1) := by decide +kernel
theorem dX10_isSound_34 : decode cX10_isSound 34 = .ok (.ireturn, 1) := by decide +kernel
theorem dX10_addPut_0 : decode cX10_addPut 0 = .ok (.iload_n 1, 1) := by decide +kernel
theorem dX10_addPut_1 : decode cX10_addPut 1 = .ok (.invokestatic 164, 3) := by decide +kernel
theorem dX10_addPut_4 : decode cX10_addPut 4 = .ok (.ifCond .ne 9, 3) := by decide +kernel
theorem dX10_addPut_7 : decode cX10_addPut 7 = .ok (.aload_n 0, 1) := by decide +kernel
theorem dX10_addPut_8 : decode cX10_addPut 8 = .ok (.iconst (-1), 1) := by decide +kernel
theorem dX10_addPut_9 : decode cX10_addPut 9 = .ok (.invokevirtual 77, 3) := by decide +kernel
theorem dX10_addPut_12 : decode cX10_addPut 12 = .ok (.ireturn, 1) := by decide +kernel
theorem dX10_addPut_13 : decode cX10_addPut 13 = .ok (.aload_n 0, 1) := by decide +kernel
theorem dX10_addPut_14 : decode cX10_addPut 14 = .ok (.iconst 0, 1) := by decide +kernel
theorem dX10_addPut_15 : decode cX10_addPut 15 = .ok (.iload_n 1, 1) := by decide +kernel
theorem dX10_addPut_16 : decode cX10_addPut 16 = .ok (.iconst (-1), 1) := by decide +kernel
theorem dX10_addPut_17 : decode cX10_addPut 17 = .ok (.lload_n 2, 1) := by decide +kernel
theorem dX10_addPut_18 : decode cX10_addPut 18 = .ok (.invokevirtual 203, 3) := by decide +kernel
theorem dX10_addPut_21 : decode cX10_addPut 21 = .ok (.ireturn, 1) := by decide +kernel
theorem dX10_addMove_0 : decode cX10_addMove 0 = .ok (.iload_n 1, 1) := by decide +kernel
theorem dX10_addMove_1 : decode cX10_addMove 1 = .ok (.iload_n 2, 1) := by decide +kernel
theorem dX10_addMove_2 : decode cX10_addMove 2 = .ok (.invokestatic 177, 3) := by decide +kernel
theorem dX10_addMove_5 : decode cX10_addMove 5 = .ok (.ifCond .ne 9, 3) := by decide +kernel
theorem dX10_addMove_8 : decode cX10_addMove 8 = .ok (.aload_n 0, 1) := by decide +kernel
theorem dX10_addMove_9 : decode cX10_addMove 9 = .ok (.iconst (-1), 1) := by decide +kernel
theorem dX10_addMove_10 : decode cX10_addMove 10 = .ok (.invokevirtual 77, 3) := by decide +kernel
theorem dX10_addMove_13 : decode cX10_addMove 13 = .ok (.ireturn, 1) := by decide +kernel
theorem dX10_addMove_14 : decode cX10_addMove 14 = .ok (.aload_n 0, 1) := by decide +kernel
theorem dX10_addMove_15 : decode cX10_addMove 15 = .ok (.iconst 1, 1) := by decide +kernel
theorem dX10_addMove_16 : decode cX10_addMove 16 = .ok (.iload_n 1, 1) := by decide +kernel
theorem dX10_addMove_17 : decode cX10_addMove 17 = .ok (.iload_n 2, 1) := by decide +kernel
theorem dX10_addMove_18 : decode cX10_addMove 18 = .ok (.lconst 0, 1) := by decide +kernel
theorem dX10_addMove_19 : decode cX10_addMove 19 = .ok (.invokevirtual 203, 3) := by decide +kernel
theorem dX10_addMove_22 : decode cX10_addMove 22 = .ok (.ireturn, 1) := by decide +kernel
theorem dX10_addSure_0 : decode cX10_addSure 0 = .ok (.aload_n 0, 1) := by decide +kernel
theorem dX10_addSure_1 : decode cX10_addSure 1 = .ok (.iconst 2, 1) := by decide +kernel
theorem dX10_addSure_2 : decode cX10_addSure 2 = .ok (.iconst (-1), 1) := by decide +kernel
theorem dX10_addSure_3 : decode cX10_addSure 3 = .ok (.iconst (-1), 1) := by decide +kernel
theorem dX10_addSure_4 : decode cX10_addSure 4 = .ok (.lconst 0, 1) := by decide +kernel
theorem dX10_addSure_5 : decode cX10_addSure 5 = .ok (.invokevirtual 203, 3) := by decide +kernel
theorem dX10_addSure_8 : decode cX10_addSure 8 = .ok (.ireturn, 1) := by decide +kernel
theorem dX10_clear_0 : decode cX10_clear 0 = .ok (.aload_n 0, 1) := by decide +kernel
theorem dX10_clear_1 : decode cX10_clear 1 = .ok (.getfield 33, 3) := by decide +kernel
theorem dX10_clear_4 : decode cX10_clear 4 = .ok (.getfield 207, 3) := by decide +kernel
theorem dX10_clear_7 : decode cX10_clear 7 = .ok (.istore_n 1, 1) := by decide +kernel
theorem dX10_clear_8 : decode cX10_clear 8 = .ok (.aload_n 0, 1) := by decide +kernel
theorem dX10_clear_9 : decode cX10_clear 9 = .ok (.getfield 33, 3) := by decide +kernel
theorem dX10_clear_12 : decode cX10_clear 12 = .ok (.iconst 0, 1) := by decide +kernel
theorem dX10_clear_13 : decode cX10_clear 13 = .ok (.putfield 207, 3) := by decide +kernel
theorem dX10_clear_16 : decode cX10_clear 16 = .ok (.iload_n 1, 1) := by decide +kernel
theorem dX10_clear_17 : decode cX10_clear 17 = .ok (.ireturn, 1) := by decide +kernel
theorem dX10_through_0 : decode cX10_through 0 = .ok (.aload_n 0, 1) := by decide +kernel
theorem dX10_through_1 : decode cX10_through 1 = .ok (.iload_n 1, 1) := by decide +kernel
theorem dX10_through_2 : decode cX10_through 2 = .ok (.invokevirtual 149, 3) := by decide +kernel
theorem dX10_through_5 : decode cX10_through 5 = .ok (.ifCond .ne 10, 3) := by decide +kernel
theorem dX10_through_8 : decode cX10_through 8 = .ok (.aload_n 0, 1) := by decide +kernel
theorem dX10_through_9 : decode cX10_through 9 = .ok (.bipush (-2), 2) := by decide +kernel
theorem dX10_through_11 : decode cX10_through 11 = .ok (.invokevirtual 77, 3) := by decide +kernel
theorem dX10_through_14 : decode cX10_through 14 = .ok (.ireturn, 1) := by decide +kernel
theorem dX10_through_15 : decode cX10_through 15 = .ok (.aload_n 0, 1) := by decide +kernel
theorem dX10_through_16 : decode cX10_through 16 = .ok (.getfield 40, 3) := by decide +kernel
theorem dX10_through_19 : decode cX10_through 19 = .ok (.aload_n 0, 1) := by decide +kernel
theorem dX10_through_20 : decode cX10_through 20 = .ok (.getfield 55, 3) := by decide +kernel
theorem dX10_through_23 : decode cX10_through 23 = .ok (.iload_n 1, 1) := by decide +kernel
theorem dX10_through_24 : decode cX10_through 24 = .ok (.aaload, 1) := by decide +kernel
theorem dX10_through_25 : decode cX10_through 25 = .ok (.aload_n 0, 1) := by decide +kernel
theorem dX10_through_26 : decode cX10_through 26 = .ok (.getfield 59, 3) := by decide +kernel
theorem dX10_through_29 : decode cX10_through 29 = .ok (.iload_n 1, 1) := by decide +kernel
theorem dX10_through_30 : decode cX10_through 30 = .ok (.iaload, 1) := by decide +kernel
theorem dX10_through_31 : decode cX10_through 31 = .ok (.aload_n 0, 1) := by decide +kernel
theorem dX10_through_32 : decode cX10_through 32 = .ok (.getfield 33, 3) := by decide +kernel
theorem dX10_through_35 : decode cX10_through 35 = .ok (.iconst 0, 1) := by decide +kernel
theorem dX10_through_36 : decode cX10_through 36 = .ok (.invokevirtual 210, 3) := by decide +kernel
theorem dX10_through_39 : decode cX10_through 39 = .ok (.ifCond .ne 10, 3) := by decide +kernel
theorem dX10_through_42 : decode cX10_through 42 = .ok (.aload_n 0, 1) := by decide +kernel
theorem dX10_through_43 : decode cX10_through 43 = .ok (.bipush (-6), 2) := by decide +kernel
theorem dX10_through_45 : decode cX10_through 45 = .ok (.invokevirtual 77, 3) := by decide +kernel
theorem dX10_through_48 : decode cX10_through 48 = .ok (.ireturn, 1) := by decide +kernel
theorem dX10_through_49 : decode cX10_through 49 = .ok (.aload_n 0, 1) := by decide +kernel
theorem dX10_through_50 : decode cX10_through 50 = .ok (.getfield 40, 3) := by decide +kernel
theorem dX10_through_53 : decode cX10_through 53 = .ok (.invokevirtual 214, 3) := by decide +kernel
theorem dX10_through_56 : decode cX10_through 56 = .ok (.aload_n 0, 1) := by decide +kernel
theorem dX10_through_57 : decode cX10_through 57 = .ok (.getfield 40, 3) := by decide +kernel
theorem dX10_through_60 : decode cX10_through 60 = .ok (.getfield 217, 3) := by decide +kernel
theorem dX10_through_63 : decode cX10_through 63 = .ok (.getfield 221, 3) := by decide +kernel
theorem dX10_through_66 : decode cX10_through 66 = .ok (.iconst 2, 1) := by decide +kernel
theorem dX10_through_67 : decode cX10_through 67 = .ok (.iaload, 1) := by decide +kernel
theorem dX10_through_68 : decode cX10_through 68 = .ok (.ireturn, 1) := by decide +kernel
theorem dX10_gone_0 : decode cX10_gone 0 = .ok (.iload_n 1, 1) := by decide +kernel
theorem dX10_gone_1 : decode cX10_gone 1 = .ok (.ifCond .lt 9, 3) := by decide +kernel
theorem dX10_gone_4 : decode cX10_gone 4 = .ok (.iload_n 1, 1) := by decide +kernel
theorem dX10_gone_5 : decode cX10_gone 5 = .ok (.bipush 7, 2) := by decide +kernel
theorem dX10_gone_7 : decode cX10_gone 7 = .ok (.if_icmp .lt 6, 3) := by decide +kernel
theorem dX10_gone_10 : decode cX10_gone 10 = .ok (.bipush (-9), 2) := by decide +kernel
theorem dX10_gone_12 : decode cX10_gone 12 = .ok (.ireturn, 1) := by decide +kernel
theorem dX10_gone_13 : decode cX10_gone 13 = .ok (.aload_n 0, 1) := by decide +kernel
theorem dX10_gone_14 : decode cX10_gone 14 = .ok (.getfield 40, 3) := by decide +kernel
theorem dX10_gone_17 : decode cX10_gone 17 = .ok (.getfield 217, 3) := by decide +kernel
theorem dX10_gone_20 : decode cX10_gone 20 = .ok (.getfield 221, 3) := by decide +kernel
theorem dX10_gone_23 : decode cX10_gone 23 = .ok (.iload_n 1, 1) := by decide +kernel
theorem dX10_gone_24 : decode cX10_gone 24 = .ok (.iaload, 1) := by decide +kernel
theorem dX10_gone_25 : decode cX10_gone 25 = .ok (.ireturn, 1) := by decide +kernel
theorem dX10_bad_0 : decode cX10_bad 0 = .ok (.iload_n 1, 1) := by decide +kernel
theorem dX10_bad_1 : decode cX10_bad 1 = .ok (.ifCond .lt 17, 3) := by decide +kernel
theorem dX10_bad_4 : decode cX10_bad 4 = .ok (.iload_n 1, 1) := by decide +kernel
theorem dX10_bad_5 : decode cX10_bad 5 = .ok (.aload_n 0, 1) := by decide +kernel
theorem dX10_bad_6 : decode cX10_bad 6 = .ok (.getfield 40, 3) := by decide +kernel
theorem dX10_bad_9 : decode cX10_bad 9 = .ok (.getfield 217, 3) := by decide +kernel
theorem dX10_bad_12 : decode cX10_bad 12 = .ok (.getfield 226, 3) := by decide +kernel
theorem dX10_bad_15 : decode cX10_bad 15 = .ok (.if_icmp .lt 9, 3) := by decide +kernel
theorem dX10_bad_18 : decode cX10_bad 18 = .ok (.aload_n 0, 1) := by decide +kernel
theorem dX10_bad_19 : decode cX10_bad 19 = .ok (.iconst (-1), 1) := by decide +kernel
theorem dX10_bad_20 : decode cX10_bad 20 = .ok (.invokevirtual 77, 3) := by decide +kernel
theorem dX10_bad_23 : decode cX10_bad 23 = .ok (.ireturn, 1) := by decide +kernel
theorem dX10_bad_24 : decode cX10_bad 24 = .ok (.iload_n 2, 1) := by decide +kernel
theorem dX10_bad_25 : decode cX10_bad 25 = .ok (.ifCond .lt 9, 3) := by decide +kernel
theorem dX10_bad_28 : decode cX10_bad 28 = .ok (.iload_n 2, 1) := by decide +kernel
theorem dX10_bad_29 : decode cX10_bad 29 = .ok (.bipush 10, 2) := by decide +kernel
theorem dX10_bad_31 : decode cX10_bad 31 = .ok (.if_icmp .lt 6, 3) := by decide +kernel
theorem dX10_bad_34 : decode cX10_bad 34 = .ok (.bipush (-9), 2) := by decide +kernel
theorem dX10_bad_36 : decode cX10_bad 36 = .ok (.ireturn, 1) := by decide +kernel
theorem dX10_bad_37 : decode cX10_bad 37 = .ok (.aload_n 0, 1) := by decide +kernel
theorem dX10_bad_38 : decode cX10_bad 38 = .ok (.getfield 40, 3) := by decide +kernel
theorem dX10_bad_41 : decode cX10_bad 41 = .ok (.getfield 217, 3) := by decide +kernel
theorem dX10_bad_44 : decode cX10_bad 44 = .ok (.getfield 229, 3) := by decide +kernel
theorem dX10_bad_47 : decode cX10_bad 47 = .ok (.iload_n 1, 1) := by decide +kernel
theorem dX10_bad_48 : decode cX10_bad 48 = .ok (.bipush 10, 2) := by decide +kernel
theorem dX10_bad_50 : decode cX10_bad 50 = .ok (.imul, 1) := by decide +kernel
theorem dX10_bad_51 : decode cX10_bad 51 = .ok (.iload_n 2, 1) := by decide +kernel
theorem dX10_bad_52 : decode cX10_bad 52 = .ok (.iadd, 1) := by decide +kernel
theorem dX10_bad_53 : decode cX10_bad 53 = .ok (.iaload, 1) := by decide +kernel
theorem dX10_bad_54 : decode cX10_bad 54 = .ok (.ireturn, 1) := by decide +kernel
theorem dX10_spare_0 : decode cX10_spare 0 = .ok (.aload_n 0, 1) := by decide +kernel
theorem dX10_spare_1 : decode cX10_spare 1 = .ok (.iload_n 1, 1) := by decide +kernel
theorem dX10_spare_2 : decode cX10_spare 2 = .ok (.invokevirtual 149, 3) := by decide +kernel
theorem dX10_spare_5 : decode cX10_spare 5 = .ok (.ifCond .eq 20, 3) := by decide +kernel
theorem dX10_spare_8 : decode cX10_spare 8 = .ok (.iload_n 2, 1) := by decide +kernel
theorem dX10_spare_9 : decode cX10_spare 9 = .ok (.ifCond .lt 16, 3) := by decide +kernel
theorem dX10_spare_12 : decode cX10_spare 12 = .ok (.iload_n 2, 1) := by decide +kernel
theorem dX10_spare_13 : decode cX10_spare 13 = .ok (.aload_n 0, 1) := by decide +kernel
theorem dX10_spare_14 : decode cX10_spare 14 = .ok (.getfield 55, 3) := by decide +kernel
theorem dX10_spare_17 : decode cX10_spare 17 = .ok (.iload_n 1, 1) := by decide +kernel
theorem dX10_spare_18 : decode cX10_spare 18 = .ok (.aaload, 1) := by decide +kernel
theorem dX10_spare_19 : decode cX10_spare 19 = .ok (.invokevirtual 156, 3) := by decide +kernel
theorem dX10_spare_22 : decode cX10_spare 22 = .ok (.if_icmp .lt 5, 3) := by decide +kernel
theorem dX10_spare_25 : decode cX10_spare 25 = .ok (.iconst 0, 1) := by decide +kernel
theorem dX10_spare_26 : decode cX10_spare 26 = .ok (.ireturn, 1) := by decide +kernel
theorem dX10_spare_27 : decode cX10_spare 27 = .ok (.iload_n 3, 1) := by decide +kernel
theorem dX10_spare_28 : decode cX10_spare 28 = .ok (.ifCond .eq 16, 3) := by decide +kernel
theorem dX10_spare_31 : decode cX10_spare 31 = .ok (.aload_n 0, 1) := by decide +kernel
theorem dX10_spare_32 : decode cX10_spare 32 = .ok (.getfield 59, 3) := by decide +kernel
theorem dX10_spare_35 : decode cX10_spare 35 = .ok (.iload_n 1, 1) := by decide +kernel
theorem dX10_spare_36 : decode cX10_spare 36 = .ok (.iaload, 1) := by decide +kernel
theorem dX10_spare_37 : decode cX10_spare 37 = .ok (.iconst 1, 1) := by decide +kernel
theorem dX10_spare_38 : decode cX10_spare 38 = .ok (.iload_n 2, 1) := by decide +kernel
theorem dX10_spare_39 : decode cX10_spare 39 = .ok (.ishl, 1) := by decide +kernel
theorem dX10_spare_40 : decode cX10_spare 40 = .ok (.ior, 1) := by decide +kernel
theorem dX10_spare_41 : decode cX10_spare 41 = .ok (.goto 15, 3) := by decide +kernel
theorem dX10_spare_44 : decode cX10_spare 44 = .ok (.aload_n 0, 1) := by decide +kernel
theorem dX10_spare_45 : decode cX10_spare 45 = .ok (.getfield 59, 3) := by decide +kernel
theorem dX10_spare_48 : decode cX10_spare 48 = .ok (.iload_n 1, 1) := by decide +kernel
theorem dX10_spare_49 : decode cX10_spare 49 = .ok (.iaload, 1) := by decide +kernel
theorem dX10_spare_50 : decode cX10_spare 50 = .ok (.iconst 1, 1) := by decide +kernel
theorem dX10_spare_51 : decode cX10_spare 51 = .ok (.iload_n 2, 1) := by decide +kernel
theorem dX10_spare_52 : decode cX10_spare 52 = .ok (.ishl, 1) := by decide +kernel
theorem dX10_spare_53 : decode cX10_spare 53 = .ok (.iconst (-1), 1) := by decide +kernel
theorem dX10_spare_54 : decode cX10_spare 54 = .ok (.ixor, 1) := by decide +kernel
theorem dX10_spare_55 : decode cX10_spare 55 = .ok (.iand, 1) := by decide +kernel
theorem dX10_spare_56 : decode cX10_spare 56 = .ok (.istore 4, 2) := by decide +kernel
theorem dX10_spare_58 : decode cX10_spare 58 = .ok (.iload 4, 2) := by decide +kernel
theorem dX10_spare_60 : decode cX10_spare 60 = .ok (.aload_n 0, 1) := by decide +kernel
theorem dX10_spare_61 : decode cX10_spare 61 = .ok (.getfield 59, 3) := by decide +kernel
theorem dX10_spare_64 : decode cX10_spare 64 = .ok (.iload_n 1, 1) := by decide +kernel
theorem dX10_spare_65 : decode cX10_spare 65 = .ok (.iaload, 1) := by decide +kernel
theorem dX10_spare_66 : decode cX10_spare 66 = .ok (.if_icmp .eq 7, 3) := by decide +kernel
theorem dX10_spare_69 : decode cX10_spare 69 = .ok (.iconst 1, 1) := by decide +kernel
theorem dX10_spare_70 : decode cX10_spare 70 = .ok (.goto 4, 3) := by decide +kernel
theorem dX10_spare_73 : decode cX10_spare 73 = .ok (.iconst 0, 1) := by decide +kernel
theorem dX10_spare_74 : decode cX10_spare 74 = .ok (.istore 5, 2) := by decide +kernel
theorem dX10_spare_76 : decode cX10_spare 76 = .ok (.aload_n 0, 1) := by decide +kernel
theorem dX10_spare_77 : decode cX10_spare 77 = .ok (.getfield 59, 3) := by decide +kernel
theorem dX10_spare_80 : decode cX10_spare 80 = .ok (.iload_n 1, 1) := by decide +kernel
theorem dX10_spare_81 : decode cX10_spare 81 = .ok (.iload 4, 2) := by decide +kernel
theorem dX10_spare_83 : decode cX10_spare 83 = .ok (.iastore, 1) := by decide +kernel
theorem dX10_spare_84 : decode cX10_spare 84 = .ok (.iload 5, 2) := by decide +kernel
theorem dX10_spare_86 : decode cX10_spare 86 = .ok (.ireturn, 1) := by decide +kernel
theorem dX10_least_0 : decode cX10_least 0 = .ok (.aload_n 0, 1) := by decide +kernel
theorem dX10_least_1 : decode cX10_least 1 = .ok (.iload_n 1, 1) := by decide +kernel
theorem dX10_least_2 : decode cX10_least 2 = .ok (.invokevirtual 149, 3) := by decide +kernel
theorem dX10_least_5 : decode cX10_least 5 = .ok (.ifCond .ne 10, 3) := by decide +kernel
theorem dX10_least_8 : decode cX10_least 8 = .ok (.aload_n 0, 1) := by decide +kernel
theorem dX10_least_9 : decode cX10_least 9 = .ok (.bipush (-2), 2) := by decide +kernel
theorem dX10_least_11 : decode cX10_least 11 = .ok (.invokevirtual 77, 3) := by decide +kernel
theorem dX10_least_14 : decode cX10_least 14 = .ok (.ireturn, 1) := by decide +kernel
theorem dX10_least_15 : decode cX10_least 15 = .ok (.aload_n 0, 1) := by decide +kernel
theorem dX10_least_16 : decode cX10_least 16 = .ok (.getfield 40, 3) := by decide +kernel
theorem dX10_least_19 : decode cX10_least 19 = .ok (.aload_n 0, 1) := by decide +kernel
theorem dX10_least_20 : decode cX10_least 20 = .ok (.getfield 55, 3) := by decide +kernel
theorem dX10_least_23 : decode cX10_least 23 = .ok (.iload_n 1, 1) := by decide +kernel
theorem dX10_least_24 : decode cX10_least 24 = .ok (.aaload, 1) := by decide +kernel
theorem dX10_least_25 : decode cX10_least 25 = .ok (.iconst 0, 1) := by decide +kernel
theorem dX10_least_26 : decode cX10_least 26 = .ok (.aload_n 0, 1) := by decide +kernel
theorem dX10_least_27 : decode cX10_least 27 = .ok (.getfield 33, 3) := by decide +kernel
theorem dX10_least_30 : decode cX10_least 30 = .ok (.iconst 0, 1) := by decide +kernel
theorem dX10_least_31 : decode cX10_least 31 = .ok (.invokevirtual 210, 3) := by decide +kernel
theorem dX10_least_34 : decode cX10_least 34 = .ok (.ifCond .ne 10, 3) := by decide +kernel
theorem dX10_least_37 : decode cX10_least 37 = .ok (.aload_n 0, 1) := by decide +kernel
theorem dX10_least_38 : decode cX10_least 38 = .ok (.bipush (-6), 2) := by decide +kernel
theorem dX10_least_40 : decode cX10_least 40 = .ok (.invokevirtual 77, 3) := by decide +kernel
theorem dX10_least_43 : decode cX10_least 43 = .ok (.ireturn, 1) := by decide +kernel
theorem dX10_least_44 : decode cX10_least 44 = .ok (.aload_n 0, 1) := by decide +kernel
theorem dX10_least_45 : decode cX10_least 45 = .ok (.getfield 40, 3) := by decide +kernel
theorem dX10_least_48 : decode cX10_least 48 = .ok (.getfield 232, 3) := by decide +kernel
theorem dX10_least_51 : decode cX10_least 51 = .ok (.getfield 221, 3) := by decide +kernel
theorem dX10_least_54 : decode cX10_least 54 = .ok (.iconst 2, 1) := by decide +kernel
theorem dX10_least_55 : decode cX10_least 55 = .ok (.iaload, 1) := by decide +kernel
theorem dX10_least_56 : decode cX10_least 56 = .ok (.ifCond .le 10, 3) := by decide +kernel
theorem dX10_least_59 : decode cX10_least 59 = .ok (.aload_n 0, 1) := by decide +kernel
theorem dX10_least_60 : decode cX10_least 60 = .ok (.bipush (-5), 2) := by decide +kernel
theorem dX10_least_62 : decode cX10_least 62 = .ok (.invokevirtual 77, 3) := by decide +kernel
theorem dX10_least_65 : decode cX10_least 65 = .ok (.ireturn, 1) := by decide +kernel
theorem dX10_least_66 : decode cX10_least 66 = .ok (.iconst 0, 1) := by decide +kernel
theorem dX10_least_67 : decode cX10_least 67 = .ok (.istore_n 2, 1) := by decide +kernel
theorem dX10_least_68 : decode cX10_least 68 = .ok (.iconst 0, 1) := by decide +kernel
theorem dX10_least_69 : decode cX10_least 69 = .ok (.istore_n 3, 1) := by decide +kernel
theorem dX10_least_70 : decode cX10_least 70 = .ok (.iconst 0, 1) := by decide +kernel
theorem dX10_least_71 : decode cX10_least 71 = .ok (.istore 4, 2) := by decide +kernel
theorem dX10_least_73 : decode cX10_least 73 = .ok (.iload 4, 2) := by decide +kernel
theorem dX10_least_75 : decode cX10_least 75 = .ok (.aload_n 0, 1) := by decide +kernel
theorem dX10_least_76 : decode cX10_least 76 = .ok (.getfield 55, 3) := by decide +kernel
theorem dX10_least_79 : decode cX10_least 79 = .ok (.iload_n 1, 1) := by decide +kernel
theorem dX10_least_80 : decode cX10_least 80 = .ok (.aaload, 1) := by decide +kernel
theorem dX10_least_81 : decode cX10_least 81 = .ok (.invokevirtual 156, 3) := by decide +kernel
theorem dX10_least_84 : decode cX10_least 84 = .ok (.if_icmp .ge 53, 3) := by decide +kernel
theorem dX10_least_87 : decode cX10_least 87 = .ok (.iconst 1, 1) := by decide +kernel
theorem dX10_least_88 : decode cX10_least 88 = .ok (.iload 4, 2) := by decide +kernel
theorem dX10_least_90 : decode cX10_least 90 = .ok (.ishl, 1) := by decide +kernel
theorem dX10_least_91 : decode cX10_least 91 = .ok (.istore 5, 2) := by decide +kernel
theorem dX10_least_93 : decode cX10_least 93 = .ok (.aload_n 0, 1) := by decide +kernel
theorem dX10_least_94 : decode cX10_least 94 = .ok (.getfield 40, 3) := by decide +kernel
theorem dX10_least_97 : decode cX10_least 97 = .ok (.aload_n 0, 1) := by decide +kernel
theorem dX10_least_98 : decode cX10_least 98 = .ok (.getfield 55, 3) := by decide +kernel
theorem dX10_least_101 : decode cX10_least 101 = .ok (.iload_n 1, 1) := by decide +kernel
theorem dX10_least_102 : decode cX10_least 102 = .ok (.aaload, 1) := by decide +kernel
theorem dX10_least_103 : decode cX10_least 103 = .ok (.iload_n 3, 1) := by decide +kernel
theorem dX10_least_104 : decode cX10_least 104 = .ok (.iload 5, 2) := by decide +kernel
theorem dX10_least_106 : decode cX10_least 106 = .ok (.ior, 1) := by decide +kernel
theorem dX10_least_107 : decode cX10_least 107 = .ok (.aload_n 0, 1) := by decide +kernel
theorem dX10_least_108 : decode cX10_least 108 = .ok (.getfield 33, 3) := by decide +kernel
theorem dX10_least_111 : decode cX10_least 111 = .ok (.iconst 1, 1) := by decide +kernel
theorem dX10_least_112 : decode cX10_least 112 = .ok (.invokevirtual 210, 3) := by decide +kernel
theorem dX10_least_115 : decode cX10_least 115 = .ok (.ifCond .eq 11, 3) := by decide +kernel
theorem dX10_least_118 : decode cX10_least 118 = .ok (.iload_n 3, 1) := by decide +kernel
theorem dX10_least_119 : decode cX10_least 119 = .ok (.iload 5, 2) := by decide +kernel
theorem dX10_least_121 : decode cX10_least 121 = .ok (.ior, 1) := by decide +kernel
theorem dX10_least_122 : decode cX10_least 122 = .ok (.istore_n 3, 1) := by decide +kernel
theorem dX10_least_123 : decode cX10_least 123 = .ok (.goto 8, 3) := by decide +kernel
theorem dX10_least_126 : decode cX10_least 126 = .ok (.iload_n 2, 1) := by decide +kernel
theorem dX10_least_127 : decode cX10_least 127 = .ok (.iload 5, 2) := by decide +kernel
theorem dX10_least_129 : decode cX10_least 129 = .ok (.ior, 1) := by decide +kernel
theorem dX10_least_130 : decode cX10_least 130 = .ok (.istore_n 2, 1) := by decide +kernel
theorem dX10_least_131 : decode cX10_least 131 = .ok (.iinc 4 1, 3) := by decide +kernel
theorem dX10_least_134 : decode cX10_least 134 = .ok (.goto (-61), 3) := by decide +kernel
theorem dX10_least_137 : decode cX10_least 137 = .ok (.iload_n 2, 1) := by decide +kernel
theorem dX10_least_138 : decode cX10_least 138 = .ok (.ireturn, 1) := by decide +kernel
theorem dX10_digest_0 : decode cX10_digest 0 = .ok (.iload_n 1, 1) := by decide +kernel
theorem dX10_digest_1 : decode cX10_digest 1 = .ok (.ifCond .eq 11, 3) := by decide +kernel
theorem dX10_digest_4 : decode cX10_digest 4 = .ok (.iload_n 1, 1) := by decide +kernel
theorem dX10_digest_5 : decode cX10_digest 5 = .ok (.iconst 1, 1) := by decide +kernel
theorem dX10_digest_6 : decode cX10_digest 6 = .ok (.if_icmp .eq 6, 3) := by decide +kernel
theorem dX10_digest_9 : decode cX10_digest 9 = .ok (.bipush (-9), 2) := by decide +kernel
theorem dX10_digest_11 : decode cX10_digest 11 = .ok (.ireturn, 1) := by decide +kernel
theorem dX10_digest_12 : decode cX10_digest 12 = .ok (.iload_n 1, 1) := by decide +kernel
theorem dX10_digest_13 : decode cX10_digest 13 = .ok (.ifCond .ne 13, 3) := by decide +kernel
theorem dX10_digest_16 : decode cX10_digest 16 = .ok (.aload_n 0, 1) := by decide +kernel
theorem dX10_digest_17 : decode cX10_digest 17 = .ok (.getfield 12, 3) := by decide +kernel
theorem dX10_digest_20 : decode cX10_digest 20 = .ok (.getfield 114, 3) := by decide +kernel
theorem dX10_digest_23 : decode cX10_digest 23 = .ok (.goto 10, 3) := by decide +kernel
theorem dX10_digest_26 : decode cX10_digest 26 = .ok (.aload_n 0, 1) := by decide +kernel
theorem dX10_digest_27 : decode cX10_digest 27 = .ok (.getfield 12, 3) := by decide +kernel
theorem dX10_digest_30 : decode cX10_digest 30 = .ok (.getfield 111, 3) := by decide +kernel
theorem dX10_digest_33 : decode cX10_digest 33 = .ok (.astore_n 2, 1) := by decide +kernel
theorem dX10_digest_34 : decode cX10_digest 34 = .ok (.iconst 0, 1) := by decide +kernel
theorem dX10_digest_35 : decode cX10_digest 35 = .ok (.istore_n 3, 1) := by decide +kernel
theorem dX10_digest_36 : decode cX10_digest 36 = .ok (.iconst 0, 1) := by decide +kernel
theorem dX10_digest_37 : decode cX10_digest 37 = .ok (.istore 4, 2) := by decide +kernel
theorem dX10_digest_39 : decode cX10_digest 39 = .ok (.iload 4, 2) := by decide +kernel
theorem dX10_digest_41 : decode cX10_digest 41 = .ok (.bipush 32, 2) := by decide +kernel
theorem dX10_digest_43 : decode cX10_digest 43 = .ok (.if_icmp .ge 19, 3) := by decide +kernel
theorem dX10_digest_46 : decode cX10_digest 46 = .ok (.bipush 31, 2) := by decide +kernel
theorem dX10_digest_48 : decode cX10_digest 48 = .ok (.iload_n 3, 1) := by decide +kernel
theorem dX10_digest_49 : decode cX10_digest 49 = .ok (.imul, 1) := by decide +kernel
theorem dX10_digest_50 : decode cX10_digest 50 = .ok (.aload_n 2, 1) := by decide +kernel
theorem dX10_digest_51 : decode cX10_digest 51 = .ok (.iload 4, 2) := by decide +kernel
theorem dX10_digest_53 : decode cX10_digest 53 = .ok (.iaload, 1) := by decide +kernel
theorem dX10_digest_54 : decode cX10_digest 54 = .ok (.iadd, 1) := by decide +kernel
theorem dX10_digest_55 : decode cX10_digest 55 = .ok (.istore_n 3, 1) := by decide +kernel
theorem dX10_digest_56 : decode cX10_digest 56 = .ok (.iinc 4 1, 3) := by decide +kernel
theorem dX10_digest_59 : decode cX10_digest 59 = .ok (.goto (-20), 3) := by decide +kernel
theorem dX10_digest_62 : decode cX10_digest 62 = .ok (.iload_n 3, 1) := by decide +kernel
theorem dX10_digest_63 : decode cX10_digest 63 = .ok (.ireturn, 1) := by decide +kernel
theorem dX10_status_0 : decode cX10_status 0 = .ok (.iload_n 1, 1) := by decide +kernel
theorem dX10_status_1 : decode cX10_status 1 = .ok (.bipush 11, 2) := by decide +kernel
theorem dX10_status_3 : decode cX10_status 3 = .ok (.if_icmp .lt 19, 3) := by decide +kernel
theorem dX10_status_6 : decode cX10_status 6 = .ok (.iload_n 1, 1) := by decide +kernel
theorem dX10_status_7 : decode cX10_status 7 = .ok (.bipush 16, 2) := by decide +kernel
theorem dX10_status_9 : decode cX10_status 9 = .ok (.if_icmp .gt 13, 3) := by decide +kernel
theorem dX10_status_12 : decode cX10_status 12 = .ok (.aload_n 0, 1) := by decide +kernel
theorem dX10_status_13 : decode cX10_status 13 = .ok (.getfield 63, 3) := by decide +kernel
theorem dX10_status_16 : decode cX10_status 16 = .ok (.iload_n 1, 1) := by decide +kernel
theorem dX10_status_17 : decode cX10_status 17 = .ok (.bipush 10, 2) := by decide +kernel
theorem dX10_status_19 : decode cX10_status 19 = .ok (.isub, 1) := by decide +kernel
theorem dX10_status_20 : decode cX10_status 20 = .ok (.iaload, 1) := by decide +kernel
theorem dX10_status_21 : decode cX10_status 21 = .ok (.ireturn, 1) := by decide +kernel
theorem dX10_status_22 : decode cX10_status 22 = .ok (.iload_n 1, 1) := by decide +kernel
theorem dX10_status_23 : decode cX10_status 23 = .ok (.tableswitch 126 0 7 #[45, 53, 61, 69, 74, 82, 113, 121], 45) := by decide +kernel
theorem dX10_status_68 : decode cX10_status 68 = .ok (.aload_n 0, 1) := by decide +kernel
theorem dX10_status_69 : decode cX10_status 69 = .ok (.getfield 12, 3) := by decide +kernel
theorem dX10_status_72 : decode cX10_status 72 = .ok (.getfield 88, 3) := by decide +kernel
theorem dX10_status_75 : decode cX10_status 75 = .ok (.ireturn, 1) := by decide +kernel
theorem dX10_status_76 : decode cX10_status 76 = .ok (.aload_n 0, 1) := by decide +kernel
theorem dX10_status_77 : decode cX10_status 77 = .ok (.getfield 12, 3) := by decide +kernel
theorem dX10_status_80 : decode cX10_status 80 = .ok (.getfield 94, 3) := by decide +kernel
theorem dX10_status_83 : decode cX10_status 83 = .ok (.ireturn, 1) := by decide +kernel
theorem dX10_status_84 : decode cX10_status 84 = .ok (.aload_n 0, 1) := by decide +kernel
theorem dX10_status_85 : decode cX10_status 85 = .ok (.getfield 12, 3) := by decide +kernel
theorem dX10_status_88 : decode cX10_status 88 = .ok (.getfield 235, 3) := by decide +kernel
theorem dX10_status_91 : decode cX10_status 91 = .ok (.ireturn, 1) := by decide +kernel
theorem dX10_status_92 : decode cX10_status 92 = .ok (.aload_n 0, 1) := by decide +kernel
theorem dX10_status_93 : decode cX10_status 93 = .ok (.getfield 66, 3) := by decide +kernel
theorem dX10_status_96 : decode cX10_status 96 = .ok (.ireturn, 1) := by decide +kernel
theorem dX10_status_97 : decode cX10_status 97 = .ok (.aload_n 0, 1) := by decide +kernel
theorem dX10_status_98 : decode cX10_status 98 = .ok (.getfield 33, 3) := by decide +kernel
theorem dX10_status_101 : decode cX10_status 101 = .ok (.getfield 207, 3) := by decide +kernel
theorem dX10_status_104 : decode cX10_status 104 = .ok (.ireturn, 1) := by decide +kernel
theorem dX10_status_105 : decode cX10_status 105 = .ok (.aload_n 0, 1) := by decide +kernel
theorem dX10_status_106 : decode cX10_status 106 = .ok (.invokevirtual 160, 3) := by decide +kernel
theorem dX10_status_109 : decode cX10_status 109 = .ok (.ifCond .eq 25, 3) := by decide +kernel
theorem dX10_status_112 : decode cX10_status 112 = .ok (.aload_n 0, 1) := by decide +kernel
theorem dX10_status_113 : decode cX10_status 113 = .ok (.getfield 55, 3) := by decide +kernel
theorem dX10_status_116 : decode cX10_status 116 = .ok (.aload_n 0, 1) := by decide +kernel
theorem dX10_status_117 : decode cX10_status 117 = .ok (.getfield 66, 3) := by decide +kernel
theorem dX10_status_120 : decode cX10_status 120 = .ok (.aaload, 1) := by decide +kernel
theorem dX10_status_121 : decode cX10_status 121 = .ok (.aload_n 0, 1) := by decide +kernel
theorem dX10_status_122 : decode cX10_status 122 = .ok (.getfield 12, 3) := by decide +kernel
theorem dX10_status_125 : decode cX10_status 125 = .ok (.getfield 111, 3) := by decide +kernel
theorem dX10_status_128 : decode cX10_status 128 = .ok (.invokevirtual 238, 3) := by decide +kernel
theorem dX10_status_131 : decode cX10_status 131 = .ok (.goto 4, 3) := by decide +kernel
theorem dX10_status_134 : decode cX10_status 134 = .ok (.iconst 0, 1) := by decide +kernel
theorem dX10_status_135 : decode cX10_status 135 = .ok (.ireturn, 1) := by decide +kernel
theorem dX10_status_136 : decode cX10_status 136 = .ok (.aload_n 0, 1) := by decide +kernel
theorem dX10_status_137 : decode cX10_status 137 = .ok (.getfield 12, 3) := by decide +kernel
theorem dX10_status_140 : decode cX10_status 140 = .ok (.getfield 242, 3) := by decide +kernel
theorem dX10_status_143 : decode cX10_status 143 = .ok (.ireturn, 1) := by decide +kernel
theorem dX10_status_144 : decode cX10_status 144 = .ok (.aload_n 0, 1) := by decide +kernel
theorem dX10_status_145 : decode cX10_status 145 = .ok (.getfield 70, 3) := by decide +kernel
theorem dX10_status_148 : decode cX10_status 148 = .ok (.ireturn, 1) := by decide +kernel
theorem dX10_status_149 : decode cX10_status 149 = .ok (.bipush (-9), 2) := by decide +kernel
theorem dX10_status_151 : decode cX10_status 151 = .ok (.ireturn, 1) := by decide +kernel
theorem dX10_refuse_0 : decode cX10_refuse 0 = .ok (.iload_n 1, 1) := by decide +kernel
theorem dX10_refuse_1 : decode cX10_refuse 1 = .ok (.iconst (-1), 1) := by decide +kernel
theorem dX10_refuse_2 : decode cX10_refuse 2 = .ok (.if_icmp .gt 20, 3) := by decide +kernel
theorem dX10_refuse_5 : decode cX10_refuse 5 = .ok (.iload_n 1, 1) := by decide +kernel
theorem dX10_refuse_6 : decode cX10_refuse 6 = .ok (.bipush (-6), 2) := by decide +kernel
theorem dX10_refuse_8 : decode cX10_refuse 8 = .ok (.if_icmp .lt 14, 3) := by decide +kernel
theorem dX10_refuse_11 : decode cX10_refuse 11 = .ok (.aload_n 0, 1) := by decide +kernel
theorem dX10_refuse_12 : decode cX10_refuse 12 = .ok (.getfield 63, 3) := by decide +kernel
theorem dX10_refuse_15 : decode cX10_refuse 15 = .ok (.iload_n 1, 1) := by decide +kernel
theorem dX10_refuse_16 : decode cX10_refuse 16 = .ok (.ineg, 1) := by decide +kernel
theorem dX10_refuse_17 : decode cX10_refuse 17 = .ok (.dup2, 1) := by decide +kernel
theorem dX10_refuse_18 : decode cX10_refuse 18 = .ok (.iaload, 1) := by decide +kernel
theorem dX10_refuse_19 : decode cX10_refuse 19 = .ok (.iconst 1, 1) := by decide +kernel
theorem dX10_refuse_20 : decode cX10_refuse 20 = .ok (.iadd, 1) := by decide +kernel
theorem dX10_refuse_21 : decode cX10_refuse 21 = .ok (.iastore, 1) := by decide +kernel
theorem dX10_refuse_22 : decode cX10_refuse 22 = .ok (.iload_n 1, 1) := by decide +kernel
theorem dX10_refuse_23 : decode cX10_refuse 23 = .ok (.ireturn, 1) := by decide +kernel
theorem dX10_carryOut_0 : decode cX10_carryOut 0 = .ok (.aload_n 0, 1) := by decide +kernel
theorem dX10_carryOut_1 : decode cX10_carryOut 1 = .ok (.getfield 12, 3) := by decide +kernel
theorem dX10_carryOut_4 : decode cX10_carryOut 4 = .ok (.aload_n 0, 1) := by decide +kernel
theorem dX10_carryOut_5 : decode cX10_carryOut 5 = .ok (.getfield 26, 3) := by decide +kernel
theorem dX10_carryOut_8 : decode cX10_carryOut 8 = .ok (.getfield 245, 3) := by decide +kernel
theorem dX10_carryOut_11 : decode cX10_carryOut 11 = .ok (.invokevirtual 81, 3) := by decide +kernel
theorem dX10_carryOut_14 : decode cX10_carryOut 14 = .ok (.ifCond .ne 10, 3) := by decide +kernel
theorem dX10_carryOut_17 : decode cX10_carryOut 17 = .ok (.aload_n 0, 1) := by decide +kernel
theorem dX10_carryOut_18 : decode cX10_carryOut 18 = .ok (.bipush (-6), 2) := by decide +kernel
theorem dX10_carryOut_20 : decode cX10_carryOut 20 = .ok (.invokevirtual 77, 3) := by decide +kernel
theorem dX10_carryOut_23 : decode cX10_carryOut 23 = .ok (.ireturn, 1) := by decide +kernel
theorem dX10_carryOut_24 : decode cX10_carryOut 24 = .ok (.iconst 0, 1) := by decide +kernel
theorem dX10_carryOut_25 : decode cX10_carryOut 25 = .ok (.istore_n 1, 1) := by decide +kernel
theorem dX10_carryOut_26 : decode cX10_carryOut 26 = .ok (.iload_n 1, 1) := by decide +kernel
theorem dX10_carryOut_27 : decode cX10_carryOut 27 = .ok (.aload_n 0, 1) := by decide +kernel
theorem dX10_carryOut_28 : decode cX10_carryOut 28 = .ok (.getfield 26, 3) := by decide +kernel
theorem dX10_carryOut_31 : decode cX10_carryOut 31 = .ok (.getfield 245, 3) := by decide +kernel
theorem dX10_carryOut_34 : decode cX10_carryOut 34 = .ok (.if_icmp .ge 21, 3) := by decide +kernel
theorem dX10_carryOut_37 : decode cX10_carryOut 37 = .ok (.aload_n 0, 1) := by decide +kernel
theorem dX10_carryOut_38 : decode cX10_carryOut 38 = .ok (.getfield 12, 3) := by decide +kernel
theorem dX10_carryOut_41 : decode cX10_carryOut 41 = .ok (.aload_n 0, 1) := by decide +kernel
theorem dX10_carryOut_42 : decode cX10_carryOut 42 = .ok (.getfield 26, 3) := by decide +kernel
theorem dX10_carryOut_45 : decode cX10_carryOut 45 = .ok (.iload_n 1, 1) := by decide +kernel
theorem dX10_carryOut_46 : decode cX10_carryOut 46 = .ok (.invokevirtual 248, 3) := by decide +kernel
theorem dX10_carryOut_49 : decode cX10_carryOut 49 = .ok (.iinc 1 1, 3) := by decide +kernel
theorem dX10_carryOut_52 : decode cX10_carryOut 52 = .ok (.goto (-26), 3) := by decide +kernel
theorem dX10_carryOut_55 : decode cX10_carryOut 55 = .ok (.aload_n 0, 1) := by decide +kernel
theorem dX10_carryOut_56 : decode cX10_carryOut 56 = .ok (.getfield 26, 3) := by decide +kernel
theorem dX10_carryOut_59 : decode cX10_carryOut 59 = .ok (.getfield 245, 3) := by decide +kernel
theorem dX10_carryOut_62 : decode cX10_carryOut 62 = .ok (.ireturn, 1) := by decide +kernel
theorem dX10_addAct_0 : decode cX10_addAct 0 = .ok (.aload_n 0, 1) := by decide +kernel
theorem dX10_addAct_1 : decode cX10_addAct 1 = .ok (.getfield 33, 3) := by decide +kernel
theorem dX10_addAct_4 : decode cX10_addAct 4 = .ok (.getfield 207, 3) := by decide +kernel
theorem dX10_addAct_7 : decode cX10_addAct 7 = .ok (.bipush 8, 2) := by decide +kernel
theorem dX10_addAct_9 : decode cX10_addAct 9 = .ok (.if_icmp .lt 10, 3) := by decide +kernel
theorem dX10_addAct_12 : decode cX10_addAct 12 = .ok (.aload_n 0, 1) := by decide +kernel
theorem dX10_addAct_13 : decode cX10_addAct 13 = .ok (.bipush (-6), 2) := by decide +kernel
theorem dX10_addAct_15 : decode cX10_addAct 15 = .ok (.invokevirtual 77, 3) := by decide +kernel
theorem dX10_addAct_18 : decode cX10_addAct 18 = .ok (.ireturn, 1) := by decide +kernel
theorem dX10_addAct_19 : decode cX10_addAct 19 = .ok (.aload_n 0, 1) := by decide +kernel
theorem dX10_addAct_20 : decode cX10_addAct 20 = .ok (.getfield 33, 3) := by decide +kernel
theorem dX10_addAct_23 : decode cX10_addAct 23 = .ok (.iload_n 1, 1) := by decide +kernel
theorem dX10_addAct_24 : decode cX10_addAct 24 = .ok (.iload_n 2, 1) := by decide +kernel
theorem dX10_addAct_25 : decode cX10_addAct 25 = .ok (.iload_n 3, 1) := by decide +kernel
theorem dX10_addAct_26 : decode cX10_addAct 26 = .ok (.lload 4, 2) := by decide +kernel
theorem dX10_addAct_28 : decode cX10_addAct 28 = .ok (.invokevirtual 252, 3) := by decide +kernel
theorem dX10_addAct_31 : decode cX10_addAct 31 = .ok (.aload_n 0, 1) := by decide +kernel
theorem dX10_addAct_32 : decode cX10_addAct 32 = .ok (.getfield 33, 3) := by decide +kernel
theorem dX10_addAct_35 : decode cX10_addAct 35 = .ok (.getfield 207, 3) := by decide +kernel
theorem dX10_addAct_38 : decode cX10_addAct 38 = .ok (.ireturn, 1) := by decide +kernel
theorem dX10_hasStore_0 : decode cX10_hasStore 0 = .ok (.aload_n 0, 1) := by decide +kernel
theorem dX10_hasStore_1 : decode cX10_hasStore 1 = .ok (.aload_n 0, 1) := by decide +kernel
theorem dX10_hasStore_2 : decode cX10_hasStore 2 = .ok (.getfield 66, 3) := by decide +kernel
theorem dX10_hasStore_5 : decode cX10_hasStore 5 = .ok (.invokevirtual 149, 3) := by decide +kernel
theorem dX10_hasStore_8 : decode cX10_hasStore 8 = .ok (.ireturn, 1) := by decide +kernel
theorem dX10_isKind_0 : decode cX10_isKind 0 = .ok (.iload_n 1, 1) := by decide +kernel
theorem dX10_isKind_1 : decode cX10_isKind 1 = .ok (.ifCond .lt 16, 3) := by decide +kernel
theorem dX10_isKind_4 : decode cX10_isKind 4 = .ok (.iload_n 1, 1) := by decide +kernel
theorem dX10_isKind_5 : decode cX10_isKind 5 = .ok (.aload_n 0, 1) := by decide +kernel
theorem dX10_isKind_6 : decode cX10_isKind 6 = .ok (.getfield 55, 3) := by decide +kernel
theorem dX10_isKind_9 : decode cX10_isKind 9 = .ok (.arraylength, 1) := by decide +kernel
theorem dX10_isKind_10 : decode cX10_isKind 10 = .ok (.if_icmp .ge 7, 3) := by decide +kernel
theorem dX10_isKind_13 : decode cX10_isKind 13 = .ok (.iconst 1, 1) := by decide +kernel
theorem dX10_isKind_14 : decode cX10_isKind 14 = .ok (.goto 4, 3) := by decide +kernel
theorem dX10_isKind_17 : decode cX10_isKind 17 = .ok (.iconst 0, 1) := by decide +kernel
theorem dX10_isKind_18 : decode cX10_isKind 18 = .ok (.ireturn, 1) := by decide +kernel
theorem dX10_isSector_0 : decode cX10_isSector 0 = .ok (.iload_n 0, 1) := by decide +kernel
theorem dX10_isSector_1 : decode cX10_isSector 1 = .ok (.ifCond .lt 13, 3) := by decide +kernel
theorem dX10_isSector_4 : decode cX10_isSector 4 = .ok (.iload_n 0, 1) := by decide +kernel
theorem dX10_isSector_5 : decode cX10_isSector 5 = .ok (.bipush 16, 2) := by decide +kernel
theorem dX10_isSector_7 : decode cX10_isSector 7 = .ok (.if_icmp .ge 7, 3) := by decide +kernel
theorem dX10_isSector_10 : decode cX10_isSector 10 = .ok (.iconst 1, 1) := by decide +kernel
theorem dX10_isSector_11 : decode cX10_isSector 11 = .ok (.goto 4, 3) := by decide +kernel
theorem dX10_isSector_14 : decode cX10_isSector 14 = .ok (.iconst 0, 1) := by decide +kernel
theorem dX10_isSector_15 : decode cX10_isSector 15 = .ok (.ireturn, 1) := by decide +kernel
theorem dX10_isPart_0 : decode cX10_isPart 0 = .ok (.iload_n 0, 1) := by decide +kernel
theorem dX10_isPart_1 : decode cX10_isPart 1 = .ok (.invokestatic 73, 3) := by decide +kernel
theorem dX10_isPart_4 : decode cX10_isPart 4 = .ok (.ifCond .eq 16, 3) := by decide +kernel
theorem dX10_isPart_7 : decode cX10_isPart 7 = .ok (.iload_n 1, 1) := by decide +kernel
theorem dX10_isPart_8 : decode cX10_isPart 8 = .ok (.ifCond .eq 8, 3) := by decide +kernel
theorem dX10_isPart_11 : decode cX10_isPart 11 = .ok (.iload_n 1, 1) := by decide +kernel
theorem dX10_isPart_12 : decode cX10_isPart 12 = .ok (.iconst 1, 1) := by decide +kernel
theorem dX10_isPart_13 : decode cX10_isPart 13 = .ok (.if_icmp .ne 7, 3) := by decide +kernel
theorem dX10_isPart_16 : decode cX10_isPart 16 = .ok (.iconst 1, 1) := by decide +kernel
theorem dX10_isPart_17 : decode cX10_isPart 17 = .ok (.goto 4, 3) := by decide +kernel
theorem dX10_isPart_20 : decode cX10_isPart 20 = .ok (.iconst 0, 1) := by decide +kernel
theorem dX10_isPart_21 : decode cX10_isPart 21 = .ok (.ireturn, 1) := by decide +kernel
theorem dX10_isKey_0 : decode cX10_isKey 0 = .ok (.iload_n 0, 1) := by decide +kernel
theorem dX10_isKey_1 : decode cX10_isKey 1 = .ok (.ifCond .lt 12, 3) := by decide +kernel
theorem dX10_isKey_4 : decode cX10_isKey 4 = .ok (.iload_n 0, 1) := by decide +kernel
theorem dX10_isKey_5 : decode cX10_isKey 5 = .ok (.iconst 3, 1) := by decide +kernel
theorem dX10_isKey_6 : decode cX10_isKey 6 = .ok (.if_icmp .ge 7, 3) := by decide +kernel
theorem dX10_isKey_9 : decode cX10_isKey 9 = .ok (.iconst 1, 1) := by decide +kernel
theorem dX10_isKey_10 : decode cX10_isKey 10 = .ok (.goto 4, 3) := by decide +kernel
theorem dX10_isKey_13 : decode cX10_isKey 13 = .ok (.iconst 0, 1) := by decide +kernel
theorem dX10_isKey_14 : decode cX10_isKey 14 = .ok (.ireturn, 1) := by decide +kernel
theorem dX10_areTwoKeys_0 : decode cX10_areTwoKeys 0 = .ok (.iload_n 0, 1) := by decide +kernel
theorem dX10_areTwoKeys_1 : decode cX10_areTwoKeys 1 = .ok (.invokestatic 164, 3) := by decide +kernel
theorem dX10_areTwoKeys_4 : decode cX10_areTwoKeys 4 = .ok (.ifCond .eq 19, 3) := by decide +kernel
theorem dX10_areTwoKeys_7 : decode cX10_areTwoKeys 7 = .ok (.iload_n 1, 1) := by decide +kernel
theorem dX10_areTwoKeys_8 : decode cX10_areTwoKeys 8 = .ok (.invokestatic 164, 3) := by decide +kernel
theorem dX10_areTwoKeys_11 : decode cX10_areTwoKeys 11 = .ok (.ifCond .eq 12, 3) := by decide +kernel
theorem dX10_areTwoKeys_14 : decode cX10_areTwoKeys 14 = .ok (.iload_n 0, 1) := by decide +kernel
theorem dX10_areTwoKeys_15 : decode cX10_areTwoKeys 15 = .ok (.iload_n 1, 1) := by decide +kernel
theorem dX10_areTwoKeys_16 : decode cX10_areTwoKeys 16 = .ok (.if_icmp .eq 7, 3) := by decide +kernel
theorem dX10_areTwoKeys_19 : decode cX10_areTwoKeys 19 = .ok (.iconst 1, 1) := by decide +kernel
theorem dX10_areTwoKeys_20 : decode cX10_areTwoKeys 20 = .ok (.goto 4, 3) := by decide +kernel
theorem dX10_areTwoKeys_23 : decode cX10_areTwoKeys 23 = .ok (.iconst 0, 1) := by decide +kernel
theorem dX10_areTwoKeys_24 : decode cX10_areTwoKeys 24 = .ok (.ireturn, 1) := by decide +kernel
theorem dX10_high_0 : decode cX10_high 0 = .ok (.lload_n 0, 1) := by decide +kernel
theorem dX10_high_1 : decode cX10_high 1 = .ok (.bipush 32, 2) := by decide +kernel
theorem dX10_high_3 : decode cX10_high 3 = .ok (.lshr, 1) := by decide +kernel
theorem dX10_high_4 : decode cX10_high 4 = .ok (.l2i, 1) := by decide +kernel
theorem dX10_high_5 : decode cX10_high 5 = .ok (.ireturn, 1) := by decide +kernel
theorem dX10_low_0 : decode cX10_low 0 = .ok (.lload_n 0, 1) := by decide +kernel
theorem dX10_low_1 : decode cX10_low 1 = .ok (.l2i, 1) := by decide +kernel
theorem dX10_low_2 : decode cX10_low 2 = .ok (.ireturn, 1) := by decide +kernel
theorem dX11_init_0 : decode cX11_init 0 = .ok (.aload_n 0, 1) := by decide +kernel
theorem dX11_init_1 : decode cX11_init 1 = .ok (.invokespecial 1, 3) := by decide +kernel
theorem dX11_init_4 : decode cX11_init 4 = .ok (.aload_n 0, 1) := by decide +kernel
theorem dX11_init_5 : decode cX11_init 5 = .ok (.bipush 96, 2) := by decide +kernel
theorem dX11_init_7 : decode cX11_init 7 = .ok (.newarray .int, 2) := by decide +kernel
theorem dX11_init_9 : decode cX11_init 9 = .ok (.putfield 7, 3) := by decide +kernel
theorem dX11_init_12 : decode cX11_init 12 = .ok (.aload_n 0, 1) := by decide +kernel
theorem dX11_init_13 : decode cX11_init 13 = .ok (.sipush 180, 3) := by decide +kernel
theorem dX11_init_16 : decode cX11_init 16 = .ok (.newarray .int, 2) := by decide +kernel
theorem dX11_init_18 : decode cX11_init 18 = .ok (.putfield 13, 3) := by decide +kernel
theorem dX11_init_21 : decode cX11_init 21 = .ok (.aload_n 0, 1) := by decide +kernel
theorem dX11_init_22 : decode cX11_init 22 = .ok (.sipush 180, 3) := by decide +kernel
theorem dX11_init_25 : decode cX11_init 25 = .ok (.newarray .int, 2) := by decide +kernel
theorem dX11_init_27 : decode cX11_init 27 = .ok (.putfield 16, 3) := by decide +kernel
theorem dX11_init_30 : decode cX11_init 30 = .ok (.aload_n 0, 1) := by decide +kernel
theorem dX11_init_31 : decode cX11_init 31 = .ok (.sipush 180, 3) := by decide +kernel
theorem dX11_init_34 : decode cX11_init 34 = .ok (.newarray .int, 2) := by decide +kernel
theorem dX11_init_36 : decode cX11_init 36 = .ok (.putfield 19, 3) := by decide +kernel
theorem dX11_init_39 : decode cX11_init 39 = .ok (.aload_n 0, 1) := by decide +kernel
theorem dX11_init_40 : decode cX11_init 40 = .ok (.iconst 3, 1) := by decide +kernel
theorem dX11_init_41 : decode cX11_init 41 = .ok (.newarray .int, 2) := by decide +kernel
theorem dX11_init_43 : decode cX11_init 43 = .ok (.putfield 22, 3) := by decide +kernel
theorem dX11_init_46 : decode cX11_init 46 = .ok (.aload_n 0, 1) := by decide +kernel
theorem dX11_init_47 : decode cX11_init 47 = .ok (.iconst (-1), 1) := by decide +kernel
theorem dX11_init_48 : decode cX11_init 48 = .ok (.putfield 25, 3) := by decide +kernel
theorem dX11_init_51 : decode cX11_init 51 = .ok (.aload_n 0, 1) := by decide +kernel
theorem dX11_init_52 : decode cX11_init 52 = .ok (.bipush 12, 2) := by decide +kernel
theorem dX11_init_54 : decode cX11_init 54 = .ok (.newarray .boolean, 2) := by decide +kernel
theorem dX11_init_56 : decode cX11_init 56 = .ok (.putfield 29, 3) := by decide +kernel
theorem dX11_init_59 : decode cX11_init 59 = .ok (.aload_n 0, 1) := by decide +kernel
theorem dX11_init_60 : decode cX11_init 60 = .ok (.bipush 7, 2) := by decide +kernel
theorem dX11_init_62 : decode cX11_init 62 = .ok (.newarray .int, 2) := by decide +kernel
theorem dX11_init_64 : decode cX11_init 64 = .ok (.putfield 33, 3) := by decide +kernel
theorem dX11_init_67 : decode cX11_init 67 = .ok (.aload_n 0, 1) := by decide +kernel
theorem dX11_init_68 : decode cX11_init 68 = .ok (.ldc 36, 2) := by decide +kernel
theorem dX11_init_70 : decode cX11_init 70 = .ok (.newarray .int, 2) := by decide +kernel
theorem dX11_init_72 : decode cX11_init 72 = .ok (.putfield 37, 3) := by decide +kernel
theorem dX11_init_75 : decode cX11_init 75 = .ok (.aload_n 0, 1) := by decide +kernel
theorem dX11_init_76 : decode cX11_init 76 = .ok (.sipush 4096, 3) := by decide +kernel
theorem dX11_init_79 : decode cX11_init 79 = .ok (.newarray .int, 2) := by decide +kernel
theorem dX11_init_81 : decode cX11_init 81 = .ok (.putfield 40, 3) := by decide +kernel
theorem dX11_init_84 : decode cX11_init 84 = .ok (.aload_n 0, 1) := by decide +kernel
theorem dX11_init_85 : decode cX11_init 85 = .ok (.bipush 32, 2) := by decide +kernel
theorem dX11_init_87 : decode cX11_init 87 = .ok (.newarray .int, 2) := by decide +kernel
theorem dX11_init_89 : decode cX11_init 89 = .ok (.putfield 43, 3) := by decide +kernel
theorem dX11_init_92 : decode cX11_init 92 = .ok (.aload_n 0, 1) := by decide +kernel
theorem dX11_init_93 : decode cX11_init 93 = .ok (.sipush 1952, 3) := by decide +kernel
theorem dX11_init_96 : decode cX11_init 96 = .ok (.newarray .int, 2) := by decide +kernel
theorem dX11_init_98 : decode cX11_init 98 = .ok (.putfield 46, 3) := by decide +kernel
theorem dX11_init_101 : decode cX11_init 101 = .ok (.aload_n 0, 1) := by decide +kernel
theorem dX11_init_102 : decode cX11_init 102 = .ok (.bipush 32, 2) := by decide +kernel
theorem dX11_init_104 : decode cX11_init 104 = .ok (.newarray .int, 2) := by decide +kernel
theorem dX11_init_106 : decode cX11_init 106 = .ok (.putfield 49, 3) := by decide +kernel
theorem dX11_init_109 : decode cX11_init 109 = .ok (.aload_n 0, 1) := by decide +kernel
theorem dX11_init_110 : decode cX11_init 110 = .ok (.bipush 32, 2) := by decide +kernel
theorem dX11_init_112 : decode cX11_init 112 = .ok (.newarray .int, 2) := by decide +kernel
theorem dX11_init_114 : decode cX11_init 114 = .ok (.putfield 52, 3) := by decide +kernel
theorem dX11_init_117 : decode cX11_init 117 = .ok (.aload_n 0, 1) := by decide +kernel
theorem dX11_init_118 : decode cX11_init 118 = .ok (.bipush 16, 2) := by decide +kernel
theorem dX11_init_120 : decode cX11_init 120 = .ok (.newarray .int, 2) := by decide +kernel
theorem dX11_init_122 : decode cX11_init 122 = .ok (.putfield 55, 3) := by decide +kernel
theorem dX11_init_125 : decode cX11_init 125 = .ok (.aload_n 0, 1) := by decide +kernel
theorem dX11_init_126 : decode cX11_init 126 = .ok (.bipush 16, 2) := by decide +kernel
theorem dX11_init_128 : decode cX11_init 128 = .ok (.newarray .int, 2) := by decide +kernel
theorem dX11_init_130 : decode cX11_init 130 = .ok (.putfield 58, 3) := by decide +kernel
theorem dX11_init_133 : decode cX11_init 133 = .ok (.aload_n 0, 1) := by decide +kernel
theorem dX11_init_134 : decode cX11_init 134 = .ok (.bipush 16, 2) := by decide +kernel
theorem dX11_init_136 : decode cX11_init 136 = .ok (.newarray .int, 2) := by decide +kernel
theorem dX11_init_138 : decode cX11_init 138 = .ok (.putfield 61, 3) := by decide +kernel
theorem dX11_init_141 : decode cX11_init 141 = .ok (.aload_n 0, 1) := by decide +kernel
theorem dX11_init_142 : decode cX11_init 142 = .ok (.bipush 8, 2) := by decide +kernel
theorem dX11_init_144 : decode cX11_init 144 = .ok (.newarray .int, 2) := by decide +kernel
theorem dX11_init_146 : decode cX11_init 146 = .ok (.putfield 64, 3) := by decide +kernel
theorem dX11_init_149 : decode cX11_init 149 = .ok (.aload_n 0, 1) := by decide +kernel
theorem dX11_init_150 : decode cX11_init 150 = .ok (.bipush 8, 2) := by decide +kernel
theorem dX11_init_152 : decode cX11_init 152 = .ok (.newarray .int, 2) := by decide +kernel
theorem dX11_init_154 : decode cX11_init 154 = .ok (.putfield 67, 3) := by decide +kernel
theorem dX11_init_157 : decode cX11_init 157 = .ok (.aload_n 0, 1) := by decide +kernel
theorem dX11_init_158 : decode cX11_init 158 = .ok (.bipush 8, 2) := by decide +kernel
theorem dX11_init_160 : decode cX11_init 160 = .ok (.newarray .int, 2) := by decide +kernel
theorem dX11_init_162 : decode cX11_init 162 = .ok (.putfield 70, 3) := by decide +kernel
theorem dX11_init_165 : decode cX11_init 165 = .ok (.aload_n 0, 1) := by decide +kernel
theorem dX11_init_166 : decode cX11_init 166 = .ok (.bipush 8, 2) := by decide +kernel
theorem dX11_init_168 : decode cX11_init 168 = .ok (.newarray .long, 2) := by decide +kernel
theorem dX11_init_170 : decode cX11_init 170 = .ok (.putfield 73, 3) := by decide +kernel
theorem dX11_init_173 : decode cX11_init 173 = .ok (.aload_n 0, 1) := by decide +kernel
theorem dX11_init_174 : decode cX11_init 174 = .ok (.bipush 27, 2) := by decide +kernel
theorem dX11_init_176 : decode cX11_init 176 = .ok (.newarray .long, 2) := by decide +kernel
theorem dX11_init_178 : decode cX11_init 178 = .ok (.putfield 77, 3) := by decide +kernel
theorem dX11_init_181 : decode cX11_init 181 = .ok (.aload_n 0, 1) := by decide +kernel
theorem dX11_init_182 : decode cX11_init 182 = .ok (.bipush 7, 2) := by decide +kernel
theorem dX11_init_184 : decode cX11_init 184 = .ok (.newarray .int, 2) := by decide +kernel
theorem dX11_init_186 : decode cX11_init 186 = .ok (.putfield 80, 3) := by decide +kernel
theorem dX11_init_189 : decode cX11_init 189 = .ok (.aload_n 0, 1) := by decide +kernel
theorem dX11_init_190 : decode cX11_init 190 = .ok (.bipush 7, 2) := by decide +kernel
theorem dX11_init_192 : decode cX11_init 192 = .ok (.newarray .int, 2) := by decide +kernel
theorem dX11_init_194 : decode cX11_init 194 = .ok (.putfield 83, 3) := by decide +kernel
theorem dX11_init_197 : decode cX11_init 197 = .ok (.aload_n 0, 1) := by decide +kernel
theorem dX11_init_198 : decode cX11_init 198 = .ok (.sipush 500, 3) := by decide +kernel
theorem dX11_init_201 : decode cX11_init 201 = .ok (.newarray .int, 2) := by decide +kernel
theorem dX11_init_203 : decode cX11_init 203 = .ok (.putfield 86, 3) := by decide +kernel
theorem dX11_init_206 : decode cX11_init 206 = .ok (.aload_n 0, 1) := by decide +kernel
theorem dX11_init_207 : decode cX11_init 207 = .ok (.sipush 500, 3) := by decide +kernel
theorem dX11_init_210 : decode cX11_init 210 = .ok (.newarray .int, 2) := by decide +kernel
theorem dX11_init_212 : decode cX11_init 212 = .ok (.putfield 89, 3) := by decide +kernel
theorem dX11_init_215 : decode cX11_init 215 = .ok (.aload_n 0, 1) := by decide +kernel
theorem dX11_init_216 : decode cX11_init 216 = .ok (.iconst 3, 1) := by decide +kernel
theorem dX11_init_217 : decode cX11_init 217 = .ok (.newarray .long, 2) := by decide +kernel
theorem dX11_init_219 : decode cX11_init 219 = .ok (.putfield 92, 3) := by decide +kernel
theorem dX11_init_222 : decode cX11_init 222 = .ok (.aload_n 0, 1) := by decide +kernel
theorem dX11_init_223 : decode cX11_init 223 = .ok (.bipush 16, 2) := by decide +kernel
theorem dX11_init_225 : decode cX11_init 225 = .ok (.newarray .int, 2) := by decide +kernel
theorem dX11_init_227 : decode cX11_init 227 = .ok (.putfield 95, 3) := by decide +kernel
theorem dX11_init_230 : decode cX11_init 230 = .ok (.aload_n 0, 1) := by decide +kernel
theorem dX11_init_231 : decode cX11_init 231 = .ok (.bipush 16, 2) := by decide +kernel
theorem dX11_init_233 : decode cX11_init 233 = .ok (.newarray .int, 2) := by decide +kernel
theorem dX11_init_235 : decode cX11_init 235 = .ok (.putfield 98, 3) := by decide +kernel
theorem dX11_init_238 : decode cX11_init 238 = .ok (.aload_n 0, 1) := by decide +kernel
theorem dX11_init_239 : decode cX11_init 239 = .ok (.bipush 16, 2) := by decide +kernel
theorem dX11_init_241 : decode cX11_init 241 = .ok (.newarray .int, 2) := by decide +kernel
theorem dX11_init_243 : decode cX11_init 243 = .ok (.putfield 101, 3) := by decide +kernel
theorem dX11_init_246 : decode cX11_init 246 = .ok (.return_, 1) := by decide +kernel
theorem dX11_thrown_0 : decode cX11_thrown 0 = .ok (.aload_n 0, 1) := by decide +kernel
theorem dX11_thrown_1 : decode cX11_thrown 1 = .ok (.getfield 104, 3) := by decide +kernel
theorem dX11_thrown_4 : decode cX11_thrown 4 = .ok (.ireturn, 1) := by decide +kernel
theorem dX11_in_0 : decode cX11_in 0 = .ok (.iload_n 0, 1) := by decide +kernel
theorem dX11_in_1 : decode cX11_in 1 = .ok (.iload_n 1, 1) := by decide +kernel
theorem dX11_in_2 : decode cX11_in 2 = .ok (.if_icmp .lt 12, 3) := by decide +kernel
theorem dX11_in_5 : decode cX11_in 5 = .ok (.iload_n 0, 1) := by decide +kernel
theorem dX11_in_6 : decode cX11_in 6 = .ok (.iload_n 2, 1) := by decide +kernel
theorem dX11_in_7 : decode cX11_in 7 = .ok (.if_icmp .gt 7, 3) := by decide +kernel
theorem dX11_in_10 : decode cX11_in 10 = .ok (.iconst 1, 1) := by decide +kernel
theorem dX11_in_11 : decode cX11_in 11 = .ok (.goto 4, 3) := by decide +kernel
theorem dX11_in_14 : decode cX11_in 14 = .ok (.iconst 0, 1) := by decide +kernel
theorem dX11_in_15 : decode cX11_in 15 = .ok (.ireturn, 1) := by decide +kernel
theorem dX11_refuse_0 : decode cX11_refuse 0 = .ok (.aload_n 0, 1) := by decide +kernel
theorem dX11_refuse_1 : decode cX11_refuse 1 = .ok (.getfield 33, 3) := by decide +kernel
theorem dX11_refuse_4 : decode cX11_refuse 4 = .ok (.iload_n 1, 1) := by decide +kernel
theorem dX11_refuse_5 : decode cX11_refuse 5 = .ok (.ineg, 1) := by decide +kernel
theorem dX11_refuse_6 : decode cX11_refuse 6 = .ok (.dup2, 1) := by decide +kernel
theorem dX11_refuse_7 : decode cX11_refuse 7 = .ok (.iaload, 1) := by decide +kernel
theorem dX11_refuse_8 : decode cX11_refuse 8 = .ok (.iconst 1, 1) := by decide +kernel
theorem dX11_refuse_9 : decode cX11_refuse 9 = .ok (.iadd, 1) := by decide +kernel
theorem dX11_refuse_10 : decode cX11_refuse 10 = .ok (.iastore, 1) := by decide +kernel
theorem dX11_refuse_11 : decode cX11_refuse 11 = .ok (.iload_n 1, 1) := by decide +kernel
theorem dX11_refuse_12 : decode cX11_refuse 12 = .ok (.ireturn, 1) := by decide +kernel
theorem dX11_readOf_0 : decode cX11_readOf 0 = .ok (.aload_n 0, 1) := by decide +kernel
theorem dX11_readOf_1 : decode cX11_readOf 1 = .ok (.getfield 22, 3) := by decide +kernel
theorem dX11_readOf_4 : decode cX11_readOf 4 = .ok (.iload_n 1, 1) := by decide +kernel
theorem dX11_readOf_5 : decode cX11_readOf 5 = .ok (.iaload, 1) := by decide +kernel
theorem dX11_readOf_6 : decode cX11_readOf 6 = .ok (.iconst 1, 1) := by decide +kernel
theorem dX11_readOf_7 : decode cX11_readOf 7 = .ok (.isub, 1) := by decide +kernel
theorem dX11_readOf_8 : decode cX11_readOf 8 = .ok (.istore 4, 2) := by decide +kernel
theorem dX11_readOf_10 : decode cX11_readOf 10 = .ok (.iload 4, 2) := by decide +kernel
theorem dX11_readOf_12 : decode cX11_readOf 12 = .ok (.ifCond .lt 57, 3) := by decide +kernel
theorem dX11_readOf_15 : decode cX11_readOf 15 = .ok (.aload_n 0, 1) := by decide +kernel
theorem dX11_readOf_16 : decode cX11_readOf 16 = .ok (.getfield 13, 3) := by decide +kernel
theorem dX11_readOf_19 : decode cX11_readOf 19 = .ok (.bipush 60, 2) := by decide +kernel
theorem dX11_readOf_21 : decode cX11_readOf 21 = .ok (.iload_n 1, 1) := by decide +kernel
theorem dX11_readOf_22 : decode cX11_readOf 22 = .ok (.imul, 1) := by decide +kernel
theorem dX11_readOf_23 : decode cX11_readOf 23 = .ok (.iload 4, 2) := by decide +kernel
theorem dX11_readOf_25 : decode cX11_readOf 25 = .ok (.iadd, 1) := by decide +kernel
theorem dX11_readOf_26 : decode cX11_readOf 26 = .ok (.iaload, 1) := by decide +kernel
theorem dX11_readOf_27 : decode cX11_readOf 27 = .ok (.iload_n 2, 1) := by decide +kernel
theorem dX11_readOf_28 : decode cX11_readOf 28 = .ok (.if_icmp .ne 35, 3) := by decide +kernel
theorem dX11_readOf_31 : decode cX11_readOf 31 = .ok (.iload_n 3, 1) := by decide +kernel
theorem dX11_readOf_32 : decode cX11_readOf 32 = .ok (.ifCond .ne 18, 3) := by decide +kernel
theorem dX11_readOf_35 : decode cX11_readOf 35 = .ok (.aload_n 0, 1) := by decide +kernel
theorem dX11_readOf_36 : decode cX11_readOf 36 = .ok (.getfield 16, 3) := by decide +kernel
theorem dX11_readOf_39 : decode cX11_readOf 39 = .ok (.bipush 60, 2) := by decide +kernel
theorem dX11_readOf_41 : decode cX11_readOf 41 = .ok (.iload_n 1, 1) := by decide +kernel
theorem dX11_readOf_42 : decode cX11_readOf 42 = .ok (.imul, 1) := by decide +kernel
theorem dX11_readOf_43 : decode cX11_readOf 43 = .ok (.iload 4, 2) := by decide +kernel
theorem dX11_readOf_45 : decode cX11_readOf 45 = .ok (.iadd, 1) := by decide +kernel
theorem dX11_readOf_46 : decode cX11_readOf 46 = .ok (.iaload, 1) := by decide +kernel
theorem dX11_readOf_47 : decode cX11_readOf 47 = .ok (.goto 15, 3) := by decide +kernel
theorem dX11_readOf_50 : decode cX11_readOf 50 = .ok (.aload_n 0, 1) := by decide +kernel
theorem dX11_readOf_51 : decode cX11_readOf 51 = .ok (.getfield 19, 3) := by decide +kernel
theorem dX11_readOf_54 : decode cX11_readOf 54 = .ok (.bipush 60, 2) := by decide +kernel
theorem dX11_readOf_56 : decode cX11_readOf 56 = .ok (.iload_n 1, 1) := by decide +kernel
theorem dX11_readOf_57 : decode cX11_readOf 57 = .ok (.imul, 1) := by decide +kernel
theorem dX11_readOf_58 : decode cX11_readOf 58 = .ok (.iload 4, 2) := by decide +kernel
theorem dX11_readOf_60 : decode cX11_readOf 60 = .ok (.iadd, 1) := by decide +kernel
theorem dX11_readOf_61 : decode cX11_readOf 61 = .ok (.iaload, 1) := by decide +kernel
theorem dX11_readOf_62 : decode cX11_readOf 62 = .ok (.ireturn, 1) := by decide +kernel
theorem dX11_readOf_63 : decode cX11_readOf 63 = .ok (.iinc 4 (-1), 3) := by decide +kernel
theorem dX11_readOf_66 : decode cX11_readOf 66 = .ok (.goto (-56), 3) := by decide +kernel
theorem dX11_readOf_69 : decode cX11_readOf 69 = .ok (.aload_n 0, 1) := by decide +kernel
theorem dX11_readOf_70 : decode cX11_readOf 70 = .ok (.getfield 7, 3) := by decide +kernel
theorem dX11_readOf_73 : decode cX11_readOf 73 = .ok (.bipush 32, 2) := by decide +kernel
theorem dX11_readOf_75 : decode cX11_readOf 75 = .ok (.iload_n 1, 1) := by decide +kernel
theorem dX11_readOf_76 : decode cX11_readOf 76 = .ok (.imul, 1) := by decide +kernel
theorem dX11_readOf_77 : decode cX11_readOf 77 = .ok (.iconst 2, 1) := by decide +kernel
theorem dX11_readOf_78 : decode cX11_readOf 78 = .ok (.iload_n 2, 1) := by decide +kernel
theorem dX11_readOf_79 : decode cX11_readOf 79 = .ok (.imul, 1) := by decide +kernel
theorem dX11_readOf_80 : decode cX11_readOf 80 = .ok (.iadd, 1) := by decide +kernel
theorem dX11_readOf_81 : decode cX11_readOf 81 = .ok (.iload_n 3, 1) := by decide +kernel
theorem dX11_readOf_82 : decode cX11_readOf 82 = .ok (.iadd, 1) := by decide +kernel
theorem dX11_readOf_83 : decode cX11_readOf 83 = .ok (.iaload, 1) := by decide +kernel
theorem dX11_readOf_84 : decode cX11_readOf 84 = .ok (.ireturn, 1) := by decide +kernel
theorem dX11_push_0 : decode cX11_push 0 = .ok (.aload_n 0, 1) := by decide +kernel
theorem dX11_push_1 : decode cX11_push 1 = .ok (.getfield 22, 3) := by decide +kernel
theorem dX11_push_4 : decode cX11_push 4 = .ok (.iload_n 1, 1) := by decide +kernel
theorem dX11_push_5 : decode cX11_push 5 = .ok (.iaload, 1) := by decide +kernel
theorem dX11_push_6 : decode cX11_push 6 = .ok (.bipush 60, 2) := by decide +kernel
theorem dX11_push_8 : decode cX11_push 8 = .ok (.if_icmp .ne 5, 3) := by decide +kernel
theorem dX11_push_11 : decode cX11_push 11 = .ok (.iconst 0, 1) := by decide +kernel
theorem dX11_push_12 : decode cX11_push 12 = .ok (.ireturn, 1) := by decide +kernel
theorem dX11_push_13 : decode cX11_push 13 = .ok (.bipush 60, 2) := by decide +kernel
theorem dX11_push_15 : decode cX11_push 15 = .ok (.iload_n 1, 1) := by decide +kernel
theorem dX11_push_16 : decode cX11_push 16 = .ok (.imul, 1) := by decide +kernel
theorem dX11_push_17 : decode cX11_push 17 = .ok (.aload_n 0, 1) := by decide +kernel
theorem dX11_push_18 : decode cX11_push 18 = .ok (.getfield 22, 3) := by decide +kernel
theorem dX11_push_21 : decode cX11_push 21 = .ok (.iload_n 1, 1) := by decide +kernel
theorem dX11_push_22 : decode cX11_push 22 = .ok (.iaload, 1) := by decide +kernel
theorem dX11_push_23 : decode cX11_push 23 = .ok (.iadd, 1) := by decide +kernel
theorem dX11_push_24 : decode cX11_push 24 = .ok (.istore 5, 2) := by decide +kernel
theorem dX11_push_26 : decode cX11_push 26 = .ok (.aload_n 0, 1) := by decide +kernel
theorem dX11_push_27 : decode cX11_push 27 = .ok (.getfield 13, 3) := by decide +kernel
theorem dX11_push_30 : decode cX11_push 30 = .ok (.iload 5, 2) := by decide +kernel
theorem dX11_push_32 : decode cX11_push 32 = .ok (.iload_n 2, 1) := by decide +kernel
theorem dX11_push_33 : decode cX11_push 33 = .ok (.iastore, 1) := by decide +kernel
theorem dX11_push_34 : decode cX11_push 34 = .ok (.aload_n 0, 1) := by decide +kernel
theorem dX11_push_35 : decode cX11_push 35 = .ok (.getfield 16, 3) := by decide +kernel
theorem dX11_push_38 : decode cX11_push 38 = .ok (.iload 5, 2) := by decide +kernel
theorem dX11_push_40 : decode cX11_push 40 = .ok (.iload_n 3, 1) := by decide +kernel
theorem dX11_push_41 : decode cX11_push 41 = .ok (.iastore, 1) := by decide +kernel
theorem dX11_push_42 : decode cX11_push 42 = .ok (.aload_n 0, 1) := by decide +kernel
theorem dX11_push_43 : decode cX11_push 43 = .ok (.getfield 19, 3) := by decide +kernel
theorem dX11_push_46 : decode cX11_push 46 = .ok (.iload 5, 2) := by decide +kernel
theorem dX11_push_48 : decode cX11_push 48 = .ok (.iload 4, 2) := by decide +kernel
theorem dX11_push_50 : decode cX11_push 50 = .ok (.iastore, 1) := by decide +kernel
theorem dX11_push_51 : decode cX11_push 51 = .ok (.aload_n 0, 1) := by decide +kernel
theorem dX11_push_52 : decode cX11_push 52 = .ok (.getfield 22, 3) := by decide +kernel
theorem dX11_push_55 : decode cX11_push 55 = .ok (.iload_n 1, 1) := by decide +kernel
theorem dX11_push_56 : decode cX11_push 56 = .ok (.dup2, 1) := by decide +kernel
theorem dX11_push_57 : decode cX11_push 57 = .ok (.iaload, 1) := by decide +kernel
theorem dX11_push_58 : decode cX11_push 58 = .ok (.iconst 1, 1) := by decide +kernel
theorem dX11_push_59 : decode cX11_push 59 = .ok (.iadd, 1) := by decide +kernel
theorem dX11_push_60 : decode cX11_push 60 = .ok (.iastore, 1) := by decide +kernel
theorem dX11_push_61 : decode cX11_push 61 = .ok (.aload_n 0, 1) := by decide +kernel
theorem dX11_push_62 : decode cX11_push 62 = .ok (.dup, 1) := by decide +kernel
theorem dX11_push_63 : decode cX11_push 63 = .ok (.getfield 107, 3) := by decide +kernel
theorem dX11_push_66 : decode cX11_push 66 = .ok (.iload_n 1, 1) := by decide +kernel
theorem dX11_push_67 : decode cX11_push 67 = .ok (.ifCond .ne 12, 3) := by decide +kernel
theorem dX11_push_70 : decode cX11_push 70 = .ok (.iload_n 2, 1) := by decide +kernel
theorem dX11_push_71 : decode cX11_push 71 = .ok (.iconst (-1), 1) := by decide +kernel
theorem dX11_push_72 : decode cX11_push 72 = .ok (.if_icmp .eq 7, 3) := by decide +kernel
theorem dX11_push_75 : decode cX11_push 75 = .ok (.iconst 1, 1) := by decide +kernel
theorem dX11_push_76 : decode cX11_push 76 = .ok (.goto 4, 3) := by decide +kernel
theorem dX11_push_79 : decode cX11_push 79 = .ok (.iconst 0, 1) := by decide +kernel
theorem dX11_push_80 : decode cX11_push 80 = .ok (.iadd, 1) := by decide +kernel
theorem dX11_push_81 : decode cX11_push 81 = .ok (.putfield 107, 3) := by decide +kernel
theorem dX11_push_84 : decode cX11_push 84 = .ok (.iconst 1, 1) := by decide +kernel
theorem dX11_push_85 : decode cX11_push 85 = .ok (.ireturn, 1) := by decide +kernel
theorem dX11_flushOf_0 : decode cX11_flushOf 0 = .ok (.iconst 0, 1) := by decide +kernel
theorem dX11_flushOf_1 : decode cX11_flushOf 1 = .ok (.istore_n 2, 1) := by decide +kernel
theorem dX11_flushOf_2 : decode cX11_flushOf 2 = .ok (.bipush 60, 2) := by decide +kernel
theorem dX11_flushOf_4 : decode cX11_flushOf 4 = .ok (.iload_n 1, 1) := by decide +kernel
theorem dX11_flushOf_5 : decode cX11_flushOf 5 = .ok (.imul, 1) := by decide +kernel
theorem dX11_flushOf_6 : decode cX11_flushOf 6 = .ok (.istore_n 3, 1) := by decide +kernel
theorem dX11_flushOf_7 : decode cX11_flushOf 7 = .ok (.iload_n 3, 1) := by decide +kernel
theorem dX11_flushOf_8 : decode cX11_flushOf 8 = .ok (.bipush 60, 2) := by decide +kernel
theorem dX11_flushOf_10 : decode cX11_flushOf 10 = .ok (.iload_n 1, 1) := by decide +kernel
theorem dX11_flushOf_11 : decode cX11_flushOf 11 = .ok (.imul, 1) := by decide +kernel
theorem dX11_flushOf_12 : decode cX11_flushOf 12 = .ok (.aload_n 0, 1) := by decide +kernel
theorem dX11_flushOf_13 : decode cX11_flushOf 13 = .ok (.getfield 22, 3) := by decide +kernel
theorem dX11_flushOf_16 : decode cX11_flushOf 16 = .ok (.iload_n 1, 1) := by decide +kernel
theorem dX11_flushOf_17 : decode cX11_flushOf 17 = .ok (.iaload, 1) := by decide +kernel
theorem dX11_flushOf_18 : decode cX11_flushOf 18 = .ok (.iadd, 1) := by decide +kernel
theorem dX11_flushOf_19 : decode cX11_flushOf 19 = .ok (.if_icmp .ge 72, 3) := by decide +kernel
theorem dX11_flushOf_22 : decode cX11_flushOf 22 = .ok (.aload_n 0, 1) := by decide +kernel
theorem dX11_flushOf_23 : decode cX11_flushOf 23 = .ok (.getfield 13, 3) := by decide +kernel
theorem dX11_flushOf_26 : decode cX11_flushOf 26 = .ok (.iload_n 3, 1) := by decide +kernel
theorem dX11_flushOf_27 : decode cX11_flushOf 27 = .ok (.iaload, 1) := by decide +kernel
theorem dX11_flushOf_28 : decode cX11_flushOf 28 = .ok (.iconst (-1), 1) := by decide +kernel
theorem dX11_flushOf_29 : decode cX11_flushOf 29 = .ok (.if_icmp .eq 56, 3) := by decide +kernel
theorem dX11_flushOf_32 : decode cX11_flushOf 32 = .ok (.aload_n 0, 1) := by decide +kernel
theorem dX11_flushOf_33 : decode cX11_flushOf 33 = .ok (.getfield 7, 3) := by decide +kernel
theorem dX11_flushOf_36 : decode cX11_flushOf 36 = .ok (.bipush 32, 2) := by decide +kernel
theorem dX11_flushOf_38 : decode cX11_flushOf 38 = .ok (.iload_n 1, 1) := by decide +kernel
theorem dX11_flushOf_39 : decode cX11_flushOf 39 = .ok (.imul, 1) := by decide +kernel
theorem dX11_flushOf_40 : decode cX11_flushOf 40 = .ok (.iconst 2, 1) := by decide +kernel
theorem dX11_flushOf_41 : decode cX11_flushOf 41 = .ok (.aload_n 0, 1) := by decide +kernel
theorem dX11_flushOf_42 : decode cX11_flushOf 42 = .ok (.getfield 13, 3) := by decide +kernel
theorem dX11_flushOf_45 : decode cX11_flushOf 45 = .ok (.iload_n 3, 1) := by decide +kernel
theorem dX11_flushOf_46 : decode cX11_flushOf 46 = .ok (.iaload, 1) := by decide +kernel
theorem dX11_flushOf_47 : decode cX11_flushOf 47 = .ok (.imul, 1) := by decide +kernel
theorem dX11_flushOf_48 : decode cX11_flushOf 48 = .ok (.iadd, 1) := by decide +kernel
theorem dX11_flushOf_49 : decode cX11_flushOf 49 = .ok (.aload_n 0, 1) := by decide +kernel
theorem dX11_flushOf_50 : decode cX11_flushOf 50 = .ok (.getfield 16, 3) := by decide +kernel
theorem dX11_flushOf_53 : decode cX11_flushOf 53 = .ok (.iload_n 3, 1) := by decide +kernel
theorem dX11_flushOf_54 : decode cX11_flushOf 54 = .ok (.iaload, 1) := by decide +kernel
theorem dX11_flushOf_55 : decode cX11_flushOf 55 = .ok (.iastore, 1) := by decide +kernel
theorem dX11_flushOf_56 : decode cX11_flushOf 56 = .ok (.aload_n 0, 1) := by decide +kernel
theorem dX11_flushOf_57 : decode cX11_flushOf 57 = .ok (.getfield 7, 3) := by decide +kernel
theorem dX11_flushOf_60 : decode cX11_flushOf 60 = .ok (.bipush 32, 2) := by decide +kernel
theorem dX11_flushOf_62 : decode cX11_flushOf 62 = .ok (.iload_n 1, 1) := by decide +kernel
theorem dX11_flushOf_63 : decode cX11_flushOf 63 = .ok (.imul, 1) := by decide +kernel
theorem dX11_flushOf_64 : decode cX11_flushOf 64 = .ok (.iconst 2, 1) := by decide +kernel
theorem dX11_flushOf_65 : decode cX11_flushOf 65 = .ok (.aload_n 0, 1) := by decide +kernel
theorem dX11_flushOf_66 : decode cX11_flushOf 66 = .ok (.getfield 13, 3) := by decide +kernel
theorem dX11_flushOf_69 : decode cX11_flushOf 69 = .ok (.iload_n 3, 1) := by decide +kernel
theorem dX11_flushOf_70 : decode cX11_flushOf 70 = .ok (.iaload, 1) := by decide +kernel
theorem dX11_flushOf_71 : decode cX11_flushOf 71 = .ok (.imul, 1) := by decide +kernel
theorem dX11_flushOf_72 : decode cX11_flushOf 72 = .ok (.iadd, 1) := by decide +kernel
theorem dX11_flushOf_73 : decode cX11_flushOf 73 = .ok (.iconst 1, 1) := by decide +kernel
theorem dX11_flushOf_74 : decode cX11_flushOf 74 = .ok (.iadd, 1) := by decide +kernel
theorem dX11_flushOf_75 : decode cX11_flushOf 75 = .ok (.aload_n 0, 1) := by decide +kernel
theorem dX11_flushOf_76 : decode cX11_flushOf 76 = .ok (.getfield 19, 3) := by decide +kernel
theorem dX11_flushOf_79 : decode cX11_flushOf 79 = .ok (.iload_n 3, 1) := by decide +kernel
theorem dX11_flushOf_80 : decode cX11_flushOf 80 = .ok (.iaload, 1) := by decide +kernel
theorem dX11_flushOf_81 : decode cX11_flushOf 81 = .ok (.iastore, 1) := by decide +kernel
theorem dX11_flushOf_82 : decode cX11_flushOf 82 = .ok (.iinc 2 1, 3) := by decide +kernel
theorem dX11_flushOf_85 : decode cX11_flushOf 85 = .ok (.iinc 3 1, 3) := by decide +kernel
theorem dX11_flushOf_88 : decode cX11_flushOf 88 = .ok (.goto (-81), 3) := by decide +kernel
theorem dX11_flushOf_91 : decode cX11_flushOf 91 = .ok (.aload_n 0, 1) := by decide +kernel
theorem dX11_flushOf_92 : decode cX11_flushOf 92 = .ok (.getfield 22, 3) := by decide +kernel
theorem dX11_flushOf_95 : decode cX11_flushOf 95 = .ok (.iload_n 1, 1) := by decide +kernel
theorem dX11_flushOf_96 : decode cX11_flushOf 96 = .ok (.iconst 0, 1) := by decide +kernel
theorem dX11_flushOf_97 : decode cX11_flushOf 97 = .ok (.iastore, 1) := by decide +kernel
theorem dX11_flushOf_98 : decode cX11_flushOf 98 = .ok (.iload_n 2, 1) := by decide +kernel
theorem dX11_flushOf_99 : decode cX11_flushOf 99 = .ok (.ireturn, 1) := by decide +kernel
theorem dX11_write_0 : decode cX11_write 0 = .ok (.aload_n 0, 1) := by decide +kernel
theorem dX11_write_1 : decode cX11_write 1 = .ok (.iconst 0, 1) := by decide +kernel
theorem dX11_write_2 : decode cX11_write 2 = .ok (.putfield 104, 3) := by decide +kernel
theorem dX11_write_5 : decode cX11_write 5 = .ok (.iload_n 1, 1) := by decide +kernel
theorem dX11_write_6 : decode cX11_write 6 = .ok (.iconst 0, 1) := by decide +kernel
theorem dX11_write_7 : decode cX11_write 7 = .ok (.bipush 15, 2) := by decide +kernel
theorem dX11_write_9 : decode cX11_write 9 = .ok (.invokestatic 110, 3) := by decide +kernel
theorem dX11_write_12 : decode cX11_write 12 = .ok (.ifCond .ne 9, 3) := by decide +kernel
theorem dX11_write_15 : decode cX11_write 15 = .ok (.aload_n 0, 1) := by decide +kernel
theorem dX11_write_16 : decode cX11_write 16 = .ok (.iconst (-1), 1) := by decide +kernel
theorem dX11_write_17 : decode cX11_write 17 = .ok (.invokevirtual 114, 3) := by decide +kernel
theorem dX11_write_20 : decode cX11_write 20 = .ok (.ireturn, 1) := by decide +kernel
theorem dX11_write_21 : decode cX11_write 21 = .ok (.aload_n 0, 1) := by decide +kernel
theorem dX11_write_22 : decode cX11_write 22 = .ok (.iconst 0, 1) := by decide +kernel
theorem dX11_write_23 : decode cX11_write 23 = .ok (.iload_n 1, 1) := by decide +kernel
theorem dX11_write_24 : decode cX11_write 24 = .ok (.iload_n 2, 1) := by decide +kernel
theorem dX11_write_25 : decode cX11_write 25 = .ok (.iload_n 3, 1) := by decide +kernel
theorem dX11_write_26 : decode cX11_write 26 = .ok (.invokevirtual 118, 3) := by decide +kernel
theorem dX11_write_29 : decode cX11_write 29 = .ok (.ifCond .eq 12, 3) := by decide +kernel
theorem dX11_write_32 : decode cX11_write 32 = .ok (.aload_n 0, 1) := by decide +kernel
theorem dX11_write_33 : decode cX11_write 33 = .ok (.getfield 22, 3) := by decide +kernel
theorem dX11_write_36 : decode cX11_write 36 = .ok (.iconst 0, 1) := by decide +kernel
theorem dX11_write_37 : decode cX11_write 37 = .ok (.iaload, 1) := by decide +kernel
theorem dX11_write_38 : decode cX11_write 38 = .ok (.goto 9, 3) := by decide +kernel
theorem dX11_write_41 : decode cX11_write 41 = .ok (.aload_n 0, 1) := by decide +kernel
theorem dX11_write_42 : decode cX11_write 42 = .ok (.bipush (-6), 2) := by decide +kernel
theorem dX11_write_44 : decode cX11_write 44 = .ok (.invokevirtual 114, 3) := by decide +kernel
theorem dX11_write_47 : decode cX11_write 47 = .ok (.ireturn, 1) := by decide +kernel
theorem dX11_fence_0 : decode cX11_fence 0 = .ok (.aload_n 0, 1) := by decide +kernel
theorem dX11_fence_1 : decode cX11_fence 1 = .ok (.iconst 0, 1) := by decide +kernel
theorem dX11_fence_2 : decode cX11_fence 2 = .ok (.putfield 104, 3) := by decide +kernel
theorem dX11_fence_5 : decode cX11_fence 5 = .ok (.aload_n 0, 1) := by decide +kernel
theorem dX11_fence_6 : decode cX11_fence 6 = .ok (.iconst 0, 1) := by decide +kernel
theorem dX11_fence_7 : decode cX11_fence 7 = .ok (.iconst (-1), 1) := by decide +kernel
theorem dX11_fence_8 : decode cX11_fence 8 = .ok (.iconst 0, 1) := by decide +kernel
theorem dX11_fence_9 : decode cX11_fence 9 = .ok (.iconst 0, 1) := by decide +kernel
theorem dX11_fence_10 : decode cX11_fence 10 = .ok (.invokevirtual 118, 3) := by decide +kernel
theorem dX11_fence_13 : decode cX11_fence 13 = .ok (.ifCond .eq 12, 3) := by decide +kernel
theorem dX11_fence_16 : decode cX11_fence 16 = .ok (.aload_n 0, 1) := by decide +kernel
theorem dX11_fence_17 : decode cX11_fence 17 = .ok (.getfield 22, 3) := by decide +kernel
theorem dX11_fence_20 : decode cX11_fence 20 = .ok (.iconst 0, 1) := by decide +kernel
theorem dX11_fence_21 : decode cX11_fence 21 = .ok (.iaload, 1) := by decide +kernel
theorem dX11_fence_22 : decode cX11_fence 22 = .ok (.goto 9, 3) := by decide +kernel
theorem dX11_fence_25 : decode cX11_fence 25 = .ok (.aload_n 0, 1) := by decide +kernel
theorem dX11_fence_26 : decode cX11_fence 26 = .ok (.bipush (-6), 2) := by decide +kernel
theorem dX11_fence_28 : decode cX11_fence 28 = .ok (.invokevirtual 114, 3) := by decide +kernel
theorem dX11_fence_31 : decode cX11_fence 31 = .ok (.ireturn, 1) := by decide +kernel
theorem dX11_flush_0 : decode cX11_flush 0 = .ok (.aload_n 0, 1) := by decide +kernel
theorem dX11_flush_1 : decode cX11_flush 1 = .ok (.iconst 0, 1) := by decide +kernel
theorem dX11_flush_2 : decode cX11_flush 2 = .ok (.putfield 104, 3) := by decide +kernel
theorem dX11_flush_5 : decode cX11_flush 5 = .ok (.aload_n 0, 1) := by decide +kernel
theorem dX11_flush_6 : decode cX11_flush 6 = .ok (.iconst 0, 1) := by decide +kernel
theorem dX11_flush_7 : decode cX11_flush 7 = .ok (.invokevirtual 122, 3) := by decide +kernel
theorem dX11_flush_10 : decode cX11_flush 10 = .ok (.ireturn, 1) := by decide +kernel
theorem dX11_isPart_0 : decode cX11_isPart 0 = .ok (.iload_n 0, 1) := by decide +kernel
theorem dX11_isPart_1 : decode cX11_isPart 1 = .ok (.iconst 0, 1) := by decide +kernel
theorem dX11_isPart_2 : decode cX11_isPart 2 = .ok (.bipush 15, 2) := by decide +kernel
theorem dX11_isPart_4 : decode cX11_isPart 4 = .ok (.invokestatic 110, 3) := by decide +kernel
theorem dX11_isPart_7 : decode cX11_isPart 7 = .ok (.ifCond .eq 16, 3) := by decide +kernel
theorem dX11_isPart_10 : decode cX11_isPart 10 = .ok (.iload_n 1, 1) := by decide +kernel
theorem dX11_isPart_11 : decode cX11_isPart 11 = .ok (.iconst 0, 1) := by decide +kernel
theorem dX11_isPart_12 : decode cX11_isPart 12 = .ok (.iconst 1, 1) := by decide +kernel
theorem dX11_isPart_13 : decode cX11_isPart 13 = .ok (.invokestatic 110, 3) := by decide +kernel
theorem dX11_isPart_16 : decode cX11_isPart 16 = .ok (.ifCond .eq 7, 3) := by decide +kernel
theorem dX11_isPart_19 : decode cX11_isPart 19 = .ok (.iconst 1, 1) := by decide +kernel
theorem dX11_isPart_20 : decode cX11_isPart 20 = .ok (.goto 4, 3) := by decide +kernel
theorem dX11_isPart_23 : decode cX11_isPart 23 = .ok (.iconst 0, 1) := by decide +kernel
theorem dX11_isPart_24 : decode cX11_isPart 24 = .ok (.ireturn, 1) := by decide +kernel
theorem dX11_read_0 : decode cX11_read 0 = .ok (.aload_n 0, 1) := by decide +kernel
theorem dX11_read_1 : decode cX11_read 1 = .ok (.iload_n 1, 1) := by decide +kernel
theorem dX11_read_2 : decode cX11_read 2 = .ok (.iload_n 2, 1) := by decide +kernel
theorem dX11_read_3 : decode cX11_read 3 = .ok (.invokestatic 125, 3) := by decide +kernel
theorem dX11_read_6 : decode cX11_read 6 = .ok (.ifCond .eq 7, 3) := by decide +kernel
theorem dX11_read_9 : decode cX11_read 9 = .ok (.iconst 0, 1) := by decide +kernel
theorem dX11_read_10 : decode cX11_read 10 = .ok (.goto 4, 3) := by decide +kernel
theorem dX11_read_13 : decode cX11_read 13 = .ok (.iconst 1, 1) := by decide +kernel
theorem dX11_read_14 : decode cX11_read 14 = .ok (.putfield 104, 3) := by decide +kernel
theorem dX11_read_17 : decode cX11_read 17 = .ok (.aload_n 0, 1) := by decide +kernel
theorem dX11_read_18 : decode cX11_read 18 = .ok (.getfield 104, 3) := by decide +kernel
theorem dX11_read_21 : decode cX11_read 21 = .ok (.ifCond .le 7, 3) := by decide +kernel
theorem dX11_read_24 : decode cX11_read 24 = .ok (.iconst 0, 1) := by decide +kernel
theorem dX11_read_25 : decode cX11_read 25 = .ok (.goto 10, 3) := by decide +kernel
theorem dX11_read_28 : decode cX11_read 28 = .ok (.aload_n 0, 1) := by decide +kernel
theorem dX11_read_29 : decode cX11_read 29 = .ok (.iconst 0, 1) := by decide +kernel
theorem dX11_read_30 : decode cX11_read 30 = .ok (.iload_n 1, 1) := by decide +kernel
theorem dX11_read_31 : decode cX11_read 31 = .ok (.iload_n 2, 1) := by decide +kernel
theorem dX11_read_32 : decode cX11_read 32 = .ok (.invokevirtual 129, 3) := by decide +kernel
theorem dX11_read_35 : decode cX11_read 35 = .ok (.ireturn, 1) := by decide +kernel
theorem dX11_plate_0 : decode cX11_plate 0 = .ok (.aload_n 0, 1) := by decide +kernel
theorem dX11_plate_1 : decode cX11_plate 1 = .ok (.iload_n 1, 1) := by decide +kernel
theorem dX11_plate_2 : decode cX11_plate 2 = .ok (.iload_n 2, 1) := by decide +kernel
theorem dX11_plate_3 : decode cX11_plate 3 = .ok (.invokestatic 125, 3) := by decide +kernel
theorem dX11_plate_6 : decode cX11_plate 6 = .ok (.ifCond .eq 7, 3) := by decide +kernel
theorem dX11_plate_9 : decode cX11_plate 9 = .ok (.iconst 0, 1) := by decide +kernel
theorem dX11_plate_10 : decode cX11_plate 10 = .ok (.goto 4, 3) := by decide +kernel
theorem dX11_plate_13 : decode cX11_plate 13 = .ok (.iconst 1, 1) := by decide +kernel
theorem dX11_plate_14 : decode cX11_plate 14 = .ok (.putfield 104, 3) := by decide +kernel
theorem dX11_plate_17 : decode cX11_plate 17 = .ok (.aload_n 0, 1) := by decide +kernel
theorem dX11_plate_18 : decode cX11_plate 18 = .ok (.getfield 104, 3) := by decide +kernel
theorem dX11_plate_21 : decode cX11_plate 21 = .ok (.ifCond .le 7, 3) := by decide +kernel
theorem dX11_plate_24 : decode cX11_plate 24 = .ok (.iconst 0, 1) := by decide +kernel
theorem dX11_plate_25 : decode cX11_plate 25 = .ok (.goto 13, 3) := by decide +kernel
theorem dX11_plate_28 : decode cX11_plate 28 = .ok (.aload_n 0, 1) := by decide +kernel
theorem dX11_plate_29 : decode cX11_plate 29 = .ok (.getfield 7, 3) := by decide +kernel
theorem dX11_plate_32 : decode cX11_plate 32 = .ok (.iconst 2, 1) := by decide +kernel
theorem dX11_plate_33 : decode cX11_plate 33 = .ok (.iload_n 1, 1) := by decide +kernel
theorem dX11_plate_34 : decode cX11_plate 34 = .ok (.imul, 1) := by decide +kernel
theorem dX11_plate_35 : decode cX11_plate 35 = .ok (.iload_n 2, 1) := by decide +kernel
theorem dX11_plate_36 : decode cX11_plate 36 = .ok (.iadd, 1) := by decide +kernel
theorem dX11_plate_37 : decode cX11_plate 37 = .ok (.iaload, 1) := by decide +kernel
theorem dX11_plate_38 : decode cX11_plate 38 = .ok (.ireturn, 1) := by decide +kernel
theorem dX11_epochOf_0 : decode cX11_epochOf 0 = .ok (.iconst 0, 1) := by decide +kernel
theorem dX11_epochOf_1 : decode cX11_epochOf 1 = .ok (.istore_n 3, 1) := by decide +kernel
theorem dX11_epochOf_2 : decode cX11_epochOf 2 = .ok (.iconst 0, 1) := by decide +kernel
theorem dX11_epochOf_3 : decode cX11_epochOf 3 = .ok (.istore 4, 2) := by decide +kernel
theorem dX11_epochOf_5 : decode cX11_epochOf 5 = .ok (.iconst 0, 1) := by decide +kernel
theorem dX11_epochOf_6 : decode cX11_epochOf 6 = .ok (.istore 5, 2) := by decide +kernel
theorem dX11_epochOf_8 : decode cX11_epochOf 8 = .ok (.iload 5, 2) := by decide +kernel
theorem dX11_epochOf_10 : decode cX11_epochOf 10 = .ok (.iload_n 2, 1) := by decide +kernel
theorem dX11_epochOf_11 : decode cX11_epochOf 11 = .ok (.if_icmp .ge 62, 3) := by decide +kernel
theorem dX11_epochOf_14 : decode cX11_epochOf 14 = .ok (.aload_n 0, 1) := by decide +kernel
theorem dX11_epochOf_15 : decode cX11_epochOf 15 = .ok (.getfield 13, 3) := by decide +kernel
theorem dX11_epochOf_18 : decode cX11_epochOf 18 = .ok (.bipush 60, 2) := by decide +kernel
theorem dX11_epochOf_20 : decode cX11_epochOf 20 = .ok (.iload_n 1, 1) := by decide +kernel
theorem dX11_epochOf_21 : decode cX11_epochOf 21 = .ok (.imul, 1) := by decide +kernel
theorem dX11_epochOf_22 : decode cX11_epochOf 22 = .ok (.iload 5, 2) := by decide +kernel
theorem dX11_epochOf_24 : decode cX11_epochOf 24 = .ok (.iadd, 1) := by decide +kernel
theorem dX11_epochOf_25 : decode cX11_epochOf 25 = .ok (.iaload, 1) := by decide +kernel
theorem dX11_epochOf_26 : decode cX11_epochOf 26 = .ok (.iconst (-1), 1) := by decide +kernel
theorem dX11_epochOf_27 : decode cX11_epochOf 27 = .ok (.if_icmp .ne 7, 3) := by decide +kernel
theorem dX11_epochOf_30 : decode cX11_epochOf 30 = .ok (.iconst 1, 1) := by decide +kernel
theorem dX11_epochOf_31 : decode cX11_epochOf 31 = .ok (.goto 4, 3) := by decide +kernel
theorem dX11_epochOf_34 : decode cX11_epochOf 34 = .ok (.iconst 0, 1) := by decide +kernel
theorem dX11_epochOf_35 : decode cX11_epochOf 35 = .ok (.istore 6, 2) := by decide +kernel
theorem dX11_epochOf_37 : decode cX11_epochOf 37 = .ok (.iload_n 3, 1) := by decide +kernel
theorem dX11_epochOf_38 : decode cX11_epochOf 38 = .ok (.iload 6, 2) := by decide +kernel
theorem dX11_epochOf_40 : decode cX11_epochOf 40 = .ok (.ifCond .eq 12, 3) := by decide +kernel
theorem dX11_epochOf_43 : decode cX11_epochOf 43 = .ok (.iload 4, 2) := by decide +kernel
theorem dX11_epochOf_45 : decode cX11_epochOf 45 = .ok (.ifCond .eq 7, 3) := by decide +kernel
theorem dX11_epochOf_48 : decode cX11_epochOf 48 = .ok (.iconst 1, 1) := by decide +kernel
theorem dX11_epochOf_49 : decode cX11_epochOf 49 = .ok (.goto 4, 3) := by decide +kernel
theorem dX11_epochOf_52 : decode cX11_epochOf 52 = .ok (.iconst 0, 1) := by decide +kernel
theorem dX11_epochOf_53 : decode cX11_epochOf 53 = .ok (.iadd, 1) := by decide +kernel
theorem dX11_epochOf_54 : decode cX11_epochOf 54 = .ok (.istore_n 3, 1) := by decide +kernel
theorem dX11_epochOf_55 : decode cX11_epochOf 55 = .ok (.iload 6, 2) := by decide +kernel
theorem dX11_epochOf_57 : decode cX11_epochOf 57 = .ok (.ifCond .ne 7, 3) := by decide +kernel
theorem dX11_epochOf_60 : decode cX11_epochOf 60 = .ok (.iconst 1, 1) := by decide +kernel
theorem dX11_epochOf_61 : decode cX11_epochOf 61 = .ok (.goto 4, 3) := by decide +kernel
theorem dX11_epochOf_64 : decode cX11_epochOf 64 = .ok (.iconst 0, 1) := by decide +kernel
theorem dX11_epochOf_65 : decode cX11_epochOf 65 = .ok (.istore 4, 2) := by decide +kernel
theorem dX11_epochOf_67 : decode cX11_epochOf 67 = .ok (.iinc 5 1, 3) := by decide +kernel
theorem dX11_epochOf_70 : decode cX11_epochOf 70 = .ok (.goto (-62), 3) := by decide +kernel
theorem dX11_epochOf_73 : decode cX11_epochOf 73 = .ok (.iload_n 2, 1) := by decide +kernel
theorem dX11_epochOf_74 : decode cX11_epochOf 74 = .ok (.aload_n 0, 1) := by decide +kernel
theorem dX11_epochOf_75 : decode cX11_epochOf 75 = .ok (.getfield 22, 3) := by decide +kernel
theorem dX11_epochOf_78 : decode cX11_epochOf 78 = .ok (.iload_n 1, 1) := by decide +kernel
theorem dX11_epochOf_79 : decode cX11_epochOf 79 = .ok (.iaload, 1) := by decide +kernel
theorem dX11_epochOf_80 : decode cX11_epochOf 80 = .ok (.if_icmp .ne 14, 3) := by decide +kernel
theorem dX11_epochOf_83 : decode cX11_epochOf 83 = .ok (.iload 4, 2) := by decide +kernel
theorem dX11_epochOf_85 : decode cX11_epochOf 85 = .ok (.ifCond .eq 9, 3) := by decide +kernel
theorem dX11_epochOf_88 : decode cX11_epochOf 88 = .ok (.iload_n 3, 1) := by decide +kernel
theorem dX11_epochOf_89 : decode cX11_epochOf 89 = .ok (.iconst 1, 1) := by decide +kernel
theorem dX11_epochOf_90 : decode cX11_epochOf 90 = .ok (.iadd, 1) := by decide +kernel
theorem dX11_epochOf_91 : decode cX11_epochOf 91 = .ok (.goto 4, 3) := by decide +kernel
theorem dX11_epochOf_94 : decode cX11_epochOf 94 = .ok (.iload_n 3, 1) := by decide +kernel
theorem dX11_epochOf_95 : decode cX11_epochOf 95 = .ok (.ireturn, 1) := by decide +kernel
theorem dX11_entry_0 : decode cX11_entry 0 = .ok (.aload_n 0, 1) := by decide +kernel
theorem dX11_entry_1 : decode cX11_entry 1 = .ok (.iconst 0, 1) := by decide +kernel
theorem dX11_entry_2 : decode cX11_entry 2 = .ok (.putfield 104, 3) := by decide +kernel
theorem dX11_entry_5 : decode cX11_entry 5 = .ok (.iload_n 1, 1) := by decide +kernel
theorem dX11_entry_6 : decode cX11_entry 6 = .ok (.iconst 0, 1) := by decide +kernel
theorem dX11_entry_7 : decode cX11_entry 7 = .ok (.aload_n 0, 1) := by decide +kernel
theorem dX11_entry_8 : decode cX11_entry 8 = .ok (.getfield 22, 3) := by decide +kernel
theorem dX11_entry_11 : decode cX11_entry 11 = .ok (.iconst 0, 1) := by decide +kernel
theorem dX11_entry_12 : decode cX11_entry 12 = .ok (.iaload, 1) := by decide +kernel
theorem dX11_entry_13 : decode cX11_entry 13 = .ok (.iconst 1, 1) := by decide +kernel
theorem dX11_entry_14 : decode cX11_entry 14 = .ok (.isub, 1) := by decide +kernel
theorem dX11_entry_15 : decode cX11_entry 15 = .ok (.invokestatic 110, 3) := by decide +kernel
theorem dX11_entry_18 : decode cX11_entry 18 = .ok (.ifCond .ne 9, 3) := by decide +kernel
theorem dX11_entry_21 : decode cX11_entry 21 = .ok (.aload_n 0, 1) := by decide +kernel
theorem dX11_entry_22 : decode cX11_entry 22 = .ok (.iconst (-1), 1) := by decide +kernel
theorem dX11_entry_23 : decode cX11_entry 23 = .ok (.invokevirtual 114, 3) := by decide +kernel
theorem dX11_entry_26 : decode cX11_entry 26 = .ok (.ireturn, 1) := by decide +kernel
theorem dX11_entry_27 : decode cX11_entry 27 = .ok (.aload_n 0, 1) := by decide +kernel
theorem dX11_entry_28 : decode cX11_entry 28 = .ok (.getfield 13, 3) := by decide +kernel
theorem dX11_entry_31 : decode cX11_entry 31 = .ok (.iload_n 1, 1) := by decide +kernel
theorem dX11_entry_32 : decode cX11_entry 32 = .ok (.iaload, 1) := by decide +kernel
theorem dX11_entry_33 : decode cX11_entry 33 = .ok (.iconst (-1), 1) := by decide +kernel
theorem dX11_entry_34 : decode cX11_entry 34 = .ok (.if_icmp .ne 7, 3) := by decide +kernel
theorem dX11_entry_37 : decode cX11_entry 37 = .ok (.iconst 1, 1) := by decide +kernel
theorem dX11_entry_38 : decode cX11_entry 38 = .ok (.goto 4, 3) := by decide +kernel
theorem dX11_entry_41 : decode cX11_entry 41 = .ok (.iconst 0, 1) := by decide +kernel
theorem dX11_entry_42 : decode cX11_entry 42 = .ok (.istore_n 3, 1) := by decide +kernel
theorem dX11_entry_43 : decode cX11_entry 43 = .ok (.iload_n 2, 1) := by decide +kernel
theorem dX11_entry_44 : decode cX11_entry 44 = .ok (.ifCond .ne 12, 3) := by decide +kernel
theorem dX11_entry_47 : decode cX11_entry 47 = .ok (.aload_n 0, 1) := by decide +kernel
theorem dX11_entry_48 : decode cX11_entry 48 = .ok (.getfield 13, 3) := by decide +kernel
theorem dX11_entry_51 : decode cX11_entry 51 = .ok (.iload_n 1, 1) := by decide +kernel
theorem dX11_entry_52 : decode cX11_entry 52 = .ok (.iaload, 1) := by decide +kernel
theorem dX11_entry_53 : decode cX11_entry 53 = .ok (.goto 55, 3) := by decide +kernel
theorem dX11_entry_56 : decode cX11_entry 56 = .ok (.iload_n 2, 1) := by decide +kernel
theorem dX11_entry_57 : decode cX11_entry 57 = .ok (.iconst 1, 1) := by decide +kernel
theorem dX11_entry_58 : decode cX11_entry 58 = .ok (.if_icmp .ne 12, 3) := by decide +kernel
theorem dX11_entry_61 : decode cX11_entry 61 = .ok (.aload_n 0, 1) := by decide +kernel
theorem dX11_entry_62 : decode cX11_entry 62 = .ok (.getfield 16, 3) := by decide +kernel
theorem dX11_entry_65 : decode cX11_entry 65 = .ok (.iload_n 1, 1) := by decide +kernel
theorem dX11_entry_66 : decode cX11_entry 66 = .ok (.iaload, 1) := by decide +kernel
theorem dX11_entry_67 : decode cX11_entry 67 = .ok (.goto 41, 3) := by decide +kernel
theorem dX11_entry_70 : decode cX11_entry 70 = .ok (.iload_n 2, 1) := by decide +kernel
theorem dX11_entry_71 : decode cX11_entry 71 = .ok (.iconst 2, 1) := by decide +kernel
theorem dX11_entry_72 : decode cX11_entry 72 = .ok (.if_icmp .ne 12, 3) := by decide +kernel
theorem dX11_entry_75 : decode cX11_entry 75 = .ok (.aload_n 0, 1) := by decide +kernel
theorem dX11_entry_76 : decode cX11_entry 76 = .ok (.getfield 19, 3) := by decide +kernel
theorem dX11_entry_79 : decode cX11_entry 79 = .ok (.iload_n 1, 1) := by decide +kernel
theorem dX11_entry_80 : decode cX11_entry 80 = .ok (.iaload, 1) := by decide +kernel
theorem dX11_entry_81 : decode cX11_entry 81 = .ok (.goto 27, 3) := by decide +kernel
theorem dX11_entry_84 : decode cX11_entry 84 = .ok (.iload_n 2, 1) := by decide +kernel
theorem dX11_entry_85 : decode cX11_entry 85 = .ok (.iconst 3, 1) := by decide +kernel
theorem dX11_entry_86 : decode cX11_entry 86 = .ok (.if_icmp .ne 20, 3) := by decide +kernel
theorem dX11_entry_89 : decode cX11_entry 89 = .ok (.iload_n 3, 1) := by decide +kernel
theorem dX11_entry_90 : decode cX11_entry 90 = .ok (.ifCond .eq 7, 3) := by decide +kernel
theorem dX11_entry_93 : decode cX11_entry 93 = .ok (.iconst (-1), 1) := by decide +kernel
theorem dX11_entry_94 : decode cX11_entry 94 = .ok (.goto 14, 3) := by decide +kernel
theorem dX11_entry_97 : decode cX11_entry 97 = .ok (.aload_n 0, 1) := by decide +kernel
theorem dX11_entry_98 : decode cX11_entry 98 = .ok (.iconst 0, 1) := by decide +kernel
theorem dX11_entry_99 : decode cX11_entry 99 = .ok (.iload_n 1, 1) := by decide +kernel
theorem dX11_entry_100 : decode cX11_entry 100 = .ok (.invokevirtual 133, 3) := by decide +kernel
theorem dX11_entry_103 : decode cX11_entry 103 = .ok (.goto 5, 3) := by decide +kernel
theorem dX11_entry_106 : decode cX11_entry 106 = .ok (.bipush (-9), 2) := by decide +kernel
theorem dX11_entry_108 : decode cX11_entry 108 = .ok (.ireturn, 1) := by decide +kernel
theorem dX11_writeEpoch_0 : decode cX11_writeEpoch 0 = .ok (.iconst 0, 1) := by decide +kernel
theorem dX11_writeEpoch_1 : decode cX11_writeEpoch 1 = .ok (.istore_n 3, 1) := by decide +kernel
theorem dX11_writeEpoch_2 : decode cX11_writeEpoch 2 = .ok (.iconst 0, 1) := by decide +kernel
theorem dX11_writeEpoch_3 : decode cX11_writeEpoch 3 = .ok (.istore 4, 2) := by decide +kernel
theorem dX11_writeEpoch_5 : decode cX11_writeEpoch 5 = .ok (.iconst 0, 1) := by decide +kernel
theorem dX11_writeEpoch_6 : decode cX11_writeEpoch 6 = .ok (.istore 5, 2) := by decide +kernel
theorem dX11_writeEpoch_8 : decode cX11_writeEpoch 8 = .ok (.iload 5, 2) := by decide +kernel
theorem dX11_writeEpoch_10 : decode cX11_writeEpoch 10 = .ok (.iload_n 2, 1) := by decide +kernel
theorem dX11_writeEpoch_11 : decode cX11_writeEpoch 11 = .ok (.if_icmp .ge 62, 3) := by decide +kernel
theorem dX11_writeEpoch_14 : decode cX11_writeEpoch 14 = .ok (.aload_n 0, 1) := by decide +kernel
theorem dX11_writeEpoch_15 : decode cX11_writeEpoch 15 = .ok (.getfield 13, 3) := by decide +kernel
theorem dX11_writeEpoch_18 : decode cX11_writeEpoch 18 = .ok (.bipush 60, 2) := by decide +kernel
theorem dX11_writeEpoch_20 : decode cX11_writeEpoch 20 = .ok (.iload_n 1, 1) := by decide +kernel
theorem dX11_writeEpoch_21 : decode cX11_writeEpoch 21 = .ok (.imul, 1) := by decide +kernel
theorem dX11_writeEpoch_22 : decode cX11_writeEpoch 22 = .ok (.iload 5, 2) := by decide +kernel
theorem dX11_writeEpoch_24 : decode cX11_writeEpoch 24 = .ok (.iadd, 1) := by decide +kernel
theorem dX11_writeEpoch_25 : decode cX11_writeEpoch 25 = .ok (.iaload, 1) := by decide +kernel
theorem dX11_writeEpoch_26 : decode cX11_writeEpoch 26 = .ok (.iconst (-1), 1) := by decide +kernel
theorem dX11_writeEpoch_27 : decode cX11_writeEpoch 27 = .ok (.if_icmp .ne 7, 3) := by decide +kernel
theorem dX11_writeEpoch_30 : decode cX11_writeEpoch 30 = .ok (.iconst 1, 1) := by decide +kernel
theorem dX11_writeEpoch_31 : decode cX11_writeEpoch 31 = .ok (.goto 4, 3) := by decide +kernel
theorem dX11_writeEpoch_34 : decode cX11_writeEpoch 34 = .ok (.iconst 0, 1) := by decide +kernel
theorem dX11_writeEpoch_35 : decode cX11_writeEpoch 35 = .ok (.istore 6, 2) := by decide +kernel
theorem dX11_writeEpoch_37 : decode cX11_writeEpoch 37 = .ok (.iload_n 3, 1) := by decide +kernel
theorem dX11_writeEpoch_38 : decode cX11_writeEpoch 38 = .ok (.iload 6, 2) := by decide +kernel
theorem dX11_writeEpoch_40 : decode cX11_writeEpoch 40 = .ok (.ifCond .eq 12, 3) := by decide +kernel
theorem dX11_writeEpoch_43 : decode cX11_writeEpoch 43 = .ok (.iload 4, 2) := by decide +kernel
theorem dX11_writeEpoch_45 : decode cX11_writeEpoch 45 = .ok (.ifCond .eq 7, 3) := by decide +kernel
theorem dX11_writeEpoch_48 : decode cX11_writeEpoch 48 = .ok (.iconst 1, 1) := by decide +kernel
theorem dX11_writeEpoch_49 : decode cX11_writeEpoch 49 = .ok (.goto 4, 3) := by decide +kernel
theorem dX11_writeEpoch_52 : decode cX11_writeEpoch 52 = .ok (.iconst 0, 1) := by decide +kernel
theorem dX11_writeEpoch_53 : decode cX11_writeEpoch 53 = .ok (.iadd, 1) := by decide +kernel
theorem dX11_writeEpoch_54 : decode cX11_writeEpoch 54 = .ok (.istore_n 3, 1) := by decide +kernel
theorem dX11_writeEpoch_55 : decode cX11_writeEpoch 55 = .ok (.iload 6, 2) := by decide +kernel
theorem dX11_writeEpoch_57 : decode cX11_writeEpoch 57 = .ok (.ifCond .eq 7, 3) := by decide +kernel
theorem dX11_writeEpoch_60 : decode cX11_writeEpoch 60 = .ok (.iconst 0, 1) := by decide +kernel
theorem dX11_writeEpoch_61 : decode cX11_writeEpoch 61 = .ok (.goto 4, 3) := by decide +kernel
theorem dX11_writeEpoch_64 : decode cX11_writeEpoch 64 = .ok (.iconst 1, 1) := by decide +kernel
theorem dX11_writeEpoch_65 : decode cX11_writeEpoch 65 = .ok (.istore 4, 2) := by decide +kernel
theorem dX11_writeEpoch_67 : decode cX11_writeEpoch 67 = .ok (.iinc 5 1, 3) := by decide +kernel
theorem dX11_writeEpoch_70 : decode cX11_writeEpoch 70 = .ok (.goto (-62), 3) := by decide +kernel
theorem dX11_writeEpoch_73 : decode cX11_writeEpoch 73 = .ok (.iload_n 3, 1) := by decide +kernel
theorem dX11_writeEpoch_74 : decode cX11_writeEpoch 74 = .ok (.ireturn, 1) := by decide +kernel
theorem dX11_mayBe_0 : decode cX11_mayBe 0 = .ok (.bipush 61, 2) := by decide +kernel
theorem dX11_mayBe_2 : decode cX11_mayBe 2 = .ok (.iload_n 1, 1) := by decide +kernel
theorem dX11_mayBe_3 : decode cX11_mayBe 3 = .ok (.imul, 1) := by decide +kernel
theorem dX11_mayBe_4 : decode cX11_mayBe 4 = .ok (.istore_n 3, 1) := by decide +kernel
theorem dX11_mayBe_5 : decode cX11_mayBe 5 = .ok (.aload_n 0, 1) := by decide +kernel
theorem dX11_mayBe_6 : decode cX11_mayBe 6 = .ok (.getfield 49, 3) := by decide +kernel
theorem dX11_mayBe_9 : decode cX11_mayBe 9 = .ok (.iload_n 1, 1) := by decide +kernel
theorem dX11_mayBe_10 : decode cX11_mayBe 10 = .ok (.iaload, 1) := by decide +kernel
theorem dX11_mayBe_11 : decode cX11_mayBe 11 = .ok (.istore 4, 2) := by decide +kernel
theorem dX11_mayBe_13 : decode cX11_mayBe 13 = .ok (.iconst 0, 1) := by decide +kernel
theorem dX11_mayBe_14 : decode cX11_mayBe 14 = .ok (.istore 5, 2) := by decide +kernel
theorem dX11_mayBe_16 : decode cX11_mayBe 16 = .ok (.iload 5, 2) := by decide +kernel
theorem dX11_mayBe_18 : decode cX11_mayBe 18 = .ok (.iload 4, 2) := by decide +kernel
theorem dX11_mayBe_20 : decode cX11_mayBe 20 = .ok (.if_icmp .ge 22, 3) := by decide +kernel
theorem dX11_mayBe_23 : decode cX11_mayBe 23 = .ok (.aload_n 0, 1) := by decide +kernel
theorem dX11_mayBe_24 : decode cX11_mayBe 24 = .ok (.getfield 46, 3) := by decide +kernel
theorem dX11_mayBe_27 : decode cX11_mayBe 27 = .ok (.iload_n 3, 1) := by decide +kernel
theorem dX11_mayBe_28 : decode cX11_mayBe 28 = .ok (.iload 5, 2) := by decide +kernel
theorem dX11_mayBe_30 : decode cX11_mayBe 30 = .ok (.iadd, 1) := by decide +kernel
theorem dX11_mayBe_31 : decode cX11_mayBe 31 = .ok (.iaload, 1) := by decide +kernel
theorem dX11_mayBe_32 : decode cX11_mayBe 32 = .ok (.iload_n 2, 1) := by decide +kernel
theorem dX11_mayBe_33 : decode cX11_mayBe 33 = .ok (.if_icmp .ge 9, 3) := by decide +kernel
theorem dX11_mayBe_36 : decode cX11_mayBe 36 = .ok (.iinc 5 1, 3) := by decide +kernel
theorem dX11_mayBe_39 : decode cX11_mayBe 39 = .ok (.goto (-23), 3) := by decide +kernel
theorem dX11_mayBe_42 : decode cX11_mayBe 42 = .ok (.iload 5, 2) := by decide +kernel
theorem dX11_mayBe_44 : decode cX11_mayBe 44 = .ok (.iload 4, 2) := by decide +kernel
theorem dX11_mayBe_46 : decode cX11_mayBe 46 = .ok (.if_icmp .ge 17, 3) := by decide +kernel
theorem dX11_mayBe_49 : decode cX11_mayBe 49 = .ok (.aload_n 0, 1) := by decide +kernel
theorem dX11_mayBe_50 : decode cX11_mayBe 50 = .ok (.getfield 46, 3) := by decide +kernel
theorem dX11_mayBe_53 : decode cX11_mayBe 53 = .ok (.iload_n 3, 1) := by decide +kernel
theorem dX11_mayBe_54 : decode cX11_mayBe 54 = .ok (.iload 5, 2) := by decide +kernel
theorem dX11_mayBe_56 : decode cX11_mayBe 56 = .ok (.iadd, 1) := by decide +kernel
theorem dX11_mayBe_57 : decode cX11_mayBe 57 = .ok (.iaload, 1) := by decide +kernel
theorem dX11_mayBe_58 : decode cX11_mayBe 58 = .ok (.iload_n 2, 1) := by decide +kernel
theorem dX11_mayBe_59 : decode cX11_mayBe 59 = .ok (.if_icmp .ne 4, 3) := by decide +kernel
theorem dX11_mayBe_62 : decode cX11_mayBe 62 = .ok (.return_, 1) := by decide +kernel
theorem dX11_mayBe_63 : decode cX11_mayBe 63 = .ok (.iload 4, 2) := by decide +kernel
theorem dX11_mayBe_65 : decode cX11_mayBe 65 = .ok (.istore 6, 2) := by decide +kernel
theorem dX11_mayBe_67 : decode cX11_mayBe 67 = .ok (.iload 6, 2) := by decide +kernel
theorem dX11_mayBe_69 : decode cX11_mayBe 69 = .ok (.iload 5, 2) := by decide +kernel
theorem dX11_mayBe_71 : decode cX11_mayBe 71 = .ok (.if_icmp .le 29, 3) := by decide +kernel
theorem dX11_mayBe_74 : decode cX11_mayBe 74 = .ok (.aload_n 0, 1) := by decide +kernel
theorem dX11_mayBe_75 : decode cX11_mayBe 75 = .ok (.getfield 46, 3) := by decide +kernel
theorem dX11_mayBe_78 : decode cX11_mayBe 78 = .ok (.iload_n 3, 1) := by decide +kernel
theorem dX11_mayBe_79 : decode cX11_mayBe 79 = .ok (.iload 6, 2) := by decide +kernel
theorem dX11_mayBe_81 : decode cX11_mayBe 81 = .ok (.iadd, 1) := by decide +kernel
theorem dX11_mayBe_82 : decode cX11_mayBe 82 = .ok (.aload_n 0, 1) := by decide +kernel
theorem dX11_mayBe_83 : decode cX11_mayBe 83 = .ok (.getfield 46, 3) := by decide +kernel
theorem dX11_mayBe_86 : decode cX11_mayBe 86 = .ok (.iload_n 3, 1) := by decide +kernel
theorem dX11_mayBe_87 : decode cX11_mayBe 87 = .ok (.iload 6, 2) := by decide +kernel
theorem dX11_mayBe_89 : decode cX11_mayBe 89 = .ok (.iadd, 1) := by decide +kernel
theorem dX11_mayBe_90 : decode cX11_mayBe 90 = .ok (.iconst 1, 1) := by decide +kernel
theorem dX11_mayBe_91 : decode cX11_mayBe 91 = .ok (.isub, 1) := by decide +kernel
theorem dX11_mayBe_92 : decode cX11_mayBe 92 = .ok (.iaload, 1) := by decide +kernel
theorem dX11_mayBe_93 : decode cX11_mayBe 93 = .ok (.iastore, 1) := by decide +kernel
theorem dX11_mayBe_94 : decode cX11_mayBe 94 = .ok (.iinc 6 (-1), 3) := by decide +kernel
theorem dX11_mayBe_97 : decode cX11_mayBe 97 = .ok (.goto (-30), 3) := by decide +kernel
theorem dX11_mayBe_100 : decode cX11_mayBe 100 = .ok (.aload_n 0, 1) := by decide +kernel
theorem dX11_mayBe_101 : decode cX11_mayBe 101 = .ok (.getfield 46, 3) := by decide +kernel
theorem dX11_mayBe_104 : decode cX11_mayBe 104 = .ok (.iload_n 3, 1) := by decide +kernel
theorem dX11_mayBe_105 : decode cX11_mayBe 105 = .ok (.iload 5, 2) := by decide +kernel
theorem dX11_mayBe_107 : decode cX11_mayBe 107 = .ok (.iadd, 1) := by decide +kernel
theorem dX11_mayBe_108 : decode cX11_mayBe 108 = .ok (.iload_n 2, 1) := by decide +kernel
theorem dX11_mayBe_109 : decode cX11_mayBe 109 = .ok (.iastore, 1) := by decide +kernel
theorem dX11_mayBe_110 : decode cX11_mayBe 110 = .ok (.aload_n 0, 1) := by decide +kernel
theorem dX11_mayBe_111 : decode cX11_mayBe 111 = .ok (.getfield 49, 3) := by decide +kernel
theorem dX11_mayBe_114 : decode cX11_mayBe 114 = .ok (.iload_n 1, 1) := by decide +kernel
theorem dX11_mayBe_115 : decode cX11_mayBe 115 = .ok (.dup2, 1) := by decide +kernel
theorem dX11_mayBe_116 : decode cX11_mayBe 116 = .ok (.iaload, 1) := by decide +kernel
theorem dX11_mayBe_117 : decode cX11_mayBe 117 = .ok (.iconst 1, 1) := by decide +kernel
theorem dX11_mayBe_118 : decode cX11_mayBe 118 = .ok (.iadd, 1) := by decide +kernel
theorem dX11_mayBe_119 : decode cX11_mayBe 119 = .ok (.iastore, 1) := by decide +kernel
theorem dX11_mayBe_120 : decode cX11_mayBe 120 = .ok (.return_, 1) := by decide +kernel
theorem dX11_compare_0 : decode cX11_compare 0 = .ok (.iconst 0, 1) := by decide +kernel
theorem dX11_compare_1 : decode cX11_compare 1 = .ok (.istore_n 2, 1) := by decide +kernel
theorem dX11_compare_2 : decode cX11_compare 2 = .ok (.iload_n 2, 1) := by decide +kernel
theorem dX11_compare_3 : decode cX11_compare 3 = .ok (.bipush 32, 2) := by decide +kernel
theorem dX11_compare_5 : decode cX11_compare 5 = .ok (.if_icmp .ge 57, 3) := by decide +kernel
theorem dX11_compare_8 : decode cX11_compare 8 = .ok (.aload_n 0, 1) := by decide +kernel
theorem dX11_compare_9 : decode cX11_compare 9 = .ok (.getfield 46, 3) := by decide +kernel
theorem dX11_compare_12 : decode cX11_compare 12 = .ok (.bipush 61, 2) := by decide +kernel
theorem dX11_compare_14 : decode cX11_compare 14 = .ok (.iload_n 2, 1) := by decide +kernel
theorem dX11_compare_15 : decode cX11_compare 15 = .ok (.imul, 1) := by decide +kernel
theorem dX11_compare_16 : decode cX11_compare 16 = .ok (.aload_n 0, 1) := by decide +kernel
theorem dX11_compare_17 : decode cX11_compare 17 = .ok (.getfield 52, 3) := by decide +kernel
theorem dX11_compare_20 : decode cX11_compare 20 = .ok (.iload_n 2, 1) := by decide +kernel
theorem dX11_compare_21 : decode cX11_compare 21 = .ok (.iaload, 1) := by decide +kernel
theorem dX11_compare_22 : decode cX11_compare 22 = .ok (.iadd, 1) := by decide +kernel
theorem dX11_compare_23 : decode cX11_compare 23 = .ok (.iaload, 1) := by decide +kernel
theorem dX11_compare_24 : decode cX11_compare 24 = .ok (.istore_n 3, 1) := by decide +kernel
theorem dX11_compare_25 : decode cX11_compare 25 = .ok (.aload_n 0, 1) := by decide +kernel
theorem dX11_compare_26 : decode cX11_compare 26 = .ok (.getfield 37, 3) := by decide +kernel
theorem dX11_compare_29 : decode cX11_compare 29 = .ok (.bipush 32, 2) := by decide +kernel
theorem dX11_compare_31 : decode cX11_compare 31 = .ok (.iload_n 1, 1) := by decide +kernel
theorem dX11_compare_32 : decode cX11_compare 32 = .ok (.imul, 1) := by decide +kernel
theorem dX11_compare_33 : decode cX11_compare 33 = .ok (.iload_n 2, 1) := by decide +kernel
theorem dX11_compare_34 : decode cX11_compare 34 = .ok (.iadd, 1) := by decide +kernel
theorem dX11_compare_35 : decode cX11_compare 35 = .ok (.iaload, 1) := by decide +kernel
theorem dX11_compare_36 : decode cX11_compare 36 = .ok (.istore 4, 2) := by decide +kernel
theorem dX11_compare_38 : decode cX11_compare 38 = .ok (.iload_n 3, 1) := by decide +kernel
theorem dX11_compare_39 : decode cX11_compare 39 = .ok (.iload 4, 2) := by decide +kernel
theorem dX11_compare_41 : decode cX11_compare 41 = .ok (.if_icmp .eq 15, 3) := by decide +kernel
theorem dX11_compare_44 : decode cX11_compare 44 = .ok (.iload_n 3, 1) := by decide +kernel
theorem dX11_compare_45 : decode cX11_compare 45 = .ok (.iload 4, 2) := by decide +kernel
theorem dX11_compare_47 : decode cX11_compare 47 = .ok (.if_icmp .ge 7, 3) := by decide +kernel
theorem dX11_compare_50 : decode cX11_compare 50 = .ok (.iconst (-1), 1) := by decide +kernel
theorem dX11_compare_51 : decode cX11_compare 51 = .ok (.goto 4, 3) := by decide +kernel
theorem dX11_compare_54 : decode cX11_compare 54 = .ok (.iconst 1, 1) := by decide +kernel
theorem dX11_compare_55 : decode cX11_compare 55 = .ok (.ireturn, 1) := by decide +kernel
theorem dX11_compare_56 : decode cX11_compare 56 = .ok (.iinc 2 1, 3) := by decide +kernel
theorem dX11_compare_59 : decode cX11_compare 59 = .ok (.goto (-57), 3) := by decide +kernel
theorem dX11_compare_62 : decode cX11_compare 62 = .ok (.iconst 0, 1) := by decide +kernel
theorem dX11_compare_63 : decode cX11_compare 63 = .ok (.ireturn, 1) := by decide +kernel
theorem dX11_keepState_0 : decode cX11_keepState 0 = .ok (.iconst 0, 1) := by decide +kernel
theorem dX11_keepState_1 : decode cX11_keepState 1 = .ok (.istore_n 1, 1) := by decide +kernel
theorem dX11_keepState_2 : decode cX11_keepState 2 = .ok (.aload_n 0, 1) := by decide +kernel
theorem dX11_keepState_3 : decode cX11_keepState 3 = .ok (.getfield 137, 3) := by decide +kernel
theorem dX11_keepState_6 : decode cX11_keepState 6 = .ok (.istore_n 2, 1) := by decide +kernel
theorem dX11_keepState_7 : decode cX11_keepState 7 = .ok (.iload_n 1, 1) := by decide +kernel
theorem dX11_keepState_8 : decode cX11_keepState 8 = .ok (.iload_n 2, 1) := by decide +kernel
theorem dX11_keepState_9 : decode cX11_keepState 9 = .ok (.if_icmp .ge 55, 3) := by decide +kernel
theorem dX11_keepState_12 : decode cX11_keepState 12 = .ok (.iload_n 1, 1) := by decide +kernel
theorem dX11_keepState_13 : decode cX11_keepState 13 = .ok (.iload_n 2, 1) := by decide +kernel
theorem dX11_keepState_14 : decode cX11_keepState 14 = .ok (.iadd, 1) := by decide +kernel
theorem dX11_keepState_15 : decode cX11_keepState 15 = .ok (.iconst 2, 1) := by decide +kernel
theorem dX11_keepState_16 : decode cX11_keepState 16 = .ok (.idiv, 1) := by decide +kernel
theorem dX11_keepState_17 : decode cX11_keepState 17 = .ok (.istore_n 3, 1) := by decide +kernel
theorem dX11_keepState_18 : decode cX11_keepState 18 = .ok (.aload_n 0, 1) := by decide +kernel
theorem dX11_keepState_19 : decode cX11_keepState 19 = .ok (.aload_n 0, 1) := by decide +kernel
theorem dX11_keepState_20 : decode cX11_keepState 20 = .ok (.getfield 40, 3) := by decide +kernel
theorem dX11_keepState_23 : decode cX11_keepState 23 = .ok (.iload_n 3, 1) := by decide +kernel
theorem dX11_keepState_24 : decode cX11_keepState 24 = .ok (.iaload, 1) := by decide +kernel
theorem dX11_keepState_25 : decode cX11_keepState 25 = .ok (.invokevirtual 140, 3) := by decide +kernel
theorem dX11_keepState_28 : decode cX11_keepState 28 = .ok (.istore 4, 2) := by decide +kernel
theorem dX11_keepState_30 : decode cX11_keepState 30 = .ok (.iload 4, 2) := by decide +kernel
theorem dX11_keepState_32 : decode cX11_keepState 32 = .ok (.ifCond .ne 5, 3) := by decide +kernel
theorem dX11_keepState_35 : decode cX11_keepState 35 = .ok (.iconst 1, 1) := by decide +kernel
theorem dX11_keepState_36 : decode cX11_keepState 36 = .ok (.ireturn, 1) := by decide +kernel
theorem dX11_keepState_37 : decode cX11_keepState 37 = .ok (.iload 4, 2) := by decide +kernel
theorem dX11_keepState_39 : decode cX11_keepState 39 = .ok (.ifCond .le 9, 3) := by decide +kernel
theorem dX11_keepState_42 : decode cX11_keepState 42 = .ok (.iload_n 3, 1) := by decide +kernel
theorem dX11_keepState_43 : decode cX11_keepState 43 = .ok (.iconst 1, 1) := by decide +kernel
theorem dX11_keepState_44 : decode cX11_keepState 44 = .ok (.iadd, 1) := by decide +kernel
theorem dX11_keepState_45 : decode cX11_keepState 45 = .ok (.goto 4, 3) := by decide +kernel
theorem dX11_keepState_48 : decode cX11_keepState 48 = .ok (.iload_n 1, 1) := by decide +kernel
theorem dX11_keepState_49 : decode cX11_keepState 49 = .ok (.istore_n 1, 1) := by decide +kernel
theorem dX11_keepState_50 : decode cX11_keepState 50 = .ok (.iload 4, 2) := by decide +kernel
theorem dX11_keepState_52 : decode cX11_keepState 52 = .ok (.ifCond .ge 7, 3) := by decide +kernel
theorem dX11_keepState_55 : decode cX11_keepState 55 = .ok (.iload_n 3, 1) := by decide +kernel
theorem dX11_keepState_56 : decode cX11_keepState 56 = .ok (.goto 4, 3) := by decide +kernel
theorem dX11_keepState_59 : decode cX11_keepState 59 = .ok (.iload_n 2, 1) := by decide +kernel
theorem dX11_keepState_60 : decode cX11_keepState 60 = .ok (.istore_n 2, 1) := by decide +kernel
theorem dX11_keepState_61 : decode cX11_keepState 61 = .ok (.goto (-54), 3) := by decide +kernel
theorem dX11_keepState_64 : decode cX11_keepState 64 = .ok (.aload_n 0, 1) := by decide +kernel
theorem dX11_keepState_65 : decode cX11_keepState 65 = .ok (.getfield 137, 3) := by decide +kernel
theorem dX11_keepState_68 : decode cX11_keepState 68 = .ok (.sipush 4096, 3) := by decide +kernel
theorem dX11_keepState_71 : decode cX11_keepState 71 = .ok (.if_icmp .ne 5, 3) := by decide +kernel
theorem dX11_keepState_74 : decode cX11_keepState 74 = .ok (.iconst 0, 1) := by decide +kernel
theorem dX11_keepState_75 : decode cX11_keepState 75 = .ok (.ireturn, 1) := by decide +kernel
theorem dX11_keepState_76 : decode cX11_keepState 76 = .ok (.aload_n 0, 1) := by decide +kernel
theorem dX11_keepState_77 : decode cX11_keepState 77 = .ok (.getfield 137, 3) := by decide +kernel
theorem dX11_keepState_80 : decode cX11_keepState 80 = .ok (.istore_n 3, 1) := by decide +kernel
theorem dX11_keepState_81 : decode cX11_keepState 81 = .ok (.iload_n 3, 1) := by decide +kernel
theorem dX11_keepState_82 : decode cX11_keepState 82 = .ok (.iload_n 1, 1) := by decide +kernel
theorem dX11_keepState_83 : decode cX11_keepState 83 = .ok (.if_icmp .le 23, 3) := by decide +kernel
theorem dX11_keepState_86 : decode cX11_keepState 86 = .ok (.aload_n 0, 1) := by decide +kernel
theorem dX11_keepState_87 : decode cX11_keepState 87 = .ok (.getfield 40, 3) := by decide +kernel
theorem dX11_keepState_90 : decode cX11_keepState 90 = .ok (.iload_n 3, 1) := by decide +kernel
theorem dX11_keepState_91 : decode cX11_keepState 91 = .ok (.aload_n 0, 1) := by decide +kernel
theorem dX11_keepState_92 : decode cX11_keepState 92 = .ok (.getfield 40, 3) := by decide +kernel
theorem dX11_keepState_95 : decode cX11_keepState 95 = .ok (.iload_n 3, 1) := by decide +kernel
theorem dX11_keepState_96 : decode cX11_keepState 96 = .ok (.iconst 1, 1) := by decide +kernel
theorem dX11_keepState_97 : decode cX11_keepState 97 = .ok (.isub, 1) := by decide +kernel
theorem dX11_keepState_98 : decode cX11_keepState 98 = .ok (.iaload, 1) := by decide +kernel
theorem dX11_keepState_99 : decode cX11_keepState 99 = .ok (.iastore, 1) := by decide +kernel
theorem dX11_keepState_100 : decode cX11_keepState 100 = .ok (.iinc 3 (-1), 3) := by decide +kernel
theorem dX11_keepState_103 : decode cX11_keepState 103 = .ok (.goto (-22), 3) := by decide +kernel
theorem dX11_keepState_106 : decode cX11_keepState 106 = .ok (.aload_n 0, 1) := by decide +kernel
theorem dX11_keepState_107 : decode cX11_keepState 107 = .ok (.getfield 40, 3) := by decide +kernel
theorem dX11_keepState_110 : decode cX11_keepState 110 = .ok (.iload_n 1, 1) := by decide +kernel
theorem dX11_keepState_111 : decode cX11_keepState 111 = .ok (.aload_n 0, 1) := by decide +kernel
theorem dX11_keepState_112 : decode cX11_keepState 112 = .ok (.getfield 137, 3) := by decide +kernel
theorem dX11_keepState_115 : decode cX11_keepState 115 = .ok (.iastore, 1) := by decide +kernel
theorem dX11_keepState_116 : decode cX11_keepState 116 = .ok (.iconst 0, 1) := by decide +kernel
theorem dX11_keepState_117 : decode cX11_keepState 117 = .ok (.istore_n 3, 1) := by decide +kernel
theorem dX11_keepState_118 : decode cX11_keepState 118 = .ok (.iload_n 3, 1) := by decide +kernel
theorem dX11_keepState_119 : decode cX11_keepState 119 = .ok (.bipush 32, 2) := by decide +kernel
theorem dX11_keepState_121 : decode cX11_keepState 121 = .ok (.if_icmp .ge 39, 3) := by decide +kernel
theorem dX11_keepState_124 : decode cX11_keepState 124 = .ok (.aload_n 0, 1) := by decide +kernel
theorem dX11_keepState_125 : decode cX11_keepState 125 = .ok (.getfield 37, 3) := by decide +kernel
theorem dX11_keepState_128 : decode cX11_keepState 128 = .ok (.bipush 32, 2) := by decide +kernel
theorem dX11_keepState_130 : decode cX11_keepState 130 = .ok (.aload_n 0, 1) := by decide +kernel
theorem dX11_keepState_131 : decode cX11_keepState 131 = .ok (.getfield 137, 3) := by decide +kernel
theorem dX11_keepState_134 : decode cX11_keepState 134 = .ok (.imul, 1) := by decide +kernel
theorem dX11_keepState_135 : decode cX11_keepState 135 = .ok (.iload_n 3, 1) := by decide +kernel
theorem dX11_keepState_136 : decode cX11_keepState 136 = .ok (.iadd, 1) := by decide +kernel
theorem dX11_keepState_137 : decode cX11_keepState 137 = .ok (.aload_n 0, 1) := by decide +kernel
theorem dX11_keepState_138 : decode cX11_keepState 138 = .ok (.getfield 46, 3) := by decide +kernel
theorem dX11_keepState_141 : decode cX11_keepState 141 = .ok (.bipush 61, 2) := by decide +kernel
theorem dX11_keepState_143 : decode cX11_keepState 143 = .ok (.iload_n 3, 1) := by decide +kernel
theorem dX11_keepState_144 : decode cX11_keepState 144 = .ok (.imul, 1) := by decide +kernel
theorem dX11_keepState_145 : decode cX11_keepState 145 = .ok (.aload_n 0, 1) := by decide +kernel
theorem dX11_keepState_146 : decode cX11_keepState 146 = .ok (.getfield 52, 3) := by decide +kernel
theorem dX11_keepState_149 : decode cX11_keepState 149 = .ok (.iload_n 3, 1) := by decide +kernel
theorem dX11_keepState_150 : decode cX11_keepState 150 = .ok (.iaload, 1) := by decide +kernel
theorem dX11_keepState_151 : decode cX11_keepState 151 = .ok (.iadd, 1) := by decide +kernel
theorem dX11_keepState_152 : decode cX11_keepState 152 = .ok (.iaload, 1) := by decide +kernel
theorem dX11_keepState_153 : decode cX11_keepState 153 = .ok (.iastore, 1) := by decide +kernel
theorem dX11_keepState_154 : decode cX11_keepState 154 = .ok (.iinc 3 1, 3) := by decide +kernel
theorem dX11_keepState_157 : decode cX11_keepState 157 = .ok (.goto (-39), 3) := by decide +kernel
theorem dX11_keepState_160 : decode cX11_keepState 160 = .ok (.aload_n 0, 1) := by decide +kernel
theorem dX11_keepState_161 : decode cX11_keepState 161 = .ok (.dup, 1) := by decide +kernel
theorem dX11_keepState_162 : decode cX11_keepState 162 = .ok (.getfield 137, 3) := by decide +kernel
theorem dX11_keepState_165 : decode cX11_keepState 165 = .ok (.iconst 1, 1) := by decide +kernel
theorem dX11_keepState_166 : decode cX11_keepState 166 = .ok (.iadd, 1) := by decide +kernel
theorem dX11_keepState_167 : decode cX11_keepState 167 = .ok (.putfield 137, 3) := by decide +kernel
theorem dX11_keepState_170 : decode cX11_keepState 170 = .ok (.iconst 1, 1) := by decide +kernel
theorem dX11_keepState_171 : decode cX11_keepState 171 = .ok (.ireturn, 1) := by decide +kernel
theorem dX11_keepAll_0 : decode cX11_keepAll 0 = .ok (.iconst 1, 1) := by decide +kernel
theorem dX11_keepAll_1 : decode cX11_keepAll 1 = .ok (.istore_n 1, 1) := by decide +kernel
theorem dX11_keepAll_2 : decode cX11_keepAll 2 = .ok (.iconst 0, 1) := by decide +kernel
theorem dX11_keepAll_3 : decode cX11_keepAll 3 = .ok (.istore_n 2, 1) := by decide +kernel
theorem dX11_keepAll_4 : decode cX11_keepAll 4 = .ok (.iload_n 2, 1) := by decide +kernel
theorem dX11_keepAll_5 : decode cX11_keepAll 5 = .ok (.bipush 32, 2) := by decide +kernel
theorem dX11_keepAll_7 : decode cX11_keepAll 7 = .ok (.if_icmp .ge 36, 3) := by decide +kernel
theorem dX11_keepAll_10 : decode cX11_keepAll 10 = .ok (.aload_n 0, 1) := by decide +kernel
theorem dX11_keepAll_11 : decode cX11_keepAll 11 = .ok (.getfield 52, 3) := by decide +kernel
theorem dX11_keepAll_14 : decode cX11_keepAll 14 = .ok (.iload_n 2, 1) := by decide +kernel
theorem dX11_keepAll_15 : decode cX11_keepAll 15 = .ok (.iconst 0, 1) := by decide +kernel
theorem dX11_keepAll_16 : decode cX11_keepAll 16 = .ok (.iastore, 1) := by decide +kernel
theorem dX11_keepAll_17 : decode cX11_keepAll 17 = .ok (.iload_n 1, 1) := by decide +kernel
theorem dX11_keepAll_18 : decode cX11_keepAll 18 = .ok (.sipush 4096, 3) := by decide +kernel
theorem dX11_keepAll_21 : decode cX11_keepAll 21 = .ok (.if_icmp .le 7, 3) := by decide +kernel
theorem dX11_keepAll_24 : decode cX11_keepAll 24 = .ok (.iload_n 1, 1) := by decide +kernel
theorem dX11_keepAll_25 : decode cX11_keepAll 25 = .ok (.goto 11, 3) := by decide +kernel
theorem dX11_keepAll_28 : decode cX11_keepAll 28 = .ok (.iload_n 1, 1) := by decide +kernel
theorem dX11_keepAll_29 : decode cX11_keepAll 29 = .ok (.aload_n 0, 1) := by decide +kernel
theorem dX11_keepAll_30 : decode cX11_keepAll 30 = .ok (.getfield 49, 3) := by decide +kernel
theorem dX11_keepAll_33 : decode cX11_keepAll 33 = .ok (.iload_n 2, 1) := by decide +kernel
theorem dX11_keepAll_34 : decode cX11_keepAll 34 = .ok (.iaload, 1) := by decide +kernel
theorem dX11_keepAll_35 : decode cX11_keepAll 35 = .ok (.imul, 1) := by decide +kernel
theorem dX11_keepAll_36 : decode cX11_keepAll 36 = .ok (.istore_n 1, 1) := by decide +kernel
theorem dX11_keepAll_37 : decode cX11_keepAll 37 = .ok (.iinc 2 1, 3) := by decide +kernel
theorem dX11_keepAll_40 : decode cX11_keepAll 40 = .ok (.goto (-36), 3) := by decide +kernel
theorem dX11_keepAll_43 : decode cX11_keepAll 43 = .ok (.iload_n 1, 1) := by decide +kernel
theorem dX11_keepAll_44 : decode cX11_keepAll 44 = .ok (.sipush 4096, 3) := by decide +kernel
theorem dX11_keepAll_47 : decode cX11_keepAll 47 = .ok (.if_icmp .le 5, 3) := by decide +kernel
theorem dX11_keepAll_50 : decode cX11_keepAll 50 = .ok (.iconst 0, 1) := by decide +kernel
theorem dX11_keepAll_51 : decode cX11_keepAll 51 = .ok (.ireturn, 1) := by decide +kernel
theorem dX11_keepAll_52 : decode cX11_keepAll 52 = .ok (.iconst 0, 1) := by decide +kernel
theorem dX11_keepAll_53 : decode cX11_keepAll 53 = .ok (.istore_n 2, 1) := by decide +kernel
theorem dX11_keepAll_54 : decode cX11_keepAll 54 = .ok (.iload_n 2, 1) := by decide +kernel
theorem dX11_keepAll_55 : decode cX11_keepAll 55 = .ok (.iload_n 1, 1) := by decide +kernel
theorem dX11_keepAll_56 : decode cX11_keepAll 56 = .ok (.if_icmp .ge 69, 3) := by decide +kernel
theorem dX11_keepAll_59 : decode cX11_keepAll 59 = .ok (.aload_n 0, 1) := by decide +kernel
theorem dX11_keepAll_60 : decode cX11_keepAll 60 = .ok (.invokevirtual 143, 3) := by decide +kernel
theorem dX11_keepAll_63 : decode cX11_keepAll 63 = .ok (.ifCond .ne 5, 3) := by decide +kernel
theorem dX11_keepAll_66 : decode cX11_keepAll 66 = .ok (.iconst 0, 1) := by decide +kernel
theorem dX11_keepAll_67 : decode cX11_keepAll 67 = .ok (.ireturn, 1) := by decide +kernel
theorem dX11_keepAll_68 : decode cX11_keepAll 68 = .ok (.bipush 31, 2) := by decide +kernel
theorem dX11_keepAll_70 : decode cX11_keepAll 70 = .ok (.istore_n 3, 1) := by decide +kernel
theorem dX11_keepAll_71 : decode cX11_keepAll 71 = .ok (.iload_n 3, 1) := by decide +kernel
theorem dX11_keepAll_72 : decode cX11_keepAll 72 = .ok (.ifCond .lt 33, 3) := by decide +kernel
theorem dX11_keepAll_75 : decode cX11_keepAll 75 = .ok (.aload_n 0, 1) := by decide +kernel
theorem dX11_keepAll_76 : decode cX11_keepAll 76 = .ok (.getfield 52, 3) := by decide +kernel
theorem dX11_keepAll_79 : decode cX11_keepAll 79 = .ok (.iload_n 3, 1) := by decide +kernel
theorem dX11_keepAll_80 : decode cX11_keepAll 80 = .ok (.iaload, 1) := by decide +kernel
theorem dX11_keepAll_81 : decode cX11_keepAll 81 = .ok (.aload_n 0, 1) := by decide +kernel
theorem dX11_keepAll_82 : decode cX11_keepAll 82 = .ok (.getfield 49, 3) := by decide +kernel
theorem dX11_keepAll_85 : decode cX11_keepAll 85 = .ok (.iload_n 3, 1) := by decide +kernel
theorem dX11_keepAll_86 : decode cX11_keepAll 86 = .ok (.iaload, 1) := by decide +kernel
theorem dX11_keepAll_87 : decode cX11_keepAll 87 = .ok (.iconst 1, 1) := by decide +kernel
theorem dX11_keepAll_88 : decode cX11_keepAll 88 = .ok (.isub, 1) := by decide +kernel
theorem dX11_keepAll_89 : decode cX11_keepAll 89 = .ok (.if_icmp .ne 16, 3) := by decide +kernel
theorem dX11_keepAll_92 : decode cX11_keepAll 92 = .ok (.aload_n 0, 1) := by decide +kernel
theorem dX11_keepAll_93 : decode cX11_keepAll 93 = .ok (.getfield 52, 3) := by decide +kernel
theorem dX11_keepAll_96 : decode cX11_keepAll 96 = .ok (.iload_n 3, 1) := by decide +kernel
theorem dX11_keepAll_97 : decode cX11_keepAll 97 = .ok (.iconst 0, 1) := by decide +kernel
theorem dX11_keepAll_98 : decode cX11_keepAll 98 = .ok (.iastore, 1) := by decide +kernel
theorem dX11_keepAll_99 : decode cX11_keepAll 99 = .ok (.iinc 3 (-1), 3) := by decide +kernel
theorem dX11_keepAll_102 : decode cX11_keepAll 102 = .ok (.goto (-31), 3) := by decide +kernel
theorem dX11_keepAll_105 : decode cX11_keepAll 105 = .ok (.iload_n 3, 1) := by decide +kernel
theorem dX11_keepAll_106 : decode cX11_keepAll 106 = .ok (.ifCond .lt 13, 3) := by decide +kernel
theorem dX11_keepAll_109 : decode cX11_keepAll 109 = .ok (.aload_n 0, 1) := by decide +kernel
theorem dX11_keepAll_110 : decode cX11_keepAll 110 = .ok (.getfield 52, 3) := by decide +kernel
theorem dX11_keepAll_113 : decode cX11_keepAll 113 = .ok (.iload_n 3, 1) := by decide +kernel
theorem dX11_keepAll_114 : decode cX11_keepAll 114 = .ok (.dup2, 1) := by decide +kernel
theorem dX11_keepAll_115 : decode cX11_keepAll 115 = .ok (.iaload, 1) := by decide +kernel
theorem dX11_keepAll_116 : decode cX11_keepAll 116 = .ok (.iconst 1, 1) := by decide +kernel
theorem dX11_keepAll_117 : decode cX11_keepAll 117 = .ok (.iadd, 1) := by decide +kernel
theorem dX11_keepAll_118 : decode cX11_keepAll 118 = .ok (.iastore, 1) := by decide +kernel
theorem dX11_keepAll_119 : decode cX11_keepAll 119 = .ok (.iinc 2 1, 3) := by decide +kernel
theorem dX11_keepAll_122 : decode cX11_keepAll 122 = .ok (.goto (-68), 3) := by decide +kernel
theorem dX11_keepAll_125 : decode cX11_keepAll 125 = .ok (.iconst 1, 1) := by decide +kernel
theorem dX11_keepAll_126 : decode cX11_keepAll 126 = .ok (.ireturn, 1) := by decide +kernel
theorem dX11_onlyBase_0 : decode cX11_onlyBase 0 = .ok (.iconst 0, 1) := by decide +kernel
theorem dX11_onlyBase_1 : decode cX11_onlyBase 1 = .ok (.istore_n 1, 1) := by decide +kernel
theorem dX11_onlyBase_2 : decode cX11_onlyBase 2 = .ok (.iload_n 1, 1) := by decide +kernel
theorem dX11_onlyBase_3 : decode cX11_onlyBase 3 = .ok (.bipush 32, 2) := by decide +kernel
theorem dX11_onlyBase_5 : decode cX11_onlyBase 5 = .ok (.if_icmp .ge 27, 3) := by decide +kernel
theorem dX11_onlyBase_8 : decode cX11_onlyBase 8 = .ok (.aload_n 0, 1) := by decide +kernel
theorem dX11_onlyBase_9 : decode cX11_onlyBase 9 = .ok (.getfield 49, 3) := by decide +kernel
theorem dX11_onlyBase_12 : decode cX11_onlyBase 12 = .ok (.iload_n 1, 1) := by decide +kernel
theorem dX11_onlyBase_13 : decode cX11_onlyBase 13 = .ok (.iconst 0, 1) := by decide +kernel
theorem dX11_onlyBase_14 : decode cX11_onlyBase 14 = .ok (.iastore, 1) := by decide +kernel
theorem dX11_onlyBase_15 : decode cX11_onlyBase 15 = .ok (.aload_n 0, 1) := by decide +kernel
theorem dX11_onlyBase_16 : decode cX11_onlyBase 16 = .ok (.iload_n 1, 1) := by decide +kernel
theorem dX11_onlyBase_17 : decode cX11_onlyBase 17 = .ok (.aload_n 0, 1) := by decide +kernel
theorem dX11_onlyBase_18 : decode cX11_onlyBase 18 = .ok (.getfield 43, 3) := by decide +kernel
theorem dX11_onlyBase_21 : decode cX11_onlyBase 21 = .ok (.iload_n 1, 1) := by decide +kernel
theorem dX11_onlyBase_22 : decode cX11_onlyBase 22 = .ok (.iaload, 1) := by decide +kernel
theorem dX11_onlyBase_23 : decode cX11_onlyBase 23 = .ok (.invokevirtual 147, 3) := by decide +kernel
theorem dX11_onlyBase_26 : decode cX11_onlyBase 26 = .ok (.iinc 1 1, 3) := by decide +kernel
theorem dX11_onlyBase_29 : decode cX11_onlyBase 29 = .ok (.goto (-27), 3) := by decide +kernel
theorem dX11_onlyBase_32 : decode cX11_onlyBase 32 = .ok (.return_, 1) := by decide +kernel
theorem dX11_findStates_0 : decode cX11_findStates 0 = .ok (.aload_n 0, 1) := by decide +kernel
theorem dX11_findStates_1 : decode cX11_findStates 1 = .ok (.iconst 0, 1) := by decide +kernel
theorem dX11_findStates_2 : decode cX11_findStates 2 = .ok (.putfield 137, 3) := by decide +kernel
theorem dX11_findStates_5 : decode cX11_findStates 5 = .ok (.iconst 0, 1) := by decide +kernel
theorem dX11_findStates_6 : decode cX11_findStates 6 = .ok (.istore_n 2, 1) := by decide +kernel
theorem dX11_findStates_7 : decode cX11_findStates 7 = .ok (.iload_n 2, 1) := by decide +kernel
theorem dX11_findStates_8 : decode cX11_findStates 8 = .ok (.bipush 32, 2) := by decide +kernel
theorem dX11_findStates_10 : decode cX11_findStates 10 = .ok (.if_icmp .ge 26, 3) := by decide +kernel
theorem dX11_findStates_13 : decode cX11_findStates 13 = .ok (.aload_n 0, 1) := by decide +kernel
theorem dX11_findStates_14 : decode cX11_findStates 14 = .ok (.getfield 43, 3) := by decide +kernel
theorem dX11_findStates_17 : decode cX11_findStates 17 = .ok (.iload_n 2, 1) := by decide +kernel
theorem dX11_findStates_18 : decode cX11_findStates 18 = .ok (.aload_n 0, 1) := by decide +kernel
theorem dX11_findStates_19 : decode cX11_findStates 19 = .ok (.getfield 7, 3) := by decide +kernel
theorem dX11_findStates_22 : decode cX11_findStates 22 = .ok (.bipush 32, 2) := by decide +kernel
theorem dX11_findStates_24 : decode cX11_findStates 24 = .ok (.iload_n 1, 1) := by decide +kernel
theorem dX11_findStates_25 : decode cX11_findStates 25 = .ok (.imul, 1) := by decide +kernel
theorem dX11_findStates_26 : decode cX11_findStates 26 = .ok (.iload_n 2, 1) := by decide +kernel
theorem dX11_findStates_27 : decode cX11_findStates 27 = .ok (.iadd, 1) := by decide +kernel
theorem dX11_findStates_28 : decode cX11_findStates 28 = .ok (.iaload, 1) := by decide +kernel
theorem dX11_findStates_29 : decode cX11_findStates 29 = .ok (.iastore, 1) := by decide +kernel
theorem dX11_findStates_30 : decode cX11_findStates 30 = .ok (.iinc 2 1, 3) := by decide +kernel
theorem dX11_findStates_33 : decode cX11_findStates 33 = .ok (.goto (-26), 3) := by decide +kernel
theorem dX11_findStates_36 : decode cX11_findStates 36 = .ok (.aload_n 0, 1) := by decide +kernel
theorem dX11_findStates_37 : decode cX11_findStates 37 = .ok (.iload_n 1, 1) := by decide +kernel
theorem dX11_findStates_38 : decode cX11_findStates 38 = .ok (.aload_n 0, 1) := by decide +kernel
theorem dX11_findStates_39 : decode cX11_findStates 39 = .ok (.getfield 22, 3) := by decide +kernel
theorem dX11_findStates_42 : decode cX11_findStates 42 = .ok (.iload_n 1, 1) := by decide +kernel
theorem dX11_findStates_43 : decode cX11_findStates 43 = .ok (.iaload, 1) := by decide +kernel
theorem dX11_findStates_44 : decode cX11_findStates 44 = .ok (.invokevirtual 151, 3) := by decide +kernel
theorem dX11_findStates_47 : decode cX11_findStates 47 = .ok (.istore_n 2, 1) := by decide +kernel
theorem dX11_findStates_48 : decode cX11_findStates 48 = .ok (.iload_n 2, 1) := by decide +kernel
theorem dX11_findStates_49 : decode cX11_findStates 49 = .ok (.ifCond .ne 12, 3) := by decide +kernel
theorem dX11_findStates_52 : decode cX11_findStates 52 = .ok (.aload_n 0, 1) := by decide +kernel
theorem dX11_findStates_53 : decode cX11_findStates 53 = .ok (.invokevirtual 154, 3) := by decide +kernel
theorem dX11_findStates_56 : decode cX11_findStates 56 = .ok (.aload_n 0, 1) := by decide +kernel
theorem dX11_findStates_57 : decode cX11_findStates 57 = .ok (.invokevirtual 157, 3) := by decide +kernel
theorem dX11_findStates_60 : decode cX11_findStates 60 = .ok (.ireturn, 1) := by decide +kernel
theorem dX11_findStates_61 : decode cX11_findStates 61 = .ok (.iconst 0, 1) := by decide +kernel
theorem dX11_findStates_62 : decode cX11_findStates 62 = .ok (.istore_n 3, 1) := by decide +kernel
theorem dX11_findStates_63 : decode cX11_findStates 63 = .ok (.iload_n 3, 1) := by decide +kernel
theorem dX11_findStates_64 : decode cX11_findStates 64 = .ok (.iload_n 2, 1) := by decide +kernel
theorem dX11_findStates_65 : decode cX11_findStates 65 = .ok (.if_icmp .ge 210, 3) := by decide +kernel
theorem dX11_findStates_68 : decode cX11_findStates 68 = .ok (.aload_n 0, 1) := by decide +kernel
theorem dX11_findStates_69 : decode cX11_findStates 69 = .ok (.invokevirtual 154, 3) := by decide +kernel
theorem dX11_findStates_72 : decode cX11_findStates 72 = .ok (.iconst 0, 1) := by decide +kernel
theorem dX11_findStates_73 : decode cX11_findStates 73 = .ok (.istore 4, 2) := by decide +kernel
theorem dX11_findStates_75 : decode cX11_findStates 75 = .ok (.iload 4, 2) := by decide +kernel
theorem dX11_findStates_77 : decode cX11_findStates 77 = .ok (.aload_n 0, 1) := by decide +kernel
theorem dX11_findStates_78 : decode cX11_findStates 78 = .ok (.getfield 22, 3) := by decide +kernel
theorem dX11_findStates_81 : decode cX11_findStates 81 = .ok (.iload_n 1, 1) := by decide +kernel
theorem dX11_findStates_82 : decode cX11_findStates 82 = .ok (.iaload, 1) := by decide +kernel
theorem dX11_findStates_83 : decode cX11_findStates 83 = .ok (.if_icmp .ge 82, 3) := by decide +kernel
theorem dX11_findStates_86 : decode cX11_findStates 86 = .ok (.aload_n 0, 1) := by decide +kernel
theorem dX11_findStates_87 : decode cX11_findStates 87 = .ok (.getfield 13, 3) := by decide +kernel
theorem dX11_findStates_90 : decode cX11_findStates 90 = .ok (.bipush 60, 2) := by decide +kernel
theorem dX11_findStates_92 : decode cX11_findStates 92 = .ok (.iload_n 1, 1) := by decide +kernel
theorem dX11_findStates_93 : decode cX11_findStates 93 = .ok (.imul, 1) := by decide +kernel
theorem dX11_findStates_94 : decode cX11_findStates 94 = .ok (.iload 4, 2) := by decide +kernel
theorem dX11_findStates_96 : decode cX11_findStates 96 = .ok (.iadd, 1) := by decide +kernel
theorem dX11_findStates_97 : decode cX11_findStates 97 = .ok (.iaload, 1) := by decide +kernel
theorem dX11_findStates_98 : decode cX11_findStates 98 = .ok (.istore 5, 2) := by decide +kernel
theorem dX11_findStates_100 : decode cX11_findStates 100 = .ok (.iload 5, 2) := by decide +kernel
theorem dX11_findStates_102 : decode cX11_findStates 102 = .ok (.iconst (-1), 1) := by decide +kernel
theorem dX11_findStates_103 : decode cX11_findStates 103 = .ok (.if_icmp .eq 56, 3) := by decide +kernel
theorem dX11_findStates_106 : decode cX11_findStates 106 = .ok (.aload_n 0, 1) := by decide +kernel
theorem dX11_findStates_107 : decode cX11_findStates 107 = .ok (.iload_n 1, 1) := by decide +kernel
theorem dX11_findStates_108 : decode cX11_findStates 108 = .ok (.iload 4, 2) := by decide +kernel
theorem dX11_findStates_110 : decode cX11_findStates 110 = .ok (.invokevirtual 133, 3) := by decide +kernel
theorem dX11_findStates_113 : decode cX11_findStates 113 = .ok (.iload_n 3, 1) := by decide +kernel
theorem dX11_findStates_114 : decode cX11_findStates 114 = .ok (.if_icmp .ne 45, 3) := by decide +kernel
theorem dX11_findStates_117 : decode cX11_findStates 117 = .ok (.aload_n 0, 1) := by decide +kernel
theorem dX11_findStates_118 : decode cX11_findStates 118 = .ok (.iconst 2, 1) := by decide +kernel
theorem dX11_findStates_119 : decode cX11_findStates 119 = .ok (.iload 5, 2) := by decide +kernel
theorem dX11_findStates_121 : decode cX11_findStates 121 = .ok (.imul, 1) := by decide +kernel
theorem dX11_findStates_122 : decode cX11_findStates 122 = .ok (.aload_n 0, 1) := by decide +kernel
theorem dX11_findStates_123 : decode cX11_findStates 123 = .ok (.getfield 16, 3) := by decide +kernel
theorem dX11_findStates_126 : decode cX11_findStates 126 = .ok (.bipush 60, 2) := by decide +kernel
theorem dX11_findStates_128 : decode cX11_findStates 128 = .ok (.iload_n 1, 1) := by decide +kernel
theorem dX11_findStates_129 : decode cX11_findStates 129 = .ok (.imul, 1) := by decide +kernel
theorem dX11_findStates_130 : decode cX11_findStates 130 = .ok (.iload 4, 2) := by decide +kernel
theorem dX11_findStates_132 : decode cX11_findStates 132 = .ok (.iadd, 1) := by decide +kernel
theorem dX11_findStates_133 : decode cX11_findStates 133 = .ok (.iaload, 1) := by decide +kernel
theorem dX11_findStates_134 : decode cX11_findStates 134 = .ok (.invokevirtual 147, 3) := by decide +kernel
theorem dX11_findStates_137 : decode cX11_findStates 137 = .ok (.aload_n 0, 1) := by decide +kernel
theorem dX11_findStates_138 : decode cX11_findStates 138 = .ok (.iconst 2, 1) := by decide +kernel
theorem dX11_findStates_139 : decode cX11_findStates 139 = .ok (.iload 5, 2) := by decide +kernel
theorem dX11_findStates_141 : decode cX11_findStates 141 = .ok (.imul, 1) := by decide +kernel
theorem dX11_findStates_142 : decode cX11_findStates 142 = .ok (.iconst 1, 1) := by decide +kernel
theorem dX11_findStates_143 : decode cX11_findStates 143 = .ok (.iadd, 1) := by decide +kernel
theorem dX11_findStates_144 : decode cX11_findStates 144 = .ok (.aload_n 0, 1) := by decide +kernel
theorem dX11_findStates_145 : decode cX11_findStates 145 = .ok (.getfield 19, 3) := by decide +kernel
theorem dX11_findStates_148 : decode cX11_findStates 148 = .ok (.bipush 60, 2) := by decide +kernel
theorem dX11_findStates_150 : decode cX11_findStates 150 = .ok (.iload_n 1, 1) := by decide +kernel
theorem dX11_findStates_151 : decode cX11_findStates 151 = .ok (.imul, 1) := by decide +kernel
theorem dX11_findStates_152 : decode cX11_findStates 152 = .ok (.iload 4, 2) := by decide +kernel
theorem dX11_findStates_154 : decode cX11_findStates 154 = .ok (.iadd, 1) := by decide +kernel
theorem dX11_findStates_155 : decode cX11_findStates 155 = .ok (.iaload, 1) := by decide +kernel
theorem dX11_findStates_156 : decode cX11_findStates 156 = .ok (.invokevirtual 147, 3) := by decide +kernel
theorem dX11_findStates_159 : decode cX11_findStates 159 = .ok (.iinc 4 1, 3) := by decide +kernel
theorem dX11_findStates_162 : decode cX11_findStates 162 = .ok (.goto (-87), 3) := by decide +kernel
theorem dX11_findStates_165 : decode cX11_findStates 165 = .ok (.aload_n 0, 1) := by decide +kernel
theorem dX11_findStates_166 : decode cX11_findStates 166 = .ok (.invokevirtual 157, 3) := by decide +kernel
theorem dX11_findStates_169 : decode cX11_findStates 169 = .ok (.ifCond .ne 5, 3) := by decide +kernel
theorem dX11_findStates_172 : decode cX11_findStates 172 = .ok (.iconst 0, 1) := by decide +kernel
theorem dX11_findStates_173 : decode cX11_findStates 173 = .ok (.ireturn, 1) := by decide +kernel
theorem dX11_findStates_174 : decode cX11_findStates 174 = .ok (.iconst 0, 1) := by decide +kernel
theorem dX11_findStates_175 : decode cX11_findStates 175 = .ok (.istore 4, 2) := by decide +kernel
theorem dX11_findStates_177 : decode cX11_findStates 177 = .ok (.iload 4, 2) := by decide +kernel
theorem dX11_findStates_179 : decode cX11_findStates 179 = .ok (.aload_n 0, 1) := by decide +kernel
theorem dX11_findStates_180 : decode cX11_findStates 180 = .ok (.getfield 22, 3) := by decide +kernel
theorem dX11_findStates_183 : decode cX11_findStates 183 = .ok (.iload_n 1, 1) := by decide +kernel
theorem dX11_findStates_184 : decode cX11_findStates 184 = .ok (.iaload, 1) := by decide +kernel
theorem dX11_findStates_185 : decode cX11_findStates 185 = .ok (.if_icmp .ge 84, 3) := by decide +kernel
theorem dX11_findStates_188 : decode cX11_findStates 188 = .ok (.aload_n 0, 1) := by decide +kernel
theorem dX11_findStates_189 : decode cX11_findStates 189 = .ok (.getfield 13, 3) := by decide +kernel
theorem dX11_findStates_192 : decode cX11_findStates 192 = .ok (.bipush 60, 2) := by decide +kernel
theorem dX11_findStates_194 : decode cX11_findStates 194 = .ok (.iload_n 1, 1) := by decide +kernel
theorem dX11_findStates_195 : decode cX11_findStates 195 = .ok (.imul, 1) := by decide +kernel
theorem dX11_findStates_196 : decode cX11_findStates 196 = .ok (.iload 4, 2) := by decide +kernel
theorem dX11_findStates_198 : decode cX11_findStates 198 = .ok (.iadd, 1) := by decide +kernel
theorem dX11_findStates_199 : decode cX11_findStates 199 = .ok (.iaload, 1) := by decide +kernel
theorem dX11_findStates_200 : decode cX11_findStates 200 = .ok (.istore 5, 2) := by decide +kernel
theorem dX11_findStates_202 : decode cX11_findStates 202 = .ok (.iload 5, 2) := by decide +kernel
theorem dX11_findStates_204 : decode cX11_findStates 204 = .ok (.iconst (-1), 1) := by decide +kernel
theorem dX11_findStates_205 : decode cX11_findStates 205 = .ok (.if_icmp .eq 58, 3) := by decide +kernel
theorem dX11_findStates_208 : decode cX11_findStates 208 = .ok (.aload_n 0, 1) := by decide +kernel
theorem dX11_findStates_209 : decode cX11_findStates 209 = .ok (.iload_n 1, 1) := by decide +kernel
theorem dX11_findStates_210 : decode cX11_findStates 210 = .ok (.iload 4, 2) := by decide +kernel
theorem dX11_findStates_212 : decode cX11_findStates 212 = .ok (.invokevirtual 133, 3) := by decide +kernel
theorem dX11_findStates_215 : decode cX11_findStates 215 = .ok (.iload_n 3, 1) := by decide +kernel
theorem dX11_findStates_216 : decode cX11_findStates 216 = .ok (.if_icmp .ne 47, 3) := by decide +kernel
theorem dX11_findStates_219 : decode cX11_findStates 219 = .ok (.aload_n 0, 1) := by decide +kernel
theorem dX11_findStates_220 : decode cX11_findStates 220 = .ok (.getfield 43, 3) := by decide +kernel
theorem dX11_findStates_223 : decode cX11_findStates 223 = .ok (.iconst 2, 1) := by decide +kernel
theorem dX11_findStates_224 : decode cX11_findStates 224 = .ok (.iload 5, 2) := by decide +kernel
theorem dX11_findStates_226 : decode cX11_findStates 226 = .ok (.imul, 1) := by decide +kernel
theorem dX11_findStates_227 : decode cX11_findStates 227 = .ok (.aload_n 0, 1) := by decide +kernel
theorem dX11_findStates_228 : decode cX11_findStates 228 = .ok (.getfield 16, 3) := by decide +kernel
theorem dX11_findStates_231 : decode cX11_findStates 231 = .ok (.bipush 60, 2) := by decide +kernel
theorem dX11_findStates_233 : decode cX11_findStates 233 = .ok (.iload_n 1, 1) := by decide +kernel
theorem dX11_findStates_234 : decode cX11_findStates 234 = .ok (.imul, 1) := by decide +kernel
theorem dX11_findStates_235 : decode cX11_findStates 235 = .ok (.iload 4, 2) := by decide +kernel
theorem dX11_findStates_237 : decode cX11_findStates 237 = .ok (.iadd, 1) := by decide +kernel
theorem dX11_findStates_238 : decode cX11_findStates 238 = .ok (.iaload, 1) := by decide +kernel
theorem dX11_findStates_239 : decode cX11_findStates 239 = .ok (.iastore, 1) := by decide +kernel
theorem dX11_findStates_240 : decode cX11_findStates 240 = .ok (.aload_n 0, 1) := by decide +kernel
theorem dX11_findStates_241 : decode cX11_findStates 241 = .ok (.getfield 43, 3) := by decide +kernel
theorem dX11_findStates_244 : decode cX11_findStates 244 = .ok (.iconst 2, 1) := by decide +kernel
theorem dX11_findStates_245 : decode cX11_findStates 245 = .ok (.iload 5, 2) := by decide +kernel
theorem dX11_findStates_247 : decode cX11_findStates 247 = .ok (.imul, 1) := by decide +kernel
theorem dX11_findStates_248 : decode cX11_findStates 248 = .ok (.iconst 1, 1) := by decide +kernel
theorem dX11_findStates_249 : decode cX11_findStates 249 = .ok (.iadd, 1) := by decide +kernel
theorem dX11_findStates_250 : decode cX11_findStates 250 = .ok (.aload_n 0, 1) := by decide +kernel
theorem dX11_findStates_251 : decode cX11_findStates 251 = .ok (.getfield 19, 3) := by decide +kernel
theorem dX11_findStates_254 : decode cX11_findStates 254 = .ok (.bipush 60, 2) := by decide +kernel
theorem dX11_findStates_256 : decode cX11_findStates 256 = .ok (.iload_n 1, 1) := by decide +kernel
theorem dX11_findStates_257 : decode cX11_findStates 257 = .ok (.imul, 1) := by decide +kernel
theorem dX11_findStates_258 : decode cX11_findStates 258 = .ok (.iload 4, 2) := by decide +kernel
theorem dX11_findStates_260 : decode cX11_findStates 260 = .ok (.iadd, 1) := by decide +kernel
theorem dX11_findStates_261 : decode cX11_findStates 261 = .ok (.iaload, 1) := by decide +kernel
theorem dX11_findStates_262 : decode cX11_findStates 262 = .ok (.iastore, 1) := by decide +kernel
theorem dX11_findStates_263 : decode cX11_findStates 263 = .ok (.iinc 4 1, 3) := by decide +kernel
theorem dX11_findStates_266 : decode cX11_findStates 266 = .ok (.goto (-89), 3) := by decide +kernel
theorem dX11_findStates_269 : decode cX11_findStates 269 = .ok (.iinc 3 1, 3) := by decide +kernel
theorem dX11_findStates_272 : decode cX11_findStates 272 = .ok (.goto (-209), 3) := by decide +kernel
theorem dX11_findStates_275 : decode cX11_findStates 275 = .ok (.iconst 1, 1) := by decide +kernel
theorem dX11_findStates_276 : decode cX11_findStates 276 = .ok (.ireturn, 1) := by decide +kernel
theorem dX11_states_0 : decode cX11_states 0 = .ok (.aload_n 0, 1) := by decide +kernel
theorem dX11_states_1 : decode cX11_states 1 = .ok (.iconst 0, 1) := by decide +kernel
theorem dX11_states_2 : decode cX11_states 2 = .ok (.putfield 104, 3) := by decide +kernel
theorem dX11_states_5 : decode cX11_states 5 = .ok (.aload_n 0, 1) := by decide +kernel
theorem dX11_states_6 : decode cX11_states 6 = .ok (.iconst 0, 1) := by decide +kernel
theorem dX11_states_7 : decode cX11_states 7 = .ok (.invokevirtual 160, 3) := by decide +kernel
theorem dX11_states_10 : decode cX11_states 10 = .ok (.ifCond .eq 10, 3) := by decide +kernel
theorem dX11_states_13 : decode cX11_states 13 = .ok (.aload_n 0, 1) := by decide +kernel
theorem dX11_states_14 : decode cX11_states 14 = .ok (.getfield 137, 3) := by decide +kernel
theorem dX11_states_17 : decode cX11_states 17 = .ok (.goto 9, 3) := by decide +kernel
theorem dX11_states_20 : decode cX11_states 20 = .ok (.aload_n 0, 1) := by decide +kernel
theorem dX11_states_21 : decode cX11_states 21 = .ok (.bipush (-6), 2) := by decide +kernel
theorem dX11_states_23 : decode cX11_states 23 = .ok (.invokevirtual 114, 3) := by decide +kernel
theorem dX11_states_26 : decode cX11_states 26 = .ok (.ireturn, 1) := by decide +kernel
theorem dX11_state_0 : decode cX11_state 0 = .ok (.aload_n 0, 1) := by decide +kernel
theorem dX11_state_1 : decode cX11_state 1 = .ok (.iload_n 2, 1) := by decide +kernel
theorem dX11_state_2 : decode cX11_state 2 = .ok (.iload_n 3, 1) := by decide +kernel
theorem dX11_state_3 : decode cX11_state 3 = .ok (.invokestatic 125, 3) := by decide +kernel
theorem dX11_state_6 : decode cX11_state 6 = .ok (.ifCond .eq 29, 3) := by decide +kernel
theorem dX11_state_9 : decode cX11_state 9 = .ok (.aload_n 0, 1) := by decide +kernel
theorem dX11_state_10 : decode cX11_state 10 = .ok (.iconst 0, 1) := by decide +kernel
theorem dX11_state_11 : decode cX11_state 11 = .ok (.invokevirtual 160, 3) := by decide +kernel
theorem dX11_state_14 : decode cX11_state 14 = .ok (.ifCond .eq 21, 3) := by decide +kernel
theorem dX11_state_17 : decode cX11_state 17 = .ok (.iload_n 1, 1) := by decide +kernel
theorem dX11_state_18 : decode cX11_state 18 = .ok (.iconst 0, 1) := by decide +kernel
theorem dX11_state_19 : decode cX11_state 19 = .ok (.aload_n 0, 1) := by decide +kernel
theorem dX11_state_20 : decode cX11_state 20 = .ok (.getfield 137, 3) := by decide +kernel
theorem dX11_state_23 : decode cX11_state 23 = .ok (.iconst 1, 1) := by decide +kernel
theorem dX11_state_24 : decode cX11_state 24 = .ok (.isub, 1) := by decide +kernel
theorem dX11_state_25 : decode cX11_state 25 = .ok (.invokestatic 110, 3) := by decide +kernel
theorem dX11_state_28 : decode cX11_state 28 = .ok (.ifCond .eq 7, 3) := by decide +kernel
theorem dX11_state_31 : decode cX11_state 31 = .ok (.iconst 0, 1) := by decide +kernel
theorem dX11_state_32 : decode cX11_state 32 = .ok (.goto 4, 3) := by decide +kernel
theorem dX11_state_35 : decode cX11_state 35 = .ok (.iconst 1, 1) := by decide +kernel
theorem dX11_state_36 : decode cX11_state 36 = .ok (.putfield 104, 3) := by decide +kernel
theorem dX11_state_39 : decode cX11_state 39 = .ok (.aload_n 0, 1) := by decide +kernel
theorem dX11_state_40 : decode cX11_state 40 = .ok (.getfield 104, 3) := by decide +kernel
theorem dX11_state_43 : decode cX11_state 43 = .ok (.ifCond .le 7, 3) := by decide +kernel
theorem dX11_state_46 : decode cX11_state 46 = .ok (.iconst 0, 1) := by decide +kernel
theorem dX11_state_47 : decode cX11_state 47 = .ok (.goto 23, 3) := by decide +kernel
theorem dX11_state_50 : decode cX11_state 50 = .ok (.aload_n 0, 1) := by decide +kernel
theorem dX11_state_51 : decode cX11_state 51 = .ok (.getfield 37, 3) := by decide +kernel
theorem dX11_state_54 : decode cX11_state 54 = .ok (.bipush 32, 2) := by decide +kernel
theorem dX11_state_56 : decode cX11_state 56 = .ok (.aload_n 0, 1) := by decide +kernel
theorem dX11_state_57 : decode cX11_state 57 = .ok (.getfield 40, 3) := by decide +kernel
theorem dX11_state_60 : decode cX11_state 60 = .ok (.iload_n 1, 1) := by decide +kernel
theorem dX11_state_61 : decode cX11_state 61 = .ok (.iaload, 1) := by decide +kernel
theorem dX11_state_62 : decode cX11_state 62 = .ok (.imul, 1) := by decide +kernel
theorem dX11_state_63 : decode cX11_state 63 = .ok (.iconst 2, 1) := by decide +kernel
theorem dX11_state_64 : decode cX11_state 64 = .ok (.iload_n 2, 1) := by decide +kernel
theorem dX11_state_65 : decode cX11_state 65 = .ok (.imul, 1) := by decide +kernel
theorem dX11_state_66 : decode cX11_state 66 = .ok (.iadd, 1) := by decide +kernel
theorem dX11_state_67 : decode cX11_state 67 = .ok (.iload_n 3, 1) := by decide +kernel
theorem dX11_state_68 : decode cX11_state 68 = .ok (.iadd, 1) := by decide +kernel
theorem dX11_state_69 : decode cX11_state 69 = .ok (.iaload, 1) := by decide +kernel
theorem dX11_state_70 : decode cX11_state 70 = .ok (.ireturn, 1) := by decide +kernel
theorem dX11_fall_0 : decode cX11_fall 0 = .ok (.aload_n 0, 1) := by decide +kernel
theorem dX11_fall_1 : decode cX11_fall 1 = .ok (.iconst 0, 1) := by decide +kernel
theorem dX11_fall_2 : decode cX11_fall 2 = .ok (.putfield 104, 3) := by decide +kernel
theorem dX11_fall_5 : decode cX11_fall 5 = .ok (.aload_n 0, 1) := by decide +kernel
theorem dX11_fall_6 : decode cX11_fall 6 = .ok (.iconst 0, 1) := by decide +kernel
theorem dX11_fall_7 : decode cX11_fall 7 = .ok (.invokevirtual 160, 3) := by decide +kernel
theorem dX11_fall_10 : decode cX11_fall 10 = .ok (.ifCond .ne 10, 3) := by decide +kernel
theorem dX11_fall_13 : decode cX11_fall 13 = .ok (.aload_n 0, 1) := by decide +kernel
theorem dX11_fall_14 : decode cX11_fall 14 = .ok (.bipush (-6), 2) := by decide +kernel
theorem dX11_fall_16 : decode cX11_fall 16 = .ok (.invokevirtual 114, 3) := by decide +kernel
theorem dX11_fall_19 : decode cX11_fall 19 = .ok (.ireturn, 1) := by decide +kernel
theorem dX11_fall_20 : decode cX11_fall 20 = .ok (.iload_n 1, 1) := by decide +kernel
theorem dX11_fall_21 : decode cX11_fall 21 = .ok (.iconst 0, 1) := by decide +kernel
theorem dX11_fall_22 : decode cX11_fall 22 = .ok (.aload_n 0, 1) := by decide +kernel
theorem dX11_fall_23 : decode cX11_fall 23 = .ok (.getfield 137, 3) := by decide +kernel
theorem dX11_fall_26 : decode cX11_fall 26 = .ok (.iconst 1, 1) := by decide +kernel
theorem dX11_fall_27 : decode cX11_fall 27 = .ok (.isub, 1) := by decide +kernel
theorem dX11_fall_28 : decode cX11_fall 28 = .ok (.invokestatic 110, 3) := by decide +kernel
theorem dX11_fall_31 : decode cX11_fall 31 = .ok (.ifCond .ne 9, 3) := by decide +kernel
theorem dX11_fall_34 : decode cX11_fall 34 = .ok (.aload_n 0, 1) := by decide +kernel
theorem dX11_fall_35 : decode cX11_fall 35 = .ok (.iconst (-1), 1) := by decide +kernel
theorem dX11_fall_36 : decode cX11_fall 36 = .ok (.invokevirtual 114, 3) := by decide +kernel
theorem dX11_fall_39 : decode cX11_fall 39 = .ok (.ireturn, 1) := by decide +kernel
theorem dX11_fall_40 : decode cX11_fall 40 = .ok (.iconst 0, 1) := by decide +kernel
theorem dX11_fall_41 : decode cX11_fall 41 = .ok (.istore_n 2, 1) := by decide +kernel
theorem dX11_fall_42 : decode cX11_fall 42 = .ok (.iload_n 2, 1) := by decide +kernel
theorem dX11_fall_43 : decode cX11_fall 43 = .ok (.bipush 32, 2) := by decide +kernel
theorem dX11_fall_45 : decode cX11_fall 45 = .ok (.if_icmp .ge 31, 3) := by decide +kernel
theorem dX11_fall_48 : decode cX11_fall 48 = .ok (.aload_n 0, 1) := by decide +kernel
theorem dX11_fall_49 : decode cX11_fall 49 = .ok (.getfield 7, 3) := by decide +kernel
theorem dX11_fall_52 : decode cX11_fall 52 = .ok (.iload_n 2, 1) := by decide +kernel
theorem dX11_fall_53 : decode cX11_fall 53 = .ok (.aload_n 0, 1) := by decide +kernel
theorem dX11_fall_54 : decode cX11_fall 54 = .ok (.getfield 37, 3) := by decide +kernel
theorem dX11_fall_57 : decode cX11_fall 57 = .ok (.bipush 32, 2) := by decide +kernel
theorem dX11_fall_59 : decode cX11_fall 59 = .ok (.aload_n 0, 1) := by decide +kernel
theorem dX11_fall_60 : decode cX11_fall 60 = .ok (.getfield 40, 3) := by decide +kernel
theorem dX11_fall_63 : decode cX11_fall 63 = .ok (.iload_n 1, 1) := by decide +kernel
theorem dX11_fall_64 : decode cX11_fall 64 = .ok (.iaload, 1) := by decide +kernel
theorem dX11_fall_65 : decode cX11_fall 65 = .ok (.imul, 1) := by decide +kernel
theorem dX11_fall_66 : decode cX11_fall 66 = .ok (.iload_n 2, 1) := by decide +kernel
theorem dX11_fall_67 : decode cX11_fall 67 = .ok (.iadd, 1) := by decide +kernel
theorem dX11_fall_68 : decode cX11_fall 68 = .ok (.iaload, 1) := by decide +kernel
theorem dX11_fall_69 : decode cX11_fall 69 = .ok (.iastore, 1) := by decide +kernel
theorem dX11_fall_70 : decode cX11_fall 70 = .ok (.iinc 2 1, 3) := by decide +kernel
theorem dX11_fall_73 : decode cX11_fall 73 = .ok (.goto (-31), 3) := by decide +kernel
theorem dX11_fall_76 : decode cX11_fall 76 = .ok (.aload_n 0, 1) := by decide +kernel
theorem dX11_fall_77 : decode cX11_fall 77 = .ok (.getfield 22, 3) := by decide +kernel
theorem dX11_fall_80 : decode cX11_fall 80 = .ok (.iconst 0, 1) := by decide +kernel
theorem dX11_fall_81 : decode cX11_fall 81 = .ok (.iconst 0, 1) := by decide +kernel
theorem dX11_fall_82 : decode cX11_fall 82 = .ok (.iastore, 1) := by decide +kernel
theorem dX11_fall_83 : decode cX11_fall 83 = .ok (.aload_n 0, 1) := by decide +kernel
theorem dX11_fall_84 : decode cX11_fall 84 = .ok (.dup, 1) := by decide +kernel
theorem dX11_fall_85 : decode cX11_fall 85 = .ok (.getfield 164, 3) := by decide +kernel
theorem dX11_fall_88 : decode cX11_fall 88 = .ok (.iconst 1, 1) := by decide +kernel
theorem dX11_fall_89 : decode cX11_fall 89 = .ok (.iadd, 1) := by decide +kernel
theorem dX11_fall_90 : decode cX11_fall 90 = .ok (.putfield 164, 3) := by decide +kernel
theorem dX11_fall_93 : decode cX11_fall 93 = .ok (.iconst 1, 1) := by decide +kernel
theorem dX11_fall_94 : decode cX11_fall 94 = .ok (.ireturn, 1) := by decide +kernel
theorem dX11_fencesOf_0 : decode cX11_fencesOf 0 = .ok (.iload_n 0, 1) := by decide +kernel
theorem dX11_fencesOf_1 : decode cX11_fencesOf 1 = .ok (.iconst 1, 1) := by decide +kernel
theorem dX11_fencesOf_2 : decode cX11_fencesOf 2 = .ok (.if_icmp .ne 7, 3) := by decide +kernel
theorem dX11_fencesOf_5 : decode cX11_fencesOf 5 = .ok (.iconst 4, 1) := by decide +kernel
theorem dX11_fencesOf_6 : decode cX11_fencesOf 6 = .ok (.goto 13, 3) := by decide +kernel
theorem dX11_fencesOf_9 : decode cX11_fencesOf 9 = .ok (.iload_n 0, 1) := by decide +kernel
theorem dX11_fencesOf_10 : decode cX11_fencesOf 10 = .ok (.iconst 2, 1) := by decide +kernel
theorem dX11_fencesOf_11 : decode cX11_fencesOf 11 = .ok (.if_icmp .ne 7, 3) := by decide +kernel
theorem dX11_fencesOf_14 : decode cX11_fencesOf 14 = .ok (.iconst 2, 1) := by decide +kernel
theorem dX11_fencesOf_15 : decode cX11_fencesOf 15 = .ok (.goto 4, 3) := by decide +kernel
theorem dX11_fencesOf_18 : decode cX11_fencesOf 18 = .ok (.iconst 0, 1) := by decide +kernel
theorem dX11_fencesOf_19 : decode cX11_fencesOf 19 = .ok (.ireturn, 1) := by decide +kernel
theorem dX11_format_0 : decode cX11_format 0 = .ok (.iconst 0, 1) := by decide +kernel
theorem dX11_format_1 : decode cX11_format 1 = .ok (.istore_n 3, 1) := by decide +kernel
theorem dX11_format_2 : decode cX11_format 2 = .ok (.iload_n 3, 1) := by decide +kernel
theorem dX11_format_3 : decode cX11_format 3 = .ok (.bipush 32, 2) := by decide +kernel
theorem dX11_format_5 : decode cX11_format 5 = .ok (.if_icmp .ge 21, 3) := by decide +kernel
theorem dX11_format_8 : decode cX11_format 8 = .ok (.aload_n 0, 1) := by decide +kernel
theorem dX11_format_9 : decode cX11_format 9 = .ok (.getfield 7, 3) := by decide +kernel
theorem dX11_format_12 : decode cX11_format 12 = .ok (.bipush 32, 2) := by decide +kernel
theorem dX11_format_14 : decode cX11_format 14 = .ok (.iload_n 1, 1) := by decide +kernel
theorem dX11_format_15 : decode cX11_format 15 = .ok (.imul, 1) := by decide +kernel
theorem dX11_format_16 : decode cX11_format 16 = .ok (.iload_n 3, 1) := by decide +kernel
theorem dX11_format_17 : decode cX11_format 17 = .ok (.iadd, 1) := by decide +kernel
theorem dX11_format_18 : decode cX11_format 18 = .ok (.iconst 0, 1) := by decide +kernel
theorem dX11_format_19 : decode cX11_format 19 = .ok (.iastore, 1) := by decide +kernel
theorem dX11_format_20 : decode cX11_format 20 = .ok (.iinc 3 1, 3) := by decide +kernel
theorem dX11_format_23 : decode cX11_format 23 = .ok (.goto (-21), 3) := by decide +kernel
theorem dX11_format_26 : decode cX11_format 26 = .ok (.iload_n 2, 1) := by decide +kernel
theorem dX11_format_27 : decode cX11_format 27 = .ok (.iconst 2, 1) := by decide +kernel
theorem dX11_format_28 : decode cX11_format 28 = .ok (.if_icmp .ne 30, 3) := by decide +kernel
theorem dX11_format_31 : decode cX11_format 31 = .ok (.aload_n 0, 1) := by decide +kernel
theorem dX11_format_32 : decode cX11_format 32 = .ok (.getfield 7, 3) := by decide +kernel
theorem dX11_format_35 : decode cX11_format 35 = .ok (.bipush 32, 2) := by decide +kernel
theorem dX11_format_37 : decode cX11_format 37 = .ok (.iload_n 1, 1) := by decide +kernel
theorem dX11_format_38 : decode cX11_format 38 = .ok (.imul, 1) := by decide +kernel
theorem dX11_format_39 : decode cX11_format 39 = .ok (.bipush 6, 2) := by decide +kernel
theorem dX11_format_41 : decode cX11_format 41 = .ok (.iadd, 1) := by decide +kernel
theorem dX11_format_42 : decode cX11_format 42 = .ok (.iconst 1, 1) := by decide +kernel
theorem dX11_format_43 : decode cX11_format 43 = .ok (.iastore, 1) := by decide +kernel
theorem dX11_format_44 : decode cX11_format 44 = .ok (.aload_n 0, 1) := by decide +kernel
theorem dX11_format_45 : decode cX11_format 45 = .ok (.getfield 7, 3) := by decide +kernel
theorem dX11_format_48 : decode cX11_format 48 = .ok (.bipush 32, 2) := by decide +kernel
theorem dX11_format_50 : decode cX11_format 50 = .ok (.iload_n 1, 1) := by decide +kernel
theorem dX11_format_51 : decode cX11_format 51 = .ok (.imul, 1) := by decide +kernel
theorem dX11_format_52 : decode cX11_format 52 = .ok (.bipush 7, 2) := by decide +kernel
theorem dX11_format_54 : decode cX11_format 54 = .ok (.iadd, 1) := by decide +kernel
theorem dX11_format_55 : decode cX11_format 55 = .ok (.bipush 38, 2) := by decide +kernel
theorem dX11_format_57 : decode cX11_format 57 = .ok (.iastore, 1) := by decide +kernel
theorem dX11_format_58 : decode cX11_format 58 = .ok (.aload_n 0, 1) := by decide +kernel
theorem dX11_format_59 : decode cX11_format 59 = .ok (.getfield 22, 3) := by decide +kernel
theorem dX11_format_62 : decode cX11_format 62 = .ok (.iload_n 1, 1) := by decide +kernel
theorem dX11_format_63 : decode cX11_format 63 = .ok (.iconst 0, 1) := by decide +kernel
theorem dX11_format_64 : decode cX11_format 64 = .ok (.iastore, 1) := by decide +kernel
theorem dX11_format_65 : decode cX11_format 65 = .ok (.return_, 1) := by decide +kernel
theorem dX11_store_0 : decode cX11_store 0 = .ok (.aload_n 0, 1) := by decide +kernel
theorem dX11_store_1 : decode cX11_store 1 = .ok (.iconst 0, 1) := by decide +kernel
theorem dX11_store_2 : decode cX11_store 2 = .ok (.putfield 104, 3) := by decide +kernel
theorem dX11_store_5 : decode cX11_store 5 = .ok (.iload_n 1, 1) := by decide +kernel
theorem dX11_store_6 : decode cX11_store 6 = .ok (.iconst 0, 1) := by decide +kernel
theorem dX11_store_7 : decode cX11_store 7 = .ok (.iconst 2, 1) := by decide +kernel
theorem dX11_store_8 : decode cX11_store 8 = .ok (.invokestatic 110, 3) := by decide +kernel
theorem dX11_store_11 : decode cX11_store 11 = .ok (.ifCond .ne 10, 3) := by decide +kernel
theorem dX11_store_14 : decode cX11_store 14 = .ok (.aload_n 0, 1) := by decide +kernel
theorem dX11_store_15 : decode cX11_store 15 = .ok (.bipush (-2), 2) := by decide +kernel
theorem dX11_store_17 : decode cX11_store 17 = .ok (.invokevirtual 114, 3) := by decide +kernel
theorem dX11_store_20 : decode cX11_store 20 = .ok (.ireturn, 1) := by decide +kernel
theorem dX11_store_21 : decode cX11_store 21 = .ok (.aload_n 0, 1) := by decide +kernel
theorem dX11_store_22 : decode cX11_store 22 = .ok (.iconst 0, 1) := by decide +kernel
theorem dX11_store_23 : decode cX11_store 23 = .ok (.iload_n 1, 1) := by decide +kernel
theorem dX11_store_24 : decode cX11_store 24 = .ok (.invokevirtual 167, 3) := by decide +kernel
theorem dX11_store_27 : decode cX11_store 27 = .ok (.aload_n 0, 1) := by decide +kernel
theorem dX11_store_28 : decode cX11_store 28 = .ok (.iload_n 1, 1) := by decide +kernel
theorem dX11_store_29 : decode cX11_store 29 = .ok (.putfield 25, 3) := by decide +kernel
theorem dX11_store_32 : decode cX11_store 32 = .ok (.iload_n 1, 1) := by decide +kernel
theorem dX11_store_33 : decode cX11_store 33 = .ok (.invokestatic 170, 3) := by decide +kernel
theorem dX11_store_36 : decode cX11_store 36 = .ok (.ireturn, 1) := by decide +kernel
theorem dX11_high_0 : decode cX11_high 0 = .ok (.lload_n 0, 1) := by decide +kernel
theorem dX11_high_1 : decode cX11_high 1 = .ok (.bipush 32, 2) := by decide +kernel
theorem dX11_high_3 : decode cX11_high 3 = .ok (.lshr, 1) := by decide +kernel
theorem dX11_high_4 : decode cX11_high 4 = .ok (.l2i, 1) := by decide +kernel
theorem dX11_high_5 : decode cX11_high 5 = .ok (.ireturn, 1) := by decide +kernel
theorem dX11_joined_0 : decode cX11_joined 0 = .ok (.iload_n 0, 1) := by decide +kernel
theorem dX11_joined_1 : decode cX11_joined 1 = .ok (.i2l, 1) := by decide +kernel
theorem dX11_joined_2 : decode cX11_joined 2 = .ok (.bipush 32, 2) := by decide +kernel
theorem dX11_joined_4 : decode cX11_joined 4 = .ok (.lshl, 1) := by decide +kernel
theorem dX11_joined_5 : decode cX11_joined 5 = .ok (.iload_n 1, 1) := by decide +kernel
theorem dX11_joined_6 : decode cX11_joined 6 = .ok (.i2l, 1) := by decide +kernel
theorem dX11_joined_7 : decode cX11_joined 7 = .ok (.ldc2_w 173, 3) := by decide +kernel
theorem dX11_joined_10 : decode cX11_joined 10 = .ok (.land, 1) := by decide +kernel
theorem dX11_joined_11 : decode cX11_joined 11 = .ok (.lor, 1) := by decide +kernel
theorem dX11_joined_12 : decode cX11_joined 12 = .ok (.lreturn, 1) := by decide +kernel
theorem dX11_root_0 : decode cX11_root 0 = .ok (.aload_n 0, 1) := by decide +kernel
theorem dX11_root_1 : decode cX11_root 1 = .ok (.iload_n 1, 1) := by decide +kernel
theorem dX11_root_2 : decode cX11_root 2 = .ok (.iload_n 2, 1) := by decide +kernel
theorem dX11_root_3 : decode cX11_root 3 = .ok (.iconst 0, 1) := by decide +kernel
theorem dX11_root_4 : decode cX11_root 4 = .ok (.invokevirtual 129, 3) := by decide +kernel
theorem dX11_root_7 : decode cX11_root 7 = .ok (.istore_n 3, 1) := by decide +kernel
theorem dX11_root_8 : decode cX11_root 8 = .ok (.iload_n 3, 1) := by decide +kernel
theorem dX11_root_9 : decode cX11_root 9 = .ok (.iconst 1, 1) := by decide +kernel
theorem dX11_root_10 : decode cX11_root 10 = .ok (.iand, 1) := by decide +kernel
theorem dX11_root_11 : decode cX11_root 11 = .ok (.iconst 1, 1) := by decide +kernel
theorem dX11_root_12 : decode cX11_root 12 = .ok (.if_icmp .ne 7, 3) := by decide +kernel
theorem dX11_root_15 : decode cX11_root 15 = .ok (.iconst 1, 1) := by decide +kernel
theorem dX11_root_16 : decode cX11_root 16 = .ok (.goto 4, 3) := by decide +kernel
theorem dX11_root_19 : decode cX11_root 19 = .ok (.iconst 0, 1) := by decide +kernel
theorem dX11_root_20 : decode cX11_root 20 = .ok (.istore 4, 2) := by decide +kernel
theorem dX11_root_22 : decode cX11_root 22 = .ok (.iload_n 3, 1) := by decide +kernel
theorem dX11_root_23 : decode cX11_root 23 = .ok (.ifCond .le 39, 3) := by decide +kernel
theorem dX11_root_26 : decode cX11_root 26 = .ok (.iload 4, 2) := by decide +kernel
theorem dX11_root_28 : decode cX11_root 28 = .ok (.iload_n 2, 1) := by decide +kernel
theorem dX11_root_29 : decode cX11_root 29 = .ok (.iconst 3, 1) := by decide +kernel
theorem dX11_root_30 : decode cX11_root 30 = .ok (.if_icmp .ne 7, 3) := by decide +kernel
theorem dX11_root_33 : decode cX11_root 33 = .ok (.iconst 1, 1) := by decide +kernel
theorem dX11_root_34 : decode cX11_root 34 = .ok (.goto 4, 3) := by decide +kernel
theorem dX11_root_37 : decode cX11_root 37 = .ok (.iconst 0, 1) := by decide +kernel
theorem dX11_root_38 : decode cX11_root 38 = .ok (.if_icmp .ne 24, 3) := by decide +kernel
theorem dX11_root_41 : decode cX11_root 41 = .ok (.aload_n 0, 1) := by decide +kernel
theorem dX11_root_42 : decode cX11_root 42 = .ok (.iload_n 1, 1) := by decide +kernel
theorem dX11_root_43 : decode cX11_root 43 = .ok (.iload_n 2, 1) := by decide +kernel
theorem dX11_root_44 : decode cX11_root 44 = .ok (.iconst 1, 1) := by decide +kernel
theorem dX11_root_45 : decode cX11_root 45 = .ok (.invokevirtual 129, 3) := by decide +kernel
theorem dX11_root_48 : decode cX11_root 48 = .ok (.bipush 31, 2) := by decide +kernel
theorem dX11_root_50 : decode cX11_root 50 = .ok (.iload_n 3, 1) := by decide +kernel
theorem dX11_root_51 : decode cX11_root 51 = .ok (.imul, 1) := by decide +kernel
theorem dX11_root_52 : decode cX11_root 52 = .ok (.bipush 7, 2) := by decide +kernel
theorem dX11_root_54 : decode cX11_root 54 = .ok (.iadd, 1) := by decide +kernel
theorem dX11_root_55 : decode cX11_root 55 = .ok (.if_icmp .ne 7, 3) := by decide +kernel
theorem dX11_root_58 : decode cX11_root 58 = .ok (.iload_n 3, 1) := by decide +kernel
theorem dX11_root_59 : decode cX11_root 59 = .ok (.goto 4, 3) := by decide +kernel
theorem dX11_root_62 : decode cX11_root 62 = .ok (.iconst 0, 1) := by decide +kernel
theorem dX11_root_63 : decode cX11_root 63 = .ok (.ireturn, 1) := by decide +kernel
theorem dX11_version_0 : decode cX11_version 0 = .ok (.aload_n 0, 1) := by decide +kernel
theorem dX11_version_1 : decode cX11_version 1 = .ok (.iload_n 1, 1) := by decide +kernel
theorem dX11_version_2 : decode cX11_version 2 = .ok (.iconst 3, 1) := by decide +kernel
theorem dX11_version_3 : decode cX11_version 3 = .ok (.invokevirtual 175, 3) := by decide +kernel
theorem dX11_version_6 : decode cX11_version 6 = .ok (.istore_n 2, 1) := by decide +kernel
theorem dX11_version_7 : decode cX11_version 7 = .ok (.aload_n 0, 1) := by decide +kernel
theorem dX11_version_8 : decode cX11_version 8 = .ok (.iload_n 1, 1) := by decide +kernel
theorem dX11_version_9 : decode cX11_version 9 = .ok (.bipush 7, 2) := by decide +kernel
theorem dX11_version_11 : decode cX11_version 11 = .ok (.invokevirtual 175, 3) := by decide +kernel
theorem dX11_version_14 : decode cX11_version 14 = .ok (.istore_n 3, 1) := by decide +kernel
theorem dX11_version_15 : decode cX11_version 15 = .ok (.iload_n 2, 1) := by decide +kernel
theorem dX11_version_16 : decode cX11_version 16 = .ok (.iload_n 3, 1) := by decide +kernel
theorem dX11_version_17 : decode cX11_version 17 = .ok (.if_icmp .le 7, 3) := by decide +kernel
theorem dX11_version_20 : decode cX11_version 20 = .ok (.iload_n 2, 1) := by decide +kernel
theorem dX11_version_21 : decode cX11_version 21 = .ok (.goto 4, 3) := by decide +kernel
theorem dX11_version_24 : decode cX11_version 24 = .ok (.iload_n 3, 1) := by decide +kernel
theorem dX11_version_25 : decode cX11_version 25 = .ok (.ireturn, 1) := by decide +kernel
theorem dX11_placeOf_0 : decode cX11_placeOf 0 = .ok (.iload_n 1, 1) := by decide +kernel
theorem dX11_placeOf_1 : decode cX11_placeOf 1 = .ok (.iconst 1, 1) := by decide +kernel
theorem dX11_placeOf_2 : decode cX11_placeOf 2 = .ok (.iand, 1) := by decide +kernel
theorem dX11_placeOf_3 : decode cX11_placeOf 3 = .ok (.iconst 1, 1) := by decide +kernel
theorem dX11_placeOf_4 : decode cX11_placeOf 4 = .ok (.if_icmp .ne 7, 3) := by decide +kernel
theorem dX11_placeOf_7 : decode cX11_placeOf 7 = .ok (.iload_n 0, 1) := by decide +kernel
theorem dX11_placeOf_8 : decode cX11_placeOf 8 = .ok (.goto 6, 3) := by decide +kernel
theorem dX11_placeOf_11 : decode cX11_placeOf 11 = .ok (.iconst 4, 1) := by decide +kernel
theorem dX11_placeOf_12 : decode cX11_placeOf 12 = .ok (.iload_n 0, 1) := by decide +kernel
theorem dX11_placeOf_13 : decode cX11_placeOf 13 = .ok (.iadd, 1) := by decide +kernel
theorem dX11_placeOf_14 : decode cX11_placeOf 14 = .ok (.ireturn, 1) := by decide +kernel
theorem dX11_keyOf_0 : decode cX11_keyOf 0 = .ok (.iload_n 2, 1) := by decide +kernel
theorem dX11_keyOf_1 : decode cX11_keyOf 1 = .ok (.iconst 2, 1) := by decide +kernel
theorem dX11_keyOf_2 : decode cX11_keyOf 2 = .ok (.if_icmp .ne 11, 3) := by decide +kernel
theorem dX11_keyOf_5 : decode cX11_keyOf 5 = .ok (.aload_n 0, 1) := by decide +kernel
theorem dX11_keyOf_6 : decode cX11_keyOf 6 = .ok (.iload_n 1, 1) := by decide +kernel
theorem dX11_keyOf_7 : decode cX11_keyOf 7 = .ok (.invokevirtual 178, 3) := by decide +kernel
theorem dX11_keyOf_10 : decode cX11_keyOf 10 = .ok (.goto 4, 3) := by decide +kernel
theorem dX11_keyOf_13 : decode cX11_keyOf 13 = .ok (.iconst 1, 1) := by decide +kernel
theorem dX11_keyOf_14 : decode cX11_keyOf 14 = .ok (.istore 4, 2) := by decide +kernel
theorem dX11_keyOf_16 : decode cX11_keyOf 16 = .ok (.iload 4, 2) := by decide +kernel
theorem dX11_keyOf_18 : decode cX11_keyOf 18 = .ok (.ifCond .ne 5, 3) := by decide +kernel
theorem dX11_keyOf_21 : decode cX11_keyOf 21 = .ok (.lconst 0, 1) := by decide +kernel
theorem dX11_keyOf_22 : decode cX11_keyOf 22 = .ok (.lreturn, 1) := by decide +kernel
theorem dX11_keyOf_23 : decode cX11_keyOf 23 = .ok (.iload_n 3, 1) := by decide +kernel
theorem dX11_keyOf_24 : decode cX11_keyOf 24 = .ok (.iload 4, 2) := by decide +kernel
theorem dX11_keyOf_26 : decode cX11_keyOf 26 = .ok (.invokestatic 181, 3) := by decide +kernel
theorem dX11_keyOf_29 : decode cX11_keyOf 29 = .ok (.istore 5, 2) := by decide +kernel
theorem dX11_keyOf_31 : decode cX11_keyOf 31 = .ok (.aload_n 0, 1) := by decide +kernel
theorem dX11_keyOf_32 : decode cX11_keyOf 32 = .ok (.iload_n 1, 1) := by decide +kernel
theorem dX11_keyOf_33 : decode cX11_keyOf 33 = .ok (.iload 5, 2) := by decide +kernel
theorem dX11_keyOf_35 : decode cX11_keyOf 35 = .ok (.iconst 0, 1) := by decide +kernel
theorem dX11_keyOf_36 : decode cX11_keyOf 36 = .ok (.invokevirtual 129, 3) := by decide +kernel
theorem dX11_keyOf_39 : decode cX11_keyOf 39 = .ok (.aload_n 0, 1) := by decide +kernel
theorem dX11_keyOf_40 : decode cX11_keyOf 40 = .ok (.iload_n 1, 1) := by decide +kernel
theorem dX11_keyOf_41 : decode cX11_keyOf 41 = .ok (.iload 5, 2) := by decide +kernel
theorem dX11_keyOf_43 : decode cX11_keyOf 43 = .ok (.iconst 1, 1) := by decide +kernel
theorem dX11_keyOf_44 : decode cX11_keyOf 44 = .ok (.invokevirtual 129, 3) := by decide +kernel
theorem dX11_keyOf_47 : decode cX11_keyOf 47 = .ok (.invokestatic 184, 3) := by decide +kernel
theorem dX11_keyOf_50 : decode cX11_keyOf 50 = .ok (.lreturn, 1) := by decide +kernel
theorem dX11_sum_0 : decode cX11_sum 0 = .ok (.bipush 31, 2) := by decide +kernel
theorem dX11_sum_2 : decode cX11_sum 2 = .ok (.iload_n 0, 1) := by decide +kernel
theorem dX11_sum_3 : decode cX11_sum 3 = .ok (.imul, 1) := by decide +kernel
theorem dX11_sum_4 : decode cX11_sum 4 = .ok (.iload_n 1, 1) := by decide +kernel
theorem dX11_sum_5 : decode cX11_sum 5 = .ok (.iadd, 1) := by decide +kernel
theorem dX11_sum_6 : decode cX11_sum 6 = .ok (.istore 7, 2) := by decide +kernel
theorem dX11_sum_8 : decode cX11_sum 8 = .ok (.bipush 31, 2) := by decide +kernel
theorem dX11_sum_10 : decode cX11_sum 10 = .ok (.iload 7, 2) := by decide +kernel
theorem dX11_sum_12 : decode cX11_sum 12 = .ok (.imul, 1) := by decide +kernel
theorem dX11_sum_13 : decode cX11_sum 13 = .ok (.iload_n 2, 1) := by decide +kernel
theorem dX11_sum_14 : decode cX11_sum 14 = .ok (.iadd, 1) := by decide +kernel
theorem dX11_sum_15 : decode cX11_sum 15 = .ok (.istore 7, 2) := by decide +kernel
theorem dX11_sum_17 : decode cX11_sum 17 = .ok (.bipush 31, 2) := by decide +kernel
theorem dX11_sum_19 : decode cX11_sum 19 = .ok (.iload 7, 2) := by decide +kernel
theorem dX11_sum_21 : decode cX11_sum 21 = .ok (.imul, 1) := by decide +kernel
theorem dX11_sum_22 : decode cX11_sum 22 = .ok (.iload_n 3, 1) := by decide +kernel
theorem dX11_sum_23 : decode cX11_sum 23 = .ok (.iadd, 1) := by decide +kernel
theorem dX11_sum_24 : decode cX11_sum 24 = .ok (.istore 7, 2) := by decide +kernel
theorem dX11_sum_26 : decode cX11_sum 26 = .ok (.bipush 31, 2) := by decide +kernel
theorem dX11_sum_28 : decode cX11_sum 28 = .ok (.iload 7, 2) := by decide +kernel
theorem dX11_sum_30 : decode cX11_sum 30 = .ok (.imul, 1) := by decide +kernel
theorem dX11_sum_31 : decode cX11_sum 31 = .ok (.iload 4, 2) := by decide +kernel
theorem dX11_sum_33 : decode cX11_sum 33 = .ok (.iadd, 1) := by decide +kernel
theorem dX11_sum_34 : decode cX11_sum 34 = .ok (.istore 7, 2) := by decide +kernel
theorem dX11_sum_36 : decode cX11_sum 36 = .ok (.bipush 31, 2) := by decide +kernel
theorem dX11_sum_38 : decode cX11_sum 38 = .ok (.iload 7, 2) := by decide +kernel
theorem dX11_sum_40 : decode cX11_sum 40 = .ok (.imul, 1) := by decide +kernel
theorem dX11_sum_41 : decode cX11_sum 41 = .ok (.iload 5, 2) := by decide +kernel
theorem dX11_sum_43 : decode cX11_sum 43 = .ok (.iadd, 1) := by decide +kernel
theorem dX11_sum_44 : decode cX11_sum 44 = .ok (.istore 7, 2) := by decide +kernel
theorem dX11_sum_46 : decode cX11_sum 46 = .ok (.iconst 2, 1) := by decide +kernel
theorem dX11_sum_47 : decode cX11_sum 47 = .ok (.bipush 31, 2) := by decide +kernel
theorem dX11_sum_49 : decode cX11_sum 49 = .ok (.iload 7, 2) := by decide +kernel
theorem dX11_sum_51 : decode cX11_sum 51 = .ok (.imul, 1) := by decide +kernel
theorem dX11_sum_52 : decode cX11_sum 52 = .ok (.iload 6, 2) := by decide +kernel
theorem dX11_sum_54 : decode cX11_sum 54 = .ok (.iadd, 1) := by decide +kernel
theorem dX11_sum_55 : decode cX11_sum 55 = .ok (.imul, 1) := by decide +kernel
theorem dX11_sum_56 : decode cX11_sum 56 = .ok (.iconst 1, 1) := by decide +kernel
theorem dX11_sum_57 : decode cX11_sum 57 = .ok (.iadd, 1) := by decide +kernel
theorem dX11_sum_58 : decode cX11_sum 58 = .ok (.ireturn, 1) := by decide +kernel
theorem dX11_plan_0 : decode cX11_plan 0 = .ok (.aload_n 0, 1) := by decide +kernel
theorem dX11_plan_1 : decode cX11_plan 1 = .ok (.getfield 55, 3) := by decide +kernel
theorem dX11_plan_4 : decode cX11_plan 4 = .ok (.aload_n 0, 1) := by decide +kernel
theorem dX11_plan_5 : decode cX11_plan 5 = .ok (.getfield 188, 3) := by decide +kernel
theorem dX11_plan_8 : decode cX11_plan 8 = .ok (.iload_n 1, 1) := by decide +kernel
theorem dX11_plan_9 : decode cX11_plan 9 = .ok (.iastore, 1) := by decide +kernel
theorem dX11_plan_10 : decode cX11_plan 10 = .ok (.aload_n 0, 1) := by decide +kernel
theorem dX11_plan_11 : decode cX11_plan 11 = .ok (.getfield 58, 3) := by decide +kernel
theorem dX11_plan_14 : decode cX11_plan 14 = .ok (.aload_n 0, 1) := by decide +kernel
theorem dX11_plan_15 : decode cX11_plan 15 = .ok (.getfield 188, 3) := by decide +kernel
theorem dX11_plan_18 : decode cX11_plan 18 = .ok (.iload_n 2, 1) := by decide +kernel
theorem dX11_plan_19 : decode cX11_plan 19 = .ok (.iastore, 1) := by decide +kernel
theorem dX11_plan_20 : decode cX11_plan 20 = .ok (.aload_n 0, 1) := by decide +kernel
theorem dX11_plan_21 : decode cX11_plan 21 = .ok (.getfield 61, 3) := by decide +kernel
theorem dX11_plan_24 : decode cX11_plan 24 = .ok (.aload_n 0, 1) := by decide +kernel
theorem dX11_plan_25 : decode cX11_plan 25 = .ok (.getfield 188, 3) := by decide +kernel
theorem dX11_plan_28 : decode cX11_plan 28 = .ok (.iload_n 3, 1) := by decide +kernel
theorem dX11_plan_29 : decode cX11_plan 29 = .ok (.iastore, 1) := by decide +kernel
theorem dX11_plan_30 : decode cX11_plan 30 = .ok (.aload_n 0, 1) := by decide +kernel
theorem dX11_plan_31 : decode cX11_plan 31 = .ok (.dup, 1) := by decide +kernel
theorem dX11_plan_32 : decode cX11_plan 32 = .ok (.getfield 188, 3) := by decide +kernel
theorem dX11_plan_35 : decode cX11_plan 35 = .ok (.iconst 1, 1) := by decide +kernel
theorem dX11_plan_36 : decode cX11_plan 36 = .ok (.iadd, 1) := by decide +kernel
theorem dX11_plan_37 : decode cX11_plan 37 = .ok (.putfield 188, 3) := by decide +kernel
theorem dX11_plan_40 : decode cX11_plan 40 = .ok (.return_, 1) := by decide +kernel
theorem dX11_planFence_0 : decode cX11_planFence 0 = .ok (.aload_n 0, 1) := by decide +kernel
theorem dX11_planFence_1 : decode cX11_planFence 1 = .ok (.getfield 29, 3) := by decide +kernel
theorem dX11_planFence_4 : decode cX11_planFence 4 = .ok (.iconst 4, 1) := by decide +kernel
theorem dX11_planFence_5 : decode cX11_planFence 5 = .ok (.iload_n 1, 1) := by decide +kernel
theorem dX11_planFence_6 : decode cX11_planFence 6 = .ok (.imul, 1) := by decide +kernel
theorem dX11_planFence_7 : decode cX11_planFence 7 = .ok (.iload_n 2, 1) := by decide +kernel
theorem dX11_planFence_8 : decode cX11_planFence 8 = .ok (.iadd, 1) := by decide +kernel
theorem dX11_planFence_9 : decode cX11_planFence 9 = .ok (.baload, 1) := by decide +kernel
theorem dX11_planFence_10 : decode cX11_planFence 10 = .ok (.ifCond .ne 10, 3) := by decide +kernel
theorem dX11_planFence_13 : decode cX11_planFence 13 = .ok (.aload_n 0, 1) := by decide +kernel
theorem dX11_planFence_14 : decode cX11_planFence 14 = .ok (.iconst (-1), 1) := by decide +kernel
theorem dX11_planFence_15 : decode cX11_planFence 15 = .ok (.iconst 0, 1) := by decide +kernel
theorem dX11_planFence_16 : decode cX11_planFence 16 = .ok (.iconst 0, 1) := by decide +kernel
theorem dX11_planFence_17 : decode cX11_planFence 17 = .ok (.invokevirtual 191, 3) := by decide +kernel
theorem dX11_planFence_20 : decode cX11_planFence 20 = .ok (.return_, 1) := by decide +kernel
theorem dX11_planEnd_0 : decode cX11_planEnd 0 = .ok (.aload_n 0, 1) := by decide +kernel
theorem dX11_planEnd_1 : decode cX11_planEnd 1 = .ok (.iload_n 1, 1) := by decide +kernel
theorem dX11_planEnd_2 : decode cX11_planEnd 2 = .ok (.iconst 2, 1) := by decide +kernel
theorem dX11_planEnd_3 : decode cX11_planEnd 3 = .ok (.invokevirtual 195, 3) := by decide +kernel
theorem dX11_planEnd_6 : decode cX11_planEnd 6 = .ok (.aload_n 0, 1) := by decide +kernel
theorem dX11_planEnd_7 : decode cX11_planEnd 7 = .ok (.iconst 3, 1) := by decide +kernel
theorem dX11_planEnd_8 : decode cX11_planEnd 8 = .ok (.iconst 0, 1) := by decide +kernel
theorem dX11_planEnd_9 : decode cX11_planEnd 9 = .ok (.iconst 0, 1) := by decide +kernel
theorem dX11_planEnd_10 : decode cX11_planEnd 10 = .ok (.invokevirtual 191, 3) := by decide +kernel
theorem dX11_planEnd_13 : decode cX11_planEnd 13 = .ok (.aload_n 0, 1) := by decide +kernel
theorem dX11_planEnd_14 : decode cX11_planEnd 14 = .ok (.iload_n 1, 1) := by decide +kernel
theorem dX11_planEnd_15 : decode cX11_planEnd 15 = .ok (.iconst 3, 1) := by decide +kernel
theorem dX11_planEnd_16 : decode cX11_planEnd 16 = .ok (.invokevirtual 195, 3) := by decide +kernel
theorem dX11_planEnd_19 : decode cX11_planEnd 19 = .ok (.return_, 1) := by decide +kernel
theorem dX11_planChange_0 : decode cX11_planChange 0 = .ok (.aload_n 0, 1) := by decide +kernel
theorem dX11_planChange_1 : decode cX11_planChange 1 = .ok (.iconst 0, 1) := by decide +kernel
theorem dX11_planChange_2 : decode cX11_planChange 2 = .ok (.putfield 188, 3) := by decide +kernel
theorem dX11_planChange_5 : decode cX11_planChange 5 = .ok (.iload 6, 2) := by decide +kernel
theorem dX11_planChange_7 : decode cX11_planChange 7 = .ok (.bipush (-9), 2) := by decide +kernel
theorem dX11_planChange_9 : decode cX11_planChange 9 = .ok (.if_icmp .eq 7, 3) := by decide +kernel
theorem dX11_planChange_12 : decode cX11_planChange 12 = .ok (.iconst 1, 1) := by decide +kernel
theorem dX11_planChange_13 : decode cX11_planChange 13 = .ok (.goto 4, 3) := by decide +kernel
theorem dX11_planChange_16 : decode cX11_planChange 16 = .ok (.iconst 0, 1) := by decide +kernel
theorem dX11_planChange_17 : decode cX11_planChange 17 = .ok (.istore 9, 2) := by decide +kernel
theorem dX11_planChange_19 : decode cX11_planChange 19 = .ok (.iload_n 2, 1) := by decide +kernel
theorem dX11_planChange_20 : decode cX11_planChange 20 = .ok (.ifCond .ne 38, 3) := by decide +kernel
theorem dX11_planChange_23 : decode cX11_planChange 23 = .ok (.aload_n 0, 1) := by decide +kernel
theorem dX11_planChange_24 : decode cX11_planChange 24 = .ok (.iload_n 3, 1) := by decide +kernel
theorem dX11_planChange_25 : decode cX11_planChange 25 = .ok (.lload 4, 2) := by decide +kernel
theorem dX11_planChange_27 : decode cX11_planChange 27 = .ok (.invokestatic 198, 3) := by decide +kernel
theorem dX11_planChange_30 : decode cX11_planChange 30 = .ok (.lload 4, 2) := by decide +kernel
theorem dX11_planChange_32 : decode cX11_planChange 32 = .ok (.l2i, 1) := by decide +kernel
theorem dX11_planChange_33 : decode cX11_planChange 33 = .ok (.invokevirtual 191, 3) := by decide +kernel
theorem dX11_planChange_36 : decode cX11_planChange 36 = .ok (.iload 9, 2) := by decide +kernel
theorem dX11_planChange_38 : decode cX11_planChange 38 = .ok (.ifCond .eq 302, 3) := by decide +kernel
theorem dX11_planChange_41 : decode cX11_planChange 41 = .ok (.aload_n 0, 1) := by decide +kernel
theorem dX11_planChange_42 : decode cX11_planChange 42 = .ok (.iload 6, 2) := by decide +kernel
theorem dX11_planChange_44 : decode cX11_planChange 44 = .ok (.lload 7, 2) := by decide +kernel
theorem dX11_planChange_46 : decode cX11_planChange 46 = .ok (.invokestatic 198, 3) := by decide +kernel
theorem dX11_planChange_49 : decode cX11_planChange 49 = .ok (.lload 7, 2) := by decide +kernel
theorem dX11_planChange_51 : decode cX11_planChange 51 = .ok (.l2i, 1) := by decide +kernel
theorem dX11_planChange_52 : decode cX11_planChange 52 = .ok (.invokevirtual 191, 3) := by decide +kernel
theorem dX11_planChange_55 : decode cX11_planChange 55 = .ok (.goto 285, 3) := by decide +kernel
theorem dX11_planChange_58 : decode cX11_planChange 58 = .ok (.iload_n 2, 1) := by decide +kernel
theorem dX11_planChange_59 : decode cX11_planChange 59 = .ok (.iconst 1, 1) := by decide +kernel
theorem dX11_planChange_60 : decode cX11_planChange 60 = .ok (.if_icmp .ne 164, 3) := by decide +kernel
theorem dX11_planChange_63 : decode cX11_planChange 63 = .ok (.iload 9, 2) := by decide +kernel
theorem dX11_planChange_65 : decode cX11_planChange 65 = .ok (.ifCond .eq 7, 3) := by decide +kernel
theorem dX11_planChange_68 : decode cX11_planChange 68 = .ok (.iconst 2, 1) := by decide +kernel
theorem dX11_planChange_69 : decode cX11_planChange 69 = .ok (.goto 4, 3) := by decide +kernel
theorem dX11_planChange_72 : decode cX11_planChange 72 = .ok (.iconst 1, 1) := by decide +kernel
theorem dX11_planChange_73 : decode cX11_planChange 73 = .ok (.istore 10, 2) := by decide +kernel
theorem dX11_planChange_75 : decode cX11_planChange 75 = .ok (.iload 9, 2) := by decide +kernel
theorem dX11_planChange_77 : decode cX11_planChange 77 = .ok (.ifCond .eq 8, 3) := by decide +kernel
theorem dX11_planChange_80 : decode cX11_planChange 80 = .ok (.iload 6, 2) := by decide +kernel
theorem dX11_planChange_82 : decode cX11_planChange 82 = .ok (.goto 4, 3) := by decide +kernel
theorem dX11_planChange_85 : decode cX11_planChange 85 = .ok (.iconst (-1), 1) := by decide +kernel
theorem dX11_planChange_86 : decode cX11_planChange 86 = .ok (.istore 11, 2) := by decide +kernel
theorem dX11_planChange_88 : decode cX11_planChange 88 = .ok (.iload 9, 2) := by decide +kernel
theorem dX11_planChange_90 : decode cX11_planChange 90 = .ok (.ifCond .eq 11, 3) := by decide +kernel
theorem dX11_planChange_93 : decode cX11_planChange 93 = .ok (.lload 7, 2) := by decide +kernel
theorem dX11_planChange_95 : decode cX11_planChange 95 = .ok (.invokestatic 198, 3) := by decide +kernel
theorem dX11_planChange_98 : decode cX11_planChange 98 = .ok (.goto 4, 3) := by decide +kernel
theorem dX11_planChange_101 : decode cX11_planChange 101 = .ok (.iconst 0, 1) := by decide +kernel
theorem dX11_planChange_102 : decode cX11_planChange 102 = .ok (.istore 12, 2) := by decide +kernel
theorem dX11_planChange_104 : decode cX11_planChange 104 = .ok (.iload 9, 2) := by decide +kernel
theorem dX11_planChange_106 : decode cX11_planChange 106 = .ok (.ifCond .eq 9, 3) := by decide +kernel
theorem dX11_planChange_109 : decode cX11_planChange 109 = .ok (.lload 7, 2) := by decide +kernel
theorem dX11_planChange_111 : decode cX11_planChange 111 = .ok (.l2i, 1) := by decide +kernel
theorem dX11_planChange_112 : decode cX11_planChange 112 = .ok (.goto 4, 3) := by decide +kernel
theorem dX11_planChange_115 : decode cX11_planChange 115 = .ok (.iconst 0, 1) := by decide +kernel
theorem dX11_planChange_116 : decode cX11_planChange 116 = .ok (.istore 13, 2) := by decide +kernel
theorem dX11_planChange_118 : decode cX11_planChange 118 = .ok (.aload_n 0, 1) := by decide +kernel
theorem dX11_planChange_119 : decode cX11_planChange 119 = .ok (.iconst 4, 1) := by decide +kernel
theorem dX11_planChange_120 : decode cX11_planChange 120 = .ok (.iload_n 3, 1) := by decide +kernel
theorem dX11_planChange_121 : decode cX11_planChange 121 = .ok (.lload 4, 2) := by decide +kernel
theorem dX11_planChange_123 : decode cX11_planChange 123 = .ok (.invokestatic 198, 3) := by decide +kernel
theorem dX11_planChange_126 : decode cX11_planChange 126 = .ok (.invokevirtual 191, 3) := by decide +kernel
theorem dX11_planChange_129 : decode cX11_planChange 129 = .ok (.aload_n 0, 1) := by decide +kernel
theorem dX11_planChange_130 : decode cX11_planChange 130 = .ok (.iconst 5, 1) := by decide +kernel
theorem dX11_planChange_131 : decode cX11_planChange 131 = .ok (.lload 4, 2) := by decide +kernel
theorem dX11_planChange_133 : decode cX11_planChange 133 = .ok (.l2i, 1) := by decide +kernel
theorem dX11_planChange_134 : decode cX11_planChange 134 = .ok (.iload 11, 2) := by decide +kernel
theorem dX11_planChange_136 : decode cX11_planChange 136 = .ok (.invokevirtual 191, 3) := by decide +kernel
theorem dX11_planChange_139 : decode cX11_planChange 139 = .ok (.aload_n 0, 1) := by decide +kernel
end
section
theorem dX11_planChange_140 : decode cX11_planChange 140 = .ok (.bipush 6, 2) := by decide +kernel
theorem dX11_planChange_142 : decode cX11_planChange 142 = .ok (.iload 12, 2) := by decide +kernel
theorem dX11_planChange_144 : decode cX11_planChange 144 = .ok (.iload 13, 2) := by decide +kernel
theorem dX11_planChange_146 : decode cX11_planChange 146 = .ok (.invokevirtual 191, 3) := by decide +kernel
theorem dX11_planChange_149 : decode cX11_planChange 149 = .ok (.aload_n 0, 1) := by decide +kernel
theorem dX11_planChange_150 : decode cX11_planChange 150 = .ok (.iload_n 2, 1) := by decide +kernel
theorem dX11_planChange_151 : decode cX11_planChange 151 = .ok (.iconst 0, 1) := by decide +kernel
theorem dX11_planChange_152 : decode cX11_planChange 152 = .ok (.invokevirtual 195, 3) := by decide +kernel
theorem dX11_planChange_155 : decode cX11_planChange 155 = .ok (.aload_n 0, 1) := by decide +kernel
theorem dX11_planChange_156 : decode cX11_planChange 156 = .ok (.iconst 3, 1) := by decide +kernel
theorem dX11_planChange_157 : decode cX11_planChange 157 = .ok (.iload 10, 2) := by decide +kernel
theorem dX11_planChange_159 : decode cX11_planChange 159 = .ok (.iload 10, 2) := by decide +kernel
theorem dX11_planChange_161 : decode cX11_planChange 161 = .ok (.iload_n 3, 1) := by decide +kernel
theorem dX11_planChange_162 : decode cX11_planChange 162 = .ok (.lload 4, 2) := by decide +kernel
theorem dX11_planChange_164 : decode cX11_planChange 164 = .ok (.invokestatic 198, 3) := by decide +kernel
theorem dX11_planChange_167 : decode cX11_planChange 167 = .ok (.lload 4, 2) := by decide +kernel
theorem dX11_planChange_169 : decode cX11_planChange 169 = .ok (.l2i, 1) := by decide +kernel
theorem dX11_planChange_170 : decode cX11_planChange 170 = .ok (.iload 11, 2) := by decide +kernel
theorem dX11_planChange_172 : decode cX11_planChange 172 = .ok (.iload 12, 2) := by decide +kernel
theorem dX11_planChange_174 : decode cX11_planChange 174 = .ok (.iload 13, 2) := by decide +kernel
theorem dX11_planChange_176 : decode cX11_planChange 176 = .ok (.invokestatic 202, 3) := by decide +kernel
theorem dX11_planChange_179 : decode cX11_planChange 179 = .ok (.invokevirtual 191, 3) := by decide +kernel
theorem dX11_planChange_182 : decode cX11_planChange 182 = .ok (.aload_n 0, 1) := by decide +kernel
theorem dX11_planChange_183 : decode cX11_planChange 183 = .ok (.iload_n 2, 1) := by decide +kernel
theorem dX11_planChange_184 : decode cX11_planChange 184 = .ok (.iconst 1, 1) := by decide +kernel
theorem dX11_planChange_185 : decode cX11_planChange 185 = .ok (.invokevirtual 195, 3) := by decide +kernel
theorem dX11_planChange_188 : decode cX11_planChange 188 = .ok (.aload_n 0, 1) := by decide +kernel
theorem dX11_planChange_189 : decode cX11_planChange 189 = .ok (.iload_n 3, 1) := by decide +kernel
theorem dX11_planChange_190 : decode cX11_planChange 190 = .ok (.lload 4, 2) := by decide +kernel
theorem dX11_planChange_192 : decode cX11_planChange 192 = .ok (.invokestatic 198, 3) := by decide +kernel
theorem dX11_planChange_195 : decode cX11_planChange 195 = .ok (.lload 4, 2) := by decide +kernel
theorem dX11_planChange_197 : decode cX11_planChange 197 = .ok (.l2i, 1) := by decide +kernel
theorem dX11_planChange_198 : decode cX11_planChange 198 = .ok (.invokevirtual 191, 3) := by decide +kernel
theorem dX11_planChange_201 : decode cX11_planChange 201 = .ok (.iload 9, 2) := by decide +kernel
theorem dX11_planChange_203 : decode cX11_planChange 203 = .ok (.ifCond .eq 13, 3) := by decide +kernel
theorem dX11_planChange_206 : decode cX11_planChange 206 = .ok (.aload_n 0, 1) := by decide +kernel
theorem dX11_planChange_207 : decode cX11_planChange 207 = .ok (.iload 6, 2) := by decide +kernel
theorem dX11_planChange_209 : decode cX11_planChange 209 = .ok (.iload 12, 2) := by decide +kernel
theorem dX11_planChange_211 : decode cX11_planChange 211 = .ok (.iload 13, 2) := by decide +kernel
theorem dX11_planChange_213 : decode cX11_planChange 213 = .ok (.invokevirtual 191, 3) := by decide +kernel
theorem dX11_planChange_216 : decode cX11_planChange 216 = .ok (.aload_n 0, 1) := by decide +kernel
theorem dX11_planChange_217 : decode cX11_planChange 217 = .ok (.iload_n 2, 1) := by decide +kernel
theorem dX11_planChange_218 : decode cX11_planChange 218 = .ok (.invokevirtual 206, 3) := by decide +kernel
theorem dX11_planChange_221 : decode cX11_planChange 221 = .ok (.goto 119, 3) := by decide +kernel
theorem dX11_planChange_224 : decode cX11_planChange 224 = .ok (.aload_n 0, 1) := by decide +kernel
theorem dX11_planChange_225 : decode cX11_planChange 225 = .ok (.iload_n 1, 1) := by decide +kernel
theorem dX11_planChange_226 : decode cX11_planChange 226 = .ok (.invokevirtual 178, 3) := by decide +kernel
theorem dX11_planChange_229 : decode cX11_planChange 229 = .ok (.iconst 1, 1) := by decide +kernel
theorem dX11_planChange_230 : decode cX11_planChange 230 = .ok (.iadd, 1) := by decide +kernel
theorem dX11_planChange_231 : decode cX11_planChange 231 = .ok (.istore 10, 2) := by decide +kernel
theorem dX11_planChange_233 : decode cX11_planChange 233 = .ok (.iconst 0, 1) := by decide +kernel
theorem dX11_planChange_234 : decode cX11_planChange 234 = .ok (.istore 11, 2) := by decide +kernel
theorem dX11_planChange_236 : decode cX11_planChange 236 = .ok (.iload 11, 2) := by decide +kernel
theorem dX11_planChange_238 : decode cX11_planChange 238 = .ok (.iconst 3, 1) := by decide +kernel
theorem dX11_planChange_239 : decode cX11_planChange 239 = .ok (.if_icmp .ge 61, 3) := by decide +kernel
theorem dX11_planChange_242 : decode cX11_planChange 242 = .ok (.iload 11, 2) := by decide +kernel
theorem dX11_planChange_244 : decode cX11_planChange 244 = .ok (.iload_n 3, 1) := by decide +kernel
theorem dX11_planChange_245 : decode cX11_planChange 245 = .ok (.if_icmp .ne 8, 3) := by decide +kernel
theorem dX11_planChange_248 : decode cX11_planChange 248 = .ok (.lload 4, 2) := by decide +kernel
theorem dX11_planChange_250 : decode cX11_planChange 250 = .ok (.goto 23, 3) := by decide +kernel
theorem dX11_planChange_253 : decode cX11_planChange 253 = .ok (.iload 11, 2) := by decide +kernel
theorem dX11_planChange_255 : decode cX11_planChange 255 = .ok (.iload 6, 2) := by decide +kernel
theorem dX11_planChange_257 : decode cX11_planChange 257 = .ok (.if_icmp .ne 8, 3) := by decide +kernel
theorem dX11_planChange_260 : decode cX11_planChange 260 = .ok (.lload 7, 2) := by decide +kernel
theorem dX11_planChange_262 : decode cX11_planChange 262 = .ok (.goto 11, 3) := by decide +kernel
theorem dX11_planChange_265 : decode cX11_planChange 265 = .ok (.aload_n 0, 1) := by decide +kernel
theorem dX11_planChange_266 : decode cX11_planChange 266 = .ok (.iload_n 1, 1) := by decide +kernel
theorem dX11_planChange_267 : decode cX11_planChange 267 = .ok (.iload_n 2, 1) := by decide +kernel
theorem dX11_planChange_268 : decode cX11_planChange 268 = .ok (.iload 11, 2) := by decide +kernel
theorem dX11_planChange_270 : decode cX11_planChange 270 = .ok (.invokevirtual 210, 3) := by decide +kernel
theorem dX11_planChange_273 : decode cX11_planChange 273 = .ok (.lstore 12, 2) := by decide +kernel
theorem dX11_planChange_275 : decode cX11_planChange 275 = .ok (.aload_n 0, 1) := by decide +kernel
theorem dX11_planChange_276 : decode cX11_planChange 276 = .ok (.iload 11, 2) := by decide +kernel
theorem dX11_planChange_278 : decode cX11_planChange 278 = .ok (.iload 10, 2) := by decide +kernel
theorem dX11_planChange_280 : decode cX11_planChange 280 = .ok (.invokestatic 181, 3) := by decide +kernel
theorem dX11_planChange_283 : decode cX11_planChange 283 = .ok (.lload 12, 2) := by decide +kernel
theorem dX11_planChange_285 : decode cX11_planChange 285 = .ok (.invokestatic 198, 3) := by decide +kernel
theorem dX11_planChange_288 : decode cX11_planChange 288 = .ok (.lload 12, 2) := by decide +kernel
theorem dX11_planChange_290 : decode cX11_planChange 290 = .ok (.l2i, 1) := by decide +kernel
theorem dX11_planChange_291 : decode cX11_planChange 291 = .ok (.invokevirtual 191, 3) := by decide +kernel
theorem dX11_planChange_294 : decode cX11_planChange 294 = .ok (.iinc 11 1, 3) := by decide +kernel
theorem dX11_planChange_297 : decode cX11_planChange 297 = .ok (.goto (-61), 3) := by decide +kernel
theorem dX11_planChange_300 : decode cX11_planChange 300 = .ok (.aload_n 0, 1) := by decide +kernel
theorem dX11_planChange_301 : decode cX11_planChange 301 = .ok (.iload_n 2, 1) := by decide +kernel
theorem dX11_planChange_302 : decode cX11_planChange 302 = .ok (.iconst 0, 1) := by decide +kernel
theorem dX11_planChange_303 : decode cX11_planChange 303 = .ok (.invokevirtual 195, 3) := by decide +kernel
theorem dX11_planChange_306 : decode cX11_planChange 306 = .ok (.aload_n 0, 1) := by decide +kernel
theorem dX11_planChange_307 : decode cX11_planChange 307 = .ok (.iload 10, 2) := by decide +kernel
theorem dX11_planChange_309 : decode cX11_planChange 309 = .ok (.iconst 1, 1) := by decide +kernel
theorem dX11_planChange_310 : decode cX11_planChange 310 = .ok (.iand, 1) := by decide +kernel
theorem dX11_planChange_311 : decode cX11_planChange 311 = .ok (.iconst 1, 1) := by decide +kernel
theorem dX11_planChange_312 : decode cX11_planChange 312 = .ok (.if_icmp .ne 7, 3) := by decide +kernel
theorem dX11_planChange_315 : decode cX11_planChange 315 = .ok (.iconst 3, 1) := by decide +kernel
theorem dX11_planChange_316 : decode cX11_planChange 316 = .ok (.goto 5, 3) := by decide +kernel
theorem dX11_planChange_319 : decode cX11_planChange 319 = .ok (.bipush 7, 2) := by decide +kernel
theorem dX11_planChange_321 : decode cX11_planChange 321 = .ok (.iload 10, 2) := by decide +kernel
theorem dX11_planChange_323 : decode cX11_planChange 323 = .ok (.bipush 31, 2) := by decide +kernel
theorem dX11_planChange_325 : decode cX11_planChange 325 = .ok (.iload 10, 2) := by decide +kernel
theorem dX11_planChange_327 : decode cX11_planChange 327 = .ok (.imul, 1) := by decide +kernel
theorem dX11_planChange_328 : decode cX11_planChange 328 = .ok (.bipush 7, 2) := by decide +kernel
theorem dX11_planChange_330 : decode cX11_planChange 330 = .ok (.iadd, 1) := by decide +kernel
theorem dX11_planChange_331 : decode cX11_planChange 331 = .ok (.invokevirtual 191, 3) := by decide +kernel
theorem dX11_planChange_334 : decode cX11_planChange 334 = .ok (.aload_n 0, 1) := by decide +kernel
theorem dX11_planChange_335 : decode cX11_planChange 335 = .ok (.iload_n 2, 1) := by decide +kernel
theorem dX11_planChange_336 : decode cX11_planChange 336 = .ok (.iconst 1, 1) := by decide +kernel
theorem dX11_planChange_337 : decode cX11_planChange 337 = .ok (.invokevirtual 195, 3) := by decide +kernel
theorem dX11_planChange_340 : decode cX11_planChange 340 = .ok (.return_, 1) := by decide +kernel
theorem dX11_planRise_0 : decode cX11_planRise 0 = .ok (.aload_n 0, 1) := by decide +kernel
theorem dX11_planRise_1 : decode cX11_planRise 1 = .ok (.iconst 0, 1) := by decide +kernel
theorem dX11_planRise_2 : decode cX11_planRise 2 = .ok (.putfield 188, 3) := by decide +kernel
theorem dX11_planRise_5 : decode cX11_planRise 5 = .ok (.iload_n 2, 1) := by decide +kernel
theorem dX11_planRise_6 : decode cX11_planRise 6 = .ok (.iconst 1, 1) := by decide +kernel
theorem dX11_planRise_7 : decode cX11_planRise 7 = .ok (.if_icmp .eq 4, 3) := by decide +kernel
theorem dX11_planRise_10 : decode cX11_planRise 10 = .ok (.return_, 1) := by decide +kernel
theorem dX11_planRise_11 : decode cX11_planRise 11 = .ok (.aload_n 0, 1) := by decide +kernel
theorem dX11_planRise_12 : decode cX11_planRise 12 = .ok (.iload_n 1, 1) := by decide +kernel
theorem dX11_planRise_13 : decode cX11_planRise 13 = .ok (.iconst 3, 1) := by decide +kernel
theorem dX11_planRise_14 : decode cX11_planRise 14 = .ok (.iconst 0, 1) := by decide +kernel
theorem dX11_planRise_15 : decode cX11_planRise 15 = .ok (.invokevirtual 129, 3) := by decide +kernel
theorem dX11_planRise_18 : decode cX11_planRise 18 = .ok (.istore_n 3, 1) := by decide +kernel
theorem dX11_planRise_19 : decode cX11_planRise 19 = .ok (.aload_n 0, 1) := by decide +kernel
theorem dX11_planRise_20 : decode cX11_planRise 20 = .ok (.iload_n 1, 1) := by decide +kernel
theorem dX11_planRise_21 : decode cX11_planRise 21 = .ok (.iconst 4, 1) := by decide +kernel
theorem dX11_planRise_22 : decode cX11_planRise 22 = .ok (.iconst 0, 1) := by decide +kernel
theorem dX11_planRise_23 : decode cX11_planRise 23 = .ok (.invokevirtual 129, 3) := by decide +kernel
theorem dX11_planRise_26 : decode cX11_planRise 26 = .ok (.istore 4, 2) := by decide +kernel
theorem dX11_planRise_28 : decode cX11_planRise 28 = .ok (.aload_n 0, 1) := by decide +kernel
theorem dX11_planRise_29 : decode cX11_planRise 29 = .ok (.iload_n 1, 1) := by decide +kernel
theorem dX11_planRise_30 : decode cX11_planRise 30 = .ok (.iconst 5, 1) := by decide +kernel
theorem dX11_planRise_31 : decode cX11_planRise 31 = .ok (.iconst 1, 1) := by decide +kernel
theorem dX11_planRise_32 : decode cX11_planRise 32 = .ok (.invokevirtual 129, 3) := by decide +kernel
theorem dX11_planRise_35 : decode cX11_planRise 35 = .ok (.istore 5, 2) := by decide +kernel
theorem dX11_planRise_37 : decode cX11_planRise 37 = .ok (.iload_n 3, 1) := by decide +kernel
theorem dX11_planRise_38 : decode cX11_planRise 38 = .ok (.iload 4, 2) := by decide +kernel
theorem dX11_planRise_40 : decode cX11_planRise 40 = .ok (.aload_n 0, 1) := by decide +kernel
theorem dX11_planRise_41 : decode cX11_planRise 41 = .ok (.iload_n 1, 1) := by decide +kernel
theorem dX11_planRise_42 : decode cX11_planRise 42 = .ok (.iconst 4, 1) := by decide +kernel
theorem dX11_planRise_43 : decode cX11_planRise 43 = .ok (.iconst 1, 1) := by decide +kernel
theorem dX11_planRise_44 : decode cX11_planRise 44 = .ok (.invokevirtual 129, 3) := by decide +kernel
theorem dX11_planRise_47 : decode cX11_planRise 47 = .ok (.aload_n 0, 1) := by decide +kernel
theorem dX11_planRise_48 : decode cX11_planRise 48 = .ok (.iload_n 1, 1) := by decide +kernel
theorem dX11_planRise_49 : decode cX11_planRise 49 = .ok (.iconst 5, 1) := by decide +kernel
theorem dX11_planRise_50 : decode cX11_planRise 50 = .ok (.iconst 0, 1) := by decide +kernel
theorem dX11_planRise_51 : decode cX11_planRise 51 = .ok (.invokevirtual 129, 3) := by decide +kernel
theorem dX11_planRise_54 : decode cX11_planRise 54 = .ok (.iload 5, 2) := by decide +kernel
theorem dX11_planRise_56 : decode cX11_planRise 56 = .ok (.aload_n 0, 1) := by decide +kernel
theorem dX11_planRise_57 : decode cX11_planRise 57 = .ok (.iload_n 1, 1) := by decide +kernel
theorem dX11_planRise_58 : decode cX11_planRise 58 = .ok (.bipush 6, 2) := by decide +kernel
theorem dX11_planRise_60 : decode cX11_planRise 60 = .ok (.iconst 0, 1) := by decide +kernel
theorem dX11_planRise_61 : decode cX11_planRise 61 = .ok (.invokevirtual 129, 3) := by decide +kernel
theorem dX11_planRise_64 : decode cX11_planRise 64 = .ok (.aload_n 0, 1) := by decide +kernel
theorem dX11_planRise_65 : decode cX11_planRise 65 = .ok (.iload_n 1, 1) := by decide +kernel
theorem dX11_planRise_66 : decode cX11_planRise 66 = .ok (.bipush 6, 2) := by decide +kernel
theorem dX11_planRise_68 : decode cX11_planRise 68 = .ok (.iconst 1, 1) := by decide +kernel
theorem dX11_planRise_69 : decode cX11_planRise 69 = .ok (.invokevirtual 129, 3) := by decide +kernel
theorem dX11_planRise_72 : decode cX11_planRise 72 = .ok (.invokestatic 202, 3) := by decide +kernel
theorem dX11_planRise_75 : decode cX11_planRise 75 = .ok (.istore 6, 2) := by decide +kernel
theorem dX11_planRise_77 : decode cX11_planRise 77 = .ok (.iload_n 3, 1) := by decide +kernel
theorem dX11_planRise_78 : decode cX11_planRise 78 = .ok (.iconst 1, 1) := by decide +kernel
theorem dX11_planRise_79 : decode cX11_planRise 79 = .ok (.iconst 2, 1) := by decide +kernel
theorem dX11_planRise_80 : decode cX11_planRise 80 = .ok (.invokestatic 110, 3) := by decide +kernel
theorem dX11_planRise_83 : decode cX11_planRise 83 = .ok (.ifCond .eq 95, 3) := by decide +kernel
theorem dX11_planRise_86 : decode cX11_planRise 86 = .ok (.aload_n 0, 1) := by decide +kernel
theorem dX11_planRise_87 : decode cX11_planRise 87 = .ok (.iload_n 1, 1) := by decide +kernel
theorem dX11_planRise_88 : decode cX11_planRise 88 = .ok (.iconst 3, 1) := by decide +kernel
theorem dX11_planRise_89 : decode cX11_planRise 89 = .ok (.iconst 1, 1) := by decide +kernel
theorem dX11_planRise_90 : decode cX11_planRise 90 = .ok (.invokevirtual 129, 3) := by decide +kernel
theorem dX11_planRise_93 : decode cX11_planRise 93 = .ok (.iload 6, 2) := by decide +kernel
theorem dX11_planRise_95 : decode cX11_planRise 95 = .ok (.if_icmp .ne 83, 3) := by decide +kernel
theorem dX11_planRise_98 : decode cX11_planRise 98 = .ok (.iload 4, 2) := by decide +kernel
theorem dX11_planRise_100 : decode cX11_planRise 100 = .ok (.iconst 0, 1) := by decide +kernel
theorem dX11_planRise_101 : decode cX11_planRise 101 = .ok (.iconst 2, 1) := by decide +kernel
theorem dX11_planRise_102 : decode cX11_planRise 102 = .ok (.invokestatic 110, 3) := by decide +kernel
theorem dX11_planRise_105 : decode cX11_planRise 105 = .ok (.ifCond .eq 73, 3) := by decide +kernel
theorem dX11_planRise_108 : decode cX11_planRise 108 = .ok (.iload_n 3, 1) := by decide +kernel
theorem dX11_planRise_109 : decode cX11_planRise 109 = .ok (.iconst 1, 1) := by decide +kernel
theorem dX11_planRise_110 : decode cX11_planRise 110 = .ok (.if_icmp .eq 13, 3) := by decide +kernel
theorem dX11_planRise_113 : decode cX11_planRise 113 = .ok (.iload 5, 2) := by decide +kernel
theorem dX11_planRise_115 : decode cX11_planRise 115 = .ok (.iconst 0, 1) := by decide +kernel
theorem dX11_planRise_116 : decode cX11_planRise 116 = .ok (.iconst 2, 1) := by decide +kernel
theorem dX11_planRise_117 : decode cX11_planRise 117 = .ok (.invokestatic 110, 3) := by decide +kernel
theorem dX11_planRise_120 : decode cX11_planRise 120 = .ok (.ifCond .eq 58, 3) := by decide +kernel
theorem dX11_planRise_123 : decode cX11_planRise 123 = .ok (.aload_n 0, 1) := by decide +kernel
theorem dX11_planRise_124 : decode cX11_planRise 124 = .ok (.iload 4, 2) := by decide +kernel
theorem dX11_planRise_126 : decode cX11_planRise 126 = .ok (.aload_n 0, 1) := by decide +kernel
theorem dX11_planRise_127 : decode cX11_planRise 127 = .ok (.iload_n 1, 1) := by decide +kernel
theorem dX11_planRise_128 : decode cX11_planRise 128 = .ok (.iconst 4, 1) := by decide +kernel
theorem dX11_planRise_129 : decode cX11_planRise 129 = .ok (.iconst 1, 1) := by decide +kernel
theorem dX11_planRise_130 : decode cX11_planRise 130 = .ok (.invokevirtual 129, 3) := by decide +kernel
theorem dX11_planRise_133 : decode cX11_planRise 133 = .ok (.aload_n 0, 1) := by decide +kernel
theorem dX11_planRise_134 : decode cX11_planRise 134 = .ok (.iload_n 1, 1) := by decide +kernel
theorem dX11_planRise_135 : decode cX11_planRise 135 = .ok (.iconst 5, 1) := by decide +kernel
theorem dX11_planRise_136 : decode cX11_planRise 136 = .ok (.iconst 0, 1) := by decide +kernel
theorem dX11_planRise_137 : decode cX11_planRise 137 = .ok (.invokevirtual 129, 3) := by decide +kernel
theorem dX11_planRise_140 : decode cX11_planRise 140 = .ok (.invokevirtual 191, 3) := by decide +kernel
theorem dX11_planRise_143 : decode cX11_planRise 143 = .ok (.iload_n 3, 1) := by decide +kernel
theorem dX11_planRise_144 : decode cX11_planRise 144 = .ok (.iconst 2, 1) := by decide +kernel
theorem dX11_planRise_145 : decode cX11_planRise 145 = .ok (.if_icmp .ne 25, 3) := by decide +kernel
theorem dX11_planRise_148 : decode cX11_planRise 148 = .ok (.aload_n 0, 1) := by decide +kernel
theorem dX11_planRise_149 : decode cX11_planRise 149 = .ok (.iload 5, 2) := by decide +kernel
theorem dX11_planRise_151 : decode cX11_planRise 151 = .ok (.aload_n 0, 1) := by decide +kernel
theorem dX11_planRise_152 : decode cX11_planRise 152 = .ok (.iload_n 1, 1) := by decide +kernel
theorem dX11_planRise_153 : decode cX11_planRise 153 = .ok (.bipush 6, 2) := by decide +kernel
theorem dX11_planRise_155 : decode cX11_planRise 155 = .ok (.iconst 0, 1) := by decide +kernel
theorem dX11_planRise_156 : decode cX11_planRise 156 = .ok (.invokevirtual 129, 3) := by decide +kernel
theorem dX11_planRise_159 : decode cX11_planRise 159 = .ok (.aload_n 0, 1) := by decide +kernel
theorem dX11_planRise_160 : decode cX11_planRise 160 = .ok (.iload_n 1, 1) := by decide +kernel
theorem dX11_planRise_161 : decode cX11_planRise 161 = .ok (.bipush 6, 2) := by decide +kernel
theorem dX11_planRise_163 : decode cX11_planRise 163 = .ok (.iconst 1, 1) := by decide +kernel
theorem dX11_planRise_164 : decode cX11_planRise 164 = .ok (.invokevirtual 129, 3) := by decide +kernel
theorem dX11_planRise_167 : decode cX11_planRise 167 = .ok (.invokevirtual 191, 3) := by decide +kernel
theorem dX11_planRise_170 : decode cX11_planRise 170 = .ok (.aload_n 0, 1) := by decide +kernel
theorem dX11_planRise_171 : decode cX11_planRise 171 = .ok (.iload_n 2, 1) := by decide +kernel
theorem dX11_planRise_172 : decode cX11_planRise 172 = .ok (.invokevirtual 206, 3) := by decide +kernel
theorem dX11_planRise_175 : decode cX11_planRise 175 = .ok (.goto 30, 3) := by decide +kernel
theorem dX11_planRise_178 : decode cX11_planRise 178 = .ok (.iload_n 3, 1) := by decide +kernel
theorem dX11_planRise_179 : decode cX11_planRise 179 = .ok (.ifCond .ne 13, 3) := by decide +kernel
theorem dX11_planRise_182 : decode cX11_planRise 182 = .ok (.aload_n 0, 1) := by decide +kernel
theorem dX11_planRise_183 : decode cX11_planRise 183 = .ok (.iload_n 1, 1) := by decide +kernel
theorem dX11_planRise_184 : decode cX11_planRise 184 = .ok (.iconst 3, 1) := by decide +kernel
theorem dX11_planRise_185 : decode cX11_planRise 185 = .ok (.iconst 1, 1) := by decide +kernel
theorem dX11_planRise_186 : decode cX11_planRise 186 = .ok (.invokevirtual 129, 3) := by decide +kernel
theorem dX11_planRise_189 : decode cX11_planRise 189 = .ok (.ifCond .eq 16, 3) := by decide +kernel
theorem dX11_planRise_192 : decode cX11_planRise 192 = .ok (.aload_n 0, 1) := by decide +kernel
theorem dX11_planRise_193 : decode cX11_planRise 193 = .ok (.iconst 3, 1) := by decide +kernel
theorem dX11_planRise_194 : decode cX11_planRise 194 = .ok (.iconst 0, 1) := by decide +kernel
theorem dX11_planRise_195 : decode cX11_planRise 195 = .ok (.iconst 0, 1) := by decide +kernel
theorem dX11_planRise_196 : decode cX11_planRise 196 = .ok (.invokevirtual 191, 3) := by decide +kernel
theorem dX11_planRise_199 : decode cX11_planRise 199 = .ok (.aload_n 0, 1) := by decide +kernel
theorem dX11_planRise_200 : decode cX11_planRise 200 = .ok (.iload_n 2, 1) := by decide +kernel
theorem dX11_planRise_201 : decode cX11_planRise 201 = .ok (.iconst 3, 1) := by decide +kernel
theorem dX11_planRise_202 : decode cX11_planRise 202 = .ok (.invokevirtual 195, 3) := by decide +kernel
theorem dX11_planRise_205 : decode cX11_planRise 205 = .ok (.return_, 1) := by decide +kernel
theorem dX11_takePlan_0 : decode cX11_takePlan 0 = .ok (.aload_n 0, 1) := by decide +kernel
theorem dX11_takePlan_1 : decode cX11_takePlan 1 = .ok (.getfield 22, 3) := by decide +kernel
theorem dX11_takePlan_4 : decode cX11_takePlan 4 = .ok (.iconst 0, 1) := by decide +kernel
theorem dX11_takePlan_5 : decode cX11_takePlan 5 = .ok (.iaload, 1) := by decide +kernel
theorem dX11_takePlan_6 : decode cX11_takePlan 6 = .ok (.aload_n 0, 1) := by decide +kernel
theorem dX11_takePlan_7 : decode cX11_takePlan 7 = .ok (.getfield 188, 3) := by decide +kernel
theorem dX11_takePlan_10 : decode cX11_takePlan 10 = .ok (.iadd, 1) := by decide +kernel
theorem dX11_takePlan_11 : decode cX11_takePlan 11 = .ok (.bipush 60, 2) := by decide +kernel
theorem dX11_takePlan_13 : decode cX11_takePlan 13 = .ok (.if_icmp .le 10, 3) := by decide +kernel
theorem dX11_takePlan_16 : decode cX11_takePlan 16 = .ok (.aload_n 0, 1) := by decide +kernel
theorem dX11_takePlan_17 : decode cX11_takePlan 17 = .ok (.bipush (-6), 2) := by decide +kernel
theorem dX11_takePlan_19 : decode cX11_takePlan 19 = .ok (.invokevirtual 114, 3) := by decide +kernel
theorem dX11_takePlan_22 : decode cX11_takePlan 22 = .ok (.ireturn, 1) := by decide +kernel
theorem dX11_takePlan_23 : decode cX11_takePlan 23 = .ok (.iconst 0, 1) := by decide +kernel
theorem dX11_takePlan_24 : decode cX11_takePlan 24 = .ok (.istore_n 1, 1) := by decide +kernel
theorem dX11_takePlan_25 : decode cX11_takePlan 25 = .ok (.iload_n 1, 1) := by decide +kernel
theorem dX11_takePlan_26 : decode cX11_takePlan 26 = .ok (.aload_n 0, 1) := by decide +kernel
theorem dX11_takePlan_27 : decode cX11_takePlan 27 = .ok (.getfield 188, 3) := by decide +kernel
theorem dX11_takePlan_30 : decode cX11_takePlan 30 = .ok (.if_icmp .ge 33, 3) := by decide +kernel
theorem dX11_takePlan_33 : decode cX11_takePlan 33 = .ok (.aload_n 0, 1) := by decide +kernel
theorem dX11_takePlan_34 : decode cX11_takePlan 34 = .ok (.iconst 0, 1) := by decide +kernel
theorem dX11_takePlan_35 : decode cX11_takePlan 35 = .ok (.aload_n 0, 1) := by decide +kernel
theorem dX11_takePlan_36 : decode cX11_takePlan 36 = .ok (.getfield 55, 3) := by decide +kernel
theorem dX11_takePlan_39 : decode cX11_takePlan 39 = .ok (.iload_n 1, 1) := by decide +kernel
theorem dX11_takePlan_40 : decode cX11_takePlan 40 = .ok (.iaload, 1) := by decide +kernel
theorem dX11_takePlan_41 : decode cX11_takePlan 41 = .ok (.aload_n 0, 1) := by decide +kernel
theorem dX11_takePlan_42 : decode cX11_takePlan 42 = .ok (.getfield 58, 3) := by decide +kernel
theorem dX11_takePlan_45 : decode cX11_takePlan 45 = .ok (.iload_n 1, 1) := by decide +kernel
theorem dX11_takePlan_46 : decode cX11_takePlan 46 = .ok (.iaload, 1) := by decide +kernel
theorem dX11_takePlan_47 : decode cX11_takePlan 47 = .ok (.aload_n 0, 1) := by decide +kernel
theorem dX11_takePlan_48 : decode cX11_takePlan 48 = .ok (.getfield 61, 3) := by decide +kernel
theorem dX11_takePlan_51 : decode cX11_takePlan 51 = .ok (.iload_n 1, 1) := by decide +kernel
theorem dX11_takePlan_52 : decode cX11_takePlan 52 = .ok (.iaload, 1) := by decide +kernel
theorem dX11_takePlan_53 : decode cX11_takePlan 53 = .ok (.invokevirtual 118, 3) := by decide +kernel
theorem dX11_takePlan_56 : decode cX11_takePlan 56 = .ok (.istore_n 2, 1) := by decide +kernel
theorem dX11_takePlan_57 : decode cX11_takePlan 57 = .ok (.iinc 1 1, 3) := by decide +kernel
theorem dX11_takePlan_60 : decode cX11_takePlan 60 = .ok (.goto (-35), 3) := by decide +kernel
theorem dX11_takePlan_63 : decode cX11_takePlan 63 = .ok (.aload_n 0, 1) := by decide +kernel
theorem dX11_takePlan_64 : decode cX11_takePlan 64 = .ok (.getfield 188, 3) := by decide +kernel
theorem dX11_takePlan_67 : decode cX11_takePlan 67 = .ok (.ireturn, 1) := by decide +kernel
theorem dX11_put_0 : decode cX11_put 0 = .ok (.aload_n 0, 1) := by decide +kernel
theorem dX11_put_1 : decode cX11_put 1 = .ok (.iconst 0, 1) := by decide +kernel
theorem dX11_put_2 : decode cX11_put 2 = .ok (.putfield 104, 3) := by decide +kernel
theorem dX11_put_5 : decode cX11_put 5 = .ok (.aload_n 0, 1) := by decide +kernel
theorem dX11_put_6 : decode cX11_put 6 = .ok (.getfield 25, 3) := by decide +kernel
theorem dX11_put_9 : decode cX11_put 9 = .ok (.ifCond .ge 10, 3) := by decide +kernel
theorem dX11_put_12 : decode cX11_put 12 = .ok (.aload_n 0, 1) := by decide +kernel
theorem dX11_put_13 : decode cX11_put 13 = .ok (.bipush (-5), 2) := by decide +kernel
theorem dX11_put_15 : decode cX11_put 15 = .ok (.invokevirtual 114, 3) := by decide +kernel
theorem dX11_put_18 : decode cX11_put 18 = .ok (.ireturn, 1) := by decide +kernel
theorem dX11_put_19 : decode cX11_put 19 = .ok (.iload_n 1, 1) := by decide +kernel
theorem dX11_put_20 : decode cX11_put 20 = .ok (.iconst 0, 1) := by decide +kernel
theorem dX11_put_21 : decode cX11_put 21 = .ok (.iconst 2, 1) := by decide +kernel
theorem dX11_put_22 : decode cX11_put 22 = .ok (.invokestatic 110, 3) := by decide +kernel
theorem dX11_put_25 : decode cX11_put 25 = .ok (.ifCond .ne 9, 3) := by decide +kernel
theorem dX11_put_28 : decode cX11_put 28 = .ok (.aload_n 0, 1) := by decide +kernel
theorem dX11_put_29 : decode cX11_put 29 = .ok (.iconst (-1), 1) := by decide +kernel
theorem dX11_put_30 : decode cX11_put 30 = .ok (.invokevirtual 114, 3) := by decide +kernel
theorem dX11_put_33 : decode cX11_put 33 = .ok (.ireturn, 1) := by decide +kernel
theorem dX11_put_34 : decode cX11_put 34 = .ok (.aload_n 0, 1) := by decide +kernel
theorem dX11_put_35 : decode cX11_put 35 = .ok (.iconst 0, 1) := by decide +kernel
theorem dX11_put_36 : decode cX11_put 36 = .ok (.aload_n 0, 1) := by decide +kernel
theorem dX11_put_37 : decode cX11_put 37 = .ok (.getfield 25, 3) := by decide +kernel
theorem dX11_put_40 : decode cX11_put 40 = .ok (.iload_n 1, 1) := by decide +kernel
theorem dX11_put_41 : decode cX11_put 41 = .ok (.lload_n 2, 1) := by decide +kernel
theorem dX11_put_42 : decode cX11_put 42 = .ok (.bipush (-9), 2) := by decide +kernel
theorem dX11_put_44 : decode cX11_put 44 = .ok (.lconst 0, 1) := by decide +kernel
theorem dX11_put_45 : decode cX11_put 45 = .ok (.invokevirtual 214, 3) := by decide +kernel
theorem dX11_put_48 : decode cX11_put 48 = .ok (.aload_n 0, 1) := by decide +kernel
theorem dX11_put_49 : decode cX11_put 49 = .ok (.invokevirtual 218, 3) := by decide +kernel
theorem dX11_put_52 : decode cX11_put 52 = .ok (.ireturn, 1) := by decide +kernel
theorem dX11_move_0 : decode cX11_move 0 = .ok (.aload_n 0, 1) := by decide +kernel
theorem dX11_move_1 : decode cX11_move 1 = .ok (.iconst 0, 1) := by decide +kernel
theorem dX11_move_2 : decode cX11_move 2 = .ok (.putfield 104, 3) := by decide +kernel
theorem dX11_move_5 : decode cX11_move 5 = .ok (.aload_n 0, 1) := by decide +kernel
theorem dX11_move_6 : decode cX11_move 6 = .ok (.getfield 25, 3) := by decide +kernel
theorem dX11_move_9 : decode cX11_move 9 = .ok (.ifCond .ge 10, 3) := by decide +kernel
theorem dX11_move_12 : decode cX11_move 12 = .ok (.aload_n 0, 1) := by decide +kernel
theorem dX11_move_13 : decode cX11_move 13 = .ok (.bipush (-5), 2) := by decide +kernel
theorem dX11_move_15 : decode cX11_move 15 = .ok (.invokevirtual 114, 3) := by decide +kernel
theorem dX11_move_18 : decode cX11_move 18 = .ok (.ireturn, 1) := by decide +kernel
theorem dX11_move_19 : decode cX11_move 19 = .ok (.iload_n 1, 1) := by decide +kernel
theorem dX11_move_20 : decode cX11_move 20 = .ok (.iconst 0, 1) := by decide +kernel
theorem dX11_move_21 : decode cX11_move 21 = .ok (.iconst 2, 1) := by decide +kernel
theorem dX11_move_22 : decode cX11_move 22 = .ok (.invokestatic 110, 3) := by decide +kernel
theorem dX11_move_25 : decode cX11_move 25 = .ok (.ifCond .eq 17, 3) := by decide +kernel
theorem dX11_move_28 : decode cX11_move 28 = .ok (.iload_n 2, 1) := by decide +kernel
theorem dX11_move_29 : decode cX11_move 29 = .ok (.iconst 0, 1) := by decide +kernel
theorem dX11_move_30 : decode cX11_move 30 = .ok (.iconst 2, 1) := by decide +kernel
theorem dX11_move_31 : decode cX11_move 31 = .ok (.invokestatic 110, 3) := by decide +kernel
theorem dX11_move_34 : decode cX11_move 34 = .ok (.ifCond .eq 8, 3) := by decide +kernel
theorem dX11_move_37 : decode cX11_move 37 = .ok (.iload_n 1, 1) := by decide +kernel
theorem dX11_move_38 : decode cX11_move 38 = .ok (.iload_n 2, 1) := by decide +kernel
theorem dX11_move_39 : decode cX11_move 39 = .ok (.if_icmp .ne 9, 3) := by decide +kernel
theorem dX11_move_42 : decode cX11_move 42 = .ok (.aload_n 0, 1) := by decide +kernel
theorem dX11_move_43 : decode cX11_move 43 = .ok (.iconst (-1), 1) := by decide +kernel
theorem dX11_move_44 : decode cX11_move 44 = .ok (.invokevirtual 114, 3) := by decide +kernel
theorem dX11_move_47 : decode cX11_move 47 = .ok (.ireturn, 1) := by decide +kernel
theorem dX11_move_48 : decode cX11_move 48 = .ok (.aload_n 0, 1) := by decide +kernel
theorem dX11_move_49 : decode cX11_move 49 = .ok (.iconst 0, 1) := by decide +kernel
theorem dX11_move_50 : decode cX11_move 50 = .ok (.aload_n 0, 1) := by decide +kernel
theorem dX11_move_51 : decode cX11_move 51 = .ok (.getfield 25, 3) := by decide +kernel
theorem dX11_move_54 : decode cX11_move 54 = .ok (.iload_n 2, 1) := by decide +kernel
theorem dX11_move_55 : decode cX11_move 55 = .ok (.aload_n 0, 1) := by decide +kernel
theorem dX11_move_56 : decode cX11_move 56 = .ok (.iconst 0, 1) := by decide +kernel
theorem dX11_move_57 : decode cX11_move 57 = .ok (.aload_n 0, 1) := by decide +kernel
theorem dX11_move_58 : decode cX11_move 58 = .ok (.getfield 25, 3) := by decide +kernel
theorem dX11_move_61 : decode cX11_move 61 = .ok (.iload_n 1, 1) := by decide +kernel
theorem dX11_move_62 : decode cX11_move 62 = .ok (.invokevirtual 210, 3) := by decide +kernel
theorem dX11_move_65 : decode cX11_move 65 = .ok (.iload_n 1, 1) := by decide +kernel
theorem dX11_move_66 : decode cX11_move 66 = .ok (.lconst 0, 1) := by decide +kernel
theorem dX11_move_67 : decode cX11_move 67 = .ok (.invokevirtual 214, 3) := by decide +kernel
theorem dX11_move_70 : decode cX11_move 70 = .ok (.aload_n 0, 1) := by decide +kernel
theorem dX11_move_71 : decode cX11_move 71 = .ok (.invokevirtual 218, 3) := by decide +kernel
theorem dX11_move_74 : decode cX11_move 74 = .ok (.ireturn, 1) := by decide +kernel
theorem dX11_get_0 : decode cX11_get 0 = .ok (.aload_n 0, 1) := by decide +kernel
theorem dX11_get_1 : decode cX11_get 1 = .ok (.aload_n 0, 1) := by decide +kernel
theorem dX11_get_2 : decode cX11_get 2 = .ok (.getfield 25, 3) := by decide +kernel
theorem dX11_get_5 : decode cX11_get 5 = .ok (.ifCond .ge 7, 3) := by decide +kernel
theorem dX11_get_8 : decode cX11_get 8 = .ok (.iconst 1, 1) := by decide +kernel
theorem dX11_get_9 : decode cX11_get 9 = .ok (.goto 17, 3) := by decide +kernel
theorem dX11_get_12 : decode cX11_get 12 = .ok (.iload_n 1, 1) := by decide +kernel
theorem dX11_get_13 : decode cX11_get 13 = .ok (.iconst 0, 1) := by decide +kernel
theorem dX11_get_14 : decode cX11_get 14 = .ok (.iconst 2, 1) := by decide +kernel
theorem dX11_get_15 : decode cX11_get 15 = .ok (.invokestatic 110, 3) := by decide +kernel
theorem dX11_get_18 : decode cX11_get 18 = .ok (.ifCond .eq 7, 3) := by decide +kernel
theorem dX11_get_21 : decode cX11_get 21 = .ok (.iconst 0, 1) := by decide +kernel
theorem dX11_get_22 : decode cX11_get 22 = .ok (.goto 4, 3) := by decide +kernel
theorem dX11_get_25 : decode cX11_get 25 = .ok (.iconst 2, 1) := by decide +kernel
theorem dX11_get_26 : decode cX11_get 26 = .ok (.putfield 104, 3) := by decide +kernel
theorem dX11_get_29 : decode cX11_get 29 = .ok (.aload_n 0, 1) := by decide +kernel
theorem dX11_get_30 : decode cX11_get 30 = .ok (.getfield 104, 3) := by decide +kernel
theorem dX11_get_33 : decode cX11_get 33 = .ok (.ifCond .le 7, 3) := by decide +kernel
theorem dX11_get_36 : decode cX11_get 36 = .ok (.lconst 0, 1) := by decide +kernel
theorem dX11_get_37 : decode cX11_get 37 = .ok (.goto 13, 3) := by decide +kernel
theorem dX11_get_40 : decode cX11_get 40 = .ok (.aload_n 0, 1) := by decide +kernel
theorem dX11_get_41 : decode cX11_get 41 = .ok (.iconst 0, 1) := by decide +kernel
theorem dX11_get_42 : decode cX11_get 42 = .ok (.aload_n 0, 1) := by decide +kernel
theorem dX11_get_43 : decode cX11_get 43 = .ok (.getfield 25, 3) := by decide +kernel
theorem dX11_get_46 : decode cX11_get 46 = .ok (.iload_n 1, 1) := by decide +kernel
theorem dX11_get_47 : decode cX11_get 47 = .ok (.invokevirtual 210, 3) := by decide +kernel
theorem dX11_get_50 : decode cX11_get 50 = .ok (.lreturn, 1) := by decide +kernel
theorem dX11_rise_0 : decode cX11_rise 0 = .ok (.aload_n 0, 1) := by decide +kernel
theorem dX11_rise_1 : decode cX11_rise 1 = .ok (.iconst 0, 1) := by decide +kernel
theorem dX11_rise_2 : decode cX11_rise 2 = .ok (.putfield 104, 3) := by decide +kernel
theorem dX11_rise_5 : decode cX11_rise 5 = .ok (.aload_n 0, 1) := by decide +kernel
theorem dX11_rise_6 : decode cX11_rise 6 = .ok (.getfield 25, 3) := by decide +kernel
theorem dX11_rise_9 : decode cX11_rise 9 = .ok (.ifCond .lt 12, 3) := by decide +kernel
theorem dX11_rise_12 : decode cX11_rise 12 = .ok (.aload_n 0, 1) := by decide +kernel
theorem dX11_rise_13 : decode cX11_rise 13 = .ok (.getfield 22, 3) := by decide +kernel
theorem dX11_rise_16 : decode cX11_rise 16 = .ok (.iconst 0, 1) := by decide +kernel
theorem dX11_rise_17 : decode cX11_rise 17 = .ok (.iaload, 1) := by decide +kernel
theorem dX11_rise_18 : decode cX11_rise 18 = .ok (.ifCond .le 10, 3) := by decide +kernel
theorem dX11_rise_21 : decode cX11_rise 21 = .ok (.aload_n 0, 1) := by decide +kernel
theorem dX11_rise_22 : decode cX11_rise 22 = .ok (.bipush (-5), 2) := by decide +kernel
theorem dX11_rise_24 : decode cX11_rise 24 = .ok (.invokevirtual 114, 3) := by decide +kernel
theorem dX11_rise_27 : decode cX11_rise 27 = .ok (.ireturn, 1) := by decide +kernel
theorem dX11_rise_28 : decode cX11_rise 28 = .ok (.aload_n 0, 1) := by decide +kernel
theorem dX11_rise_29 : decode cX11_rise 29 = .ok (.iconst 0, 1) := by decide +kernel
theorem dX11_rise_30 : decode cX11_rise 30 = .ok (.aload_n 0, 1) := by decide +kernel
theorem dX11_rise_31 : decode cX11_rise 31 = .ok (.getfield 25, 3) := by decide +kernel
theorem dX11_rise_34 : decode cX11_rise 34 = .ok (.invokevirtual 222, 3) := by decide +kernel
theorem dX11_rise_37 : decode cX11_rise 37 = .ok (.aload_n 0, 1) := by decide +kernel
theorem dX11_rise_38 : decode cX11_rise 38 = .ok (.invokevirtual 218, 3) := by decide +kernel
theorem dX11_rise_41 : decode cX11_rise 41 = .ok (.ireturn, 1) := by decide +kernel
theorem dX11_isSound_0 : decode cX11_isSound 0 = .ok (.aload_n 0, 1) := by decide +kernel
theorem dX11_isSound_1 : decode cX11_isSound 1 = .ok (.iconst 0, 1) := by decide +kernel
theorem dX11_isSound_2 : decode cX11_isSound 2 = .ok (.putfield 104, 3) := by decide +kernel
theorem dX11_isSound_5 : decode cX11_isSound 5 = .ok (.aload_n 0, 1) := by decide +kernel
theorem dX11_isSound_6 : decode cX11_isSound 6 = .ok (.getfield 25, 3) := by decide +kernel
theorem dX11_isSound_9 : decode cX11_isSound 9 = .ok (.ifCond .eq 47, 3) := by decide +kernel
theorem dX11_isSound_12 : decode cX11_isSound 12 = .ok (.aload_n 0, 1) := by decide +kernel
theorem dX11_isSound_13 : decode cX11_isSound 13 = .ok (.getfield 25, 3) := by decide +kernel
theorem dX11_isSound_16 : decode cX11_isSound 16 = .ok (.iconst 1, 1) := by decide +kernel
theorem dX11_isSound_17 : decode cX11_isSound 17 = .ok (.if_icmp .ne 23, 3) := by decide +kernel
theorem dX11_isSound_20 : decode cX11_isSound 20 = .ok (.aload_n 0, 1) := by decide +kernel
theorem dX11_isSound_21 : decode cX11_isSound 21 = .ok (.iconst 0, 1) := by decide +kernel
theorem dX11_isSound_22 : decode cX11_isSound 22 = .ok (.iconst 3, 1) := by decide +kernel
theorem dX11_isSound_23 : decode cX11_isSound 23 = .ok (.iconst 0, 1) := by decide +kernel
theorem dX11_isSound_24 : decode cX11_isSound 24 = .ok (.invokevirtual 129, 3) := by decide +kernel
theorem dX11_isSound_27 : decode cX11_isSound 27 = .ok (.ifCond .ne 13, 3) := by decide +kernel
theorem dX11_isSound_30 : decode cX11_isSound 30 = .ok (.aload_n 0, 1) := by decide +kernel
theorem dX11_isSound_31 : decode cX11_isSound 31 = .ok (.iconst 0, 1) := by decide +kernel
theorem dX11_isSound_32 : decode cX11_isSound 32 = .ok (.iconst 3, 1) := by decide +kernel
theorem dX11_isSound_33 : decode cX11_isSound 33 = .ok (.iconst 1, 1) := by decide +kernel
theorem dX11_isSound_34 : decode cX11_isSound 34 = .ok (.invokevirtual 129, 3) := by decide +kernel
theorem dX11_isSound_37 : decode cX11_isSound 37 = .ok (.ifCond .eq 19, 3) := by decide +kernel
theorem dX11_isSound_40 : decode cX11_isSound 40 = .ok (.aload_n 0, 1) := by decide +kernel
theorem dX11_isSound_41 : decode cX11_isSound 41 = .ok (.getfield 25, 3) := by decide +kernel
theorem dX11_isSound_44 : decode cX11_isSound 44 = .ok (.iconst 2, 1) := by decide +kernel
theorem dX11_isSound_45 : decode cX11_isSound 45 = .ok (.if_icmp .ne 15, 3) := by decide +kernel
theorem dX11_isSound_48 : decode cX11_isSound 48 = .ok (.aload_n 0, 1) := by decide +kernel
theorem dX11_isSound_49 : decode cX11_isSound 49 = .ok (.iconst 0, 1) := by decide +kernel
theorem dX11_isSound_50 : decode cX11_isSound 50 = .ok (.invokevirtual 178, 3) := by decide +kernel
theorem dX11_isSound_53 : decode cX11_isSound 53 = .ok (.ifCond .le 7, 3) := by decide +kernel
theorem dX11_isSound_56 : decode cX11_isSound 56 = .ok (.iconst 1, 1) := by decide +kernel
theorem dX11_isSound_57 : decode cX11_isSound 57 = .ok (.goto 4, 3) := by decide +kernel
theorem dX11_isSound_60 : decode cX11_isSound 60 = .ok (.iconst 0, 1) := by decide +kernel
theorem dX11_isSound_61 : decode cX11_isSound 61 = .ok (.ireturn, 1) := by decide +kernel
theorem dX11_add_0 : decode cX11_add 0 = .ok (.aload_n 0, 1) := by decide +kernel
theorem dX11_add_1 : decode cX11_add 1 = .ok (.getfield 225, 3) := by decide +kernel
theorem dX11_add_4 : decode cX11_add 4 = .ok (.bipush 8, 2) := by decide +kernel
theorem dX11_add_6 : decode cX11_add 6 = .ok (.if_icmp .ne 10, 3) := by decide +kernel
theorem dX11_add_9 : decode cX11_add 9 = .ok (.aload_n 0, 1) := by decide +kernel
theorem dX11_add_10 : decode cX11_add 10 = .ok (.bipush (-6), 2) := by decide +kernel
theorem dX11_add_12 : decode cX11_add 12 = .ok (.invokevirtual 114, 3) := by decide +kernel
theorem dX11_add_15 : decode cX11_add 15 = .ok (.ireturn, 1) := by decide +kernel
theorem dX11_add_16 : decode cX11_add 16 = .ok (.aload_n 0, 1) := by decide +kernel
theorem dX11_add_17 : decode cX11_add 17 = .ok (.getfield 64, 3) := by decide +kernel
theorem dX11_add_20 : decode cX11_add 20 = .ok (.aload_n 0, 1) := by decide +kernel
theorem dX11_add_21 : decode cX11_add 21 = .ok (.getfield 225, 3) := by decide +kernel
theorem dX11_add_24 : decode cX11_add 24 = .ok (.iload_n 1, 1) := by decide +kernel
theorem dX11_add_25 : decode cX11_add 25 = .ok (.iastore, 1) := by decide +kernel
theorem dX11_add_26 : decode cX11_add 26 = .ok (.aload_n 0, 1) := by decide +kernel
theorem dX11_add_27 : decode cX11_add 27 = .ok (.getfield 67, 3) := by decide +kernel
theorem dX11_add_30 : decode cX11_add 30 = .ok (.aload_n 0, 1) := by decide +kernel
theorem dX11_add_31 : decode cX11_add 31 = .ok (.getfield 225, 3) := by decide +kernel
theorem dX11_add_34 : decode cX11_add 34 = .ok (.iload_n 2, 1) := by decide +kernel
theorem dX11_add_35 : decode cX11_add 35 = .ok (.iastore, 1) := by decide +kernel
theorem dX11_add_36 : decode cX11_add 36 = .ok (.aload_n 0, 1) := by decide +kernel
theorem dX11_add_37 : decode cX11_add 37 = .ok (.getfield 70, 3) := by decide +kernel
theorem dX11_add_40 : decode cX11_add 40 = .ok (.aload_n 0, 1) := by decide +kernel
theorem dX11_add_41 : decode cX11_add 41 = .ok (.getfield 225, 3) := by decide +kernel
theorem dX11_add_44 : decode cX11_add 44 = .ok (.iload_n 3, 1) := by decide +kernel
theorem dX11_add_45 : decode cX11_add 45 = .ok (.iastore, 1) := by decide +kernel
theorem dX11_add_46 : decode cX11_add 46 = .ok (.aload_n 0, 1) := by decide +kernel
theorem dX11_add_47 : decode cX11_add 47 = .ok (.getfield 73, 3) := by decide +kernel
theorem dX11_add_50 : decode cX11_add 50 = .ok (.aload_n 0, 1) := by decide +kernel
theorem dX11_add_51 : decode cX11_add 51 = .ok (.getfield 225, 3) := by decide +kernel
theorem dX11_add_54 : decode cX11_add 54 = .ok (.lload 4, 2) := by decide +kernel
theorem dX11_add_56 : decode cX11_add 56 = .ok (.lastore, 1) := by decide +kernel
theorem dX11_add_57 : decode cX11_add 57 = .ok (.aload_n 0, 1) := by decide +kernel
theorem dX11_add_58 : decode cX11_add 58 = .ok (.dup, 1) := by decide +kernel
theorem dX11_add_59 : decode cX11_add 59 = .ok (.getfield 225, 3) := by decide +kernel
theorem dX11_add_62 : decode cX11_add 62 = .ok (.iconst 1, 1) := by decide +kernel
theorem dX11_add_63 : decode cX11_add 63 = .ok (.iadd, 1) := by decide +kernel
theorem dX11_add_64 : decode cX11_add 64 = .ok (.putfield 225, 3) := by decide +kernel
theorem dX11_add_67 : decode cX11_add 67 = .ok (.aload_n 0, 1) := by decide +kernel
theorem dX11_add_68 : decode cX11_add 68 = .ok (.getfield 225, 3) := by decide +kernel
theorem dX11_add_71 : decode cX11_add 71 = .ok (.ireturn, 1) := by decide +kernel
theorem dX11_addPut_0 : decode cX11_addPut 0 = .ok (.aload_n 0, 1) := by decide +kernel
theorem dX11_addPut_1 : decode cX11_addPut 1 = .ok (.iconst 0, 1) := by decide +kernel
theorem dX11_addPut_2 : decode cX11_addPut 2 = .ok (.putfield 104, 3) := by decide +kernel
theorem dX11_addPut_5 : decode cX11_addPut 5 = .ok (.iload_n 1, 1) := by decide +kernel
theorem dX11_addPut_6 : decode cX11_addPut 6 = .ok (.iconst 0, 1) := by decide +kernel
theorem dX11_addPut_7 : decode cX11_addPut 7 = .ok (.iconst 2, 1) := by decide +kernel
theorem dX11_addPut_8 : decode cX11_addPut 8 = .ok (.invokestatic 110, 3) := by decide +kernel
theorem dX11_addPut_11 : decode cX11_addPut 11 = .ok (.ifCond .eq 15, 3) := by decide +kernel
theorem dX11_addPut_14 : decode cX11_addPut 14 = .ok (.aload_n 0, 1) := by decide +kernel
theorem dX11_addPut_15 : decode cX11_addPut 15 = .ok (.iconst 0, 1) := by decide +kernel
theorem dX11_addPut_16 : decode cX11_addPut 16 = .ok (.iload_n 1, 1) := by decide +kernel
theorem dX11_addPut_17 : decode cX11_addPut 17 = .ok (.bipush (-9), 2) := by decide +kernel
theorem dX11_addPut_19 : decode cX11_addPut 19 = .ok (.lload_n 2, 1) := by decide +kernel
theorem dX11_addPut_20 : decode cX11_addPut 20 = .ok (.invokevirtual 228, 3) := by decide +kernel
theorem dX11_addPut_23 : decode cX11_addPut 23 = .ok (.goto 8, 3) := by decide +kernel
theorem dX11_addPut_26 : decode cX11_addPut 26 = .ok (.aload_n 0, 1) := by decide +kernel
theorem dX11_addPut_27 : decode cX11_addPut 27 = .ok (.iconst (-1), 1) := by decide +kernel
theorem dX11_addPut_28 : decode cX11_addPut 28 = .ok (.invokevirtual 114, 3) := by decide +kernel
theorem dX11_addPut_31 : decode cX11_addPut 31 = .ok (.ireturn, 1) := by decide +kernel
theorem dX11_addMove_0 : decode cX11_addMove 0 = .ok (.aload_n 0, 1) := by decide +kernel
theorem dX11_addMove_1 : decode cX11_addMove 1 = .ok (.iconst 0, 1) := by decide +kernel
theorem dX11_addMove_2 : decode cX11_addMove 2 = .ok (.putfield 104, 3) := by decide +kernel
theorem dX11_addMove_5 : decode cX11_addMove 5 = .ok (.iload_n 1, 1) := by decide +kernel
theorem dX11_addMove_6 : decode cX11_addMove 6 = .ok (.iconst 0, 1) := by decide +kernel
theorem dX11_addMove_7 : decode cX11_addMove 7 = .ok (.iconst 2, 1) := by decide +kernel
theorem dX11_addMove_8 : decode cX11_addMove 8 = .ok (.invokestatic 110, 3) := by decide +kernel
theorem dX11_addMove_11 : decode cX11_addMove 11 = .ok (.ifCond .eq 28, 3) := by decide +kernel
theorem dX11_addMove_14 : decode cX11_addMove 14 = .ok (.iload_n 2, 1) := by decide +kernel
theorem dX11_addMove_15 : decode cX11_addMove 15 = .ok (.iconst 0, 1) := by decide +kernel
theorem dX11_addMove_16 : decode cX11_addMove 16 = .ok (.iconst 2, 1) := by decide +kernel
theorem dX11_addMove_17 : decode cX11_addMove 17 = .ok (.invokestatic 110, 3) := by decide +kernel
theorem dX11_addMove_20 : decode cX11_addMove 20 = .ok (.ifCond .eq 19, 3) := by decide +kernel
theorem dX11_addMove_23 : decode cX11_addMove 23 = .ok (.iload_n 1, 1) := by decide +kernel
theorem dX11_addMove_24 : decode cX11_addMove 24 = .ok (.iload_n 2, 1) := by decide +kernel
theorem dX11_addMove_25 : decode cX11_addMove 25 = .ok (.if_icmp .eq 14, 3) := by decide +kernel
theorem dX11_addMove_28 : decode cX11_addMove 28 = .ok (.aload_n 0, 1) := by decide +kernel
theorem dX11_addMove_29 : decode cX11_addMove 29 = .ok (.iconst 1, 1) := by decide +kernel
theorem dX11_addMove_30 : decode cX11_addMove 30 = .ok (.iload_n 1, 1) := by decide +kernel
theorem dX11_addMove_31 : decode cX11_addMove 31 = .ok (.iload_n 2, 1) := by decide +kernel
theorem dX11_addMove_32 : decode cX11_addMove 32 = .ok (.lconst 0, 1) := by decide +kernel
theorem dX11_addMove_33 : decode cX11_addMove 33 = .ok (.invokevirtual 228, 3) := by decide +kernel
theorem dX11_addMove_36 : decode cX11_addMove 36 = .ok (.goto 8, 3) := by decide +kernel
theorem dX11_addMove_39 : decode cX11_addMove 39 = .ok (.aload_n 0, 1) := by decide +kernel
theorem dX11_addMove_40 : decode cX11_addMove 40 = .ok (.iconst (-1), 1) := by decide +kernel
theorem dX11_addMove_41 : decode cX11_addMove 41 = .ok (.invokevirtual 114, 3) := by decide +kernel
theorem dX11_addMove_44 : decode cX11_addMove 44 = .ok (.ireturn, 1) := by decide +kernel
theorem dX11_addSure_0 : decode cX11_addSure 0 = .ok (.aload_n 0, 1) := by decide +kernel
theorem dX11_addSure_1 : decode cX11_addSure 1 = .ok (.iconst 0, 1) := by decide +kernel
theorem dX11_addSure_2 : decode cX11_addSure 2 = .ok (.putfield 104, 3) := by decide +kernel
theorem dX11_addSure_5 : decode cX11_addSure 5 = .ok (.aload_n 0, 1) := by decide +kernel
theorem dX11_addSure_6 : decode cX11_addSure 6 = .ok (.iconst 2, 1) := by decide +kernel
theorem dX11_addSure_7 : decode cX11_addSure 7 = .ok (.bipush (-9), 2) := by decide +kernel
theorem dX11_addSure_9 : decode cX11_addSure 9 = .ok (.bipush (-9), 2) := by decide +kernel
theorem dX11_addSure_11 : decode cX11_addSure 11 = .ok (.lconst 0, 1) := by decide +kernel
theorem dX11_addSure_12 : decode cX11_addSure 12 = .ok (.invokevirtual 228, 3) := by decide +kernel
theorem dX11_addSure_15 : decode cX11_addSure 15 = .ok (.ireturn, 1) := by decide +kernel
theorem dX11_clear_0 : decode cX11_clear 0 = .ok (.aload_n 0, 1) := by decide +kernel
theorem dX11_clear_1 : decode cX11_clear 1 = .ok (.iconst 0, 1) := by decide +kernel
theorem dX11_clear_2 : decode cX11_clear 2 = .ok (.putfield 104, 3) := by decide +kernel
theorem dX11_clear_5 : decode cX11_clear 5 = .ok (.aload_n 0, 1) := by decide +kernel
theorem dX11_clear_6 : decode cX11_clear 6 = .ok (.getfield 225, 3) := by decide +kernel
theorem dX11_clear_9 : decode cX11_clear 9 = .ok (.istore_n 1, 1) := by decide +kernel
theorem dX11_clear_10 : decode cX11_clear 10 = .ok (.aload_n 0, 1) := by decide +kernel
theorem dX11_clear_11 : decode cX11_clear 11 = .ok (.iconst 0, 1) := by decide +kernel
theorem dX11_clear_12 : decode cX11_clear 12 = .ok (.putfield 225, 3) := by decide +kernel
theorem dX11_clear_15 : decode cX11_clear 15 = .ok (.iload_n 1, 1) := by decide +kernel
theorem dX11_clear_16 : decode cX11_clear 16 = .ok (.ireturn, 1) := by decide +kernel
theorem dX11_findDue_0 : decode cX11_findDue 0 = .ok (.iconst 0, 1) := by decide +kernel
theorem dX11_findDue_1 : decode cX11_findDue 1 = .ok (.istore_n 1, 1) := by decide +kernel
theorem dX11_findDue_2 : decode cX11_findDue 2 = .ok (.iload_n 1, 1) := by decide +kernel
theorem dX11_findDue_3 : decode cX11_findDue 3 = .ok (.iconst 3, 1) := by decide +kernel
theorem dX11_findDue_4 : decode cX11_findDue 4 = .ok (.if_icmp .ge 16, 3) := by decide +kernel
theorem dX11_findDue_7 : decode cX11_findDue 7 = .ok (.aload_n 0, 1) := by decide +kernel
theorem dX11_findDue_8 : decode cX11_findDue 8 = .ok (.getfield 77, 3) := by decide +kernel
theorem dX11_findDue_11 : decode cX11_findDue 11 = .ok (.iload_n 1, 1) := by decide +kernel
theorem dX11_findDue_12 : decode cX11_findDue 12 = .ok (.lconst 0, 1) := by decide +kernel
theorem dX11_findDue_13 : decode cX11_findDue 13 = .ok (.lastore, 1) := by decide +kernel
theorem dX11_findDue_14 : decode cX11_findDue 14 = .ok (.iinc 1 1, 3) := by decide +kernel
theorem dX11_findDue_17 : decode cX11_findDue 17 = .ok (.goto (-15), 3) := by decide +kernel
theorem dX11_findDue_20 : decode cX11_findDue 20 = .ok (.iconst 0, 1) := by decide +kernel
theorem dX11_findDue_21 : decode cX11_findDue 21 = .ok (.istore_n 1, 1) := by decide +kernel
theorem dX11_findDue_22 : decode cX11_findDue 22 = .ok (.iload_n 1, 1) := by decide +kernel
theorem dX11_findDue_23 : decode cX11_findDue 23 = .ok (.aload_n 0, 1) := by decide +kernel
theorem dX11_findDue_24 : decode cX11_findDue 24 = .ok (.getfield 225, 3) := by decide +kernel
theorem dX11_findDue_27 : decode cX11_findDue 27 = .ok (.if_icmp .ge 139, 3) := by decide +kernel
theorem dX11_findDue_30 : decode cX11_findDue 30 = .ok (.iconst 0, 1) := by decide +kernel
theorem dX11_findDue_31 : decode cX11_findDue 31 = .ok (.istore_n 2, 1) := by decide +kernel
theorem dX11_findDue_32 : decode cX11_findDue 32 = .ok (.iload_n 2, 1) := by decide +kernel
theorem dX11_findDue_33 : decode cX11_findDue 33 = .ok (.iconst 3, 1) := by decide +kernel
theorem dX11_findDue_34 : decode cX11_findDue 34 = .ok (.if_icmp .ge 31, 3) := by decide +kernel
theorem dX11_findDue_37 : decode cX11_findDue 37 = .ok (.aload_n 0, 1) := by decide +kernel
theorem dX11_findDue_38 : decode cX11_findDue 38 = .ok (.getfield 77, 3) := by decide +kernel
theorem dX11_findDue_41 : decode cX11_findDue 41 = .ok (.iconst 3, 1) := by decide +kernel
theorem dX11_findDue_42 : decode cX11_findDue 42 = .ok (.iload_n 1, 1) := by decide +kernel
theorem dX11_findDue_43 : decode cX11_findDue 43 = .ok (.imul, 1) := by decide +kernel
theorem dX11_findDue_44 : decode cX11_findDue 44 = .ok (.iconst 3, 1) := by decide +kernel
theorem dX11_findDue_45 : decode cX11_findDue 45 = .ok (.iadd, 1) := by decide +kernel
theorem dX11_findDue_46 : decode cX11_findDue 46 = .ok (.iload_n 2, 1) := by decide +kernel
theorem dX11_findDue_47 : decode cX11_findDue 47 = .ok (.iadd, 1) := by decide +kernel
theorem dX11_findDue_48 : decode cX11_findDue 48 = .ok (.aload_n 0, 1) := by decide +kernel
theorem dX11_findDue_49 : decode cX11_findDue 49 = .ok (.getfield 77, 3) := by decide +kernel
theorem dX11_findDue_52 : decode cX11_findDue 52 = .ok (.iconst 3, 1) := by decide +kernel
theorem dX11_findDue_53 : decode cX11_findDue 53 = .ok (.iload_n 1, 1) := by decide +kernel
theorem dX11_findDue_54 : decode cX11_findDue 54 = .ok (.imul, 1) := by decide +kernel
theorem dX11_findDue_55 : decode cX11_findDue 55 = .ok (.iload_n 2, 1) := by decide +kernel
theorem dX11_findDue_56 : decode cX11_findDue 56 = .ok (.iadd, 1) := by decide +kernel
theorem dX11_findDue_57 : decode cX11_findDue 57 = .ok (.laload, 1) := by decide +kernel
theorem dX11_findDue_58 : decode cX11_findDue 58 = .ok (.lastore, 1) := by decide +kernel
theorem dX11_findDue_59 : decode cX11_findDue 59 = .ok (.iinc 2 1, 3) := by decide +kernel
theorem dX11_findDue_62 : decode cX11_findDue 62 = .ok (.goto (-30), 3) := by decide +kernel
theorem dX11_findDue_65 : decode cX11_findDue 65 = .ok (.aload_n 0, 1) := by decide +kernel
theorem dX11_findDue_66 : decode cX11_findDue 66 = .ok (.getfield 64, 3) := by decide +kernel
theorem dX11_findDue_69 : decode cX11_findDue 69 = .ok (.iload_n 1, 1) := by decide +kernel
theorem dX11_findDue_70 : decode cX11_findDue 70 = .ok (.iaload, 1) := by decide +kernel
theorem dX11_findDue_71 : decode cX11_findDue 71 = .ok (.ifCond .ne 29, 3) := by decide +kernel
theorem dX11_findDue_74 : decode cX11_findDue 74 = .ok (.aload_n 0, 1) := by decide +kernel
theorem dX11_findDue_75 : decode cX11_findDue 75 = .ok (.getfield 77, 3) := by decide +kernel
theorem dX11_findDue_78 : decode cX11_findDue 78 = .ok (.iconst 3, 1) := by decide +kernel
theorem dX11_findDue_79 : decode cX11_findDue 79 = .ok (.iload_n 1, 1) := by decide +kernel
theorem dX11_findDue_80 : decode cX11_findDue 80 = .ok (.imul, 1) := by decide +kernel
theorem dX11_findDue_81 : decode cX11_findDue 81 = .ok (.iconst 3, 1) := by decide +kernel
theorem dX11_findDue_82 : decode cX11_findDue 82 = .ok (.iadd, 1) := by decide +kernel
theorem dX11_findDue_83 : decode cX11_findDue 83 = .ok (.aload_n 0, 1) := by decide +kernel
theorem dX11_findDue_84 : decode cX11_findDue 84 = .ok (.getfield 67, 3) := by decide +kernel
theorem dX11_findDue_87 : decode cX11_findDue 87 = .ok (.iload_n 1, 1) := by decide +kernel
theorem dX11_findDue_88 : decode cX11_findDue 88 = .ok (.iaload, 1) := by decide +kernel
theorem dX11_findDue_89 : decode cX11_findDue 89 = .ok (.iadd, 1) := by decide +kernel
theorem dX11_findDue_90 : decode cX11_findDue 90 = .ok (.aload_n 0, 1) := by decide +kernel
theorem dX11_findDue_91 : decode cX11_findDue 91 = .ok (.getfield 73, 3) := by decide +kernel
theorem dX11_findDue_94 : decode cX11_findDue 94 = .ok (.iload_n 1, 1) := by decide +kernel
theorem dX11_findDue_95 : decode cX11_findDue 95 = .ok (.laload, 1) := by decide +kernel
theorem dX11_findDue_96 : decode cX11_findDue 96 = .ok (.lastore, 1) := by decide +kernel
theorem dX11_findDue_97 : decode cX11_findDue 97 = .ok (.goto 63, 3) := by decide +kernel
theorem dX11_findDue_100 : decode cX11_findDue 100 = .ok (.aload_n 0, 1) := by decide +kernel
theorem dX11_findDue_101 : decode cX11_findDue 101 = .ok (.getfield 64, 3) := by decide +kernel
theorem dX11_findDue_104 : decode cX11_findDue 104 = .ok (.iload_n 1, 1) := by decide +kernel
theorem dX11_findDue_105 : decode cX11_findDue 105 = .ok (.iaload, 1) := by decide +kernel
theorem dX11_findDue_106 : decode cX11_findDue 106 = .ok (.iconst 1, 1) := by decide +kernel
theorem dX11_findDue_107 : decode cX11_findDue 107 = .ok (.if_icmp .ne 53, 3) := by decide +kernel
theorem dX11_findDue_110 : decode cX11_findDue 110 = .ok (.aload_n 0, 1) := by decide +kernel
theorem dX11_findDue_111 : decode cX11_findDue 111 = .ok (.getfield 77, 3) := by decide +kernel
theorem dX11_findDue_114 : decode cX11_findDue 114 = .ok (.iconst 3, 1) := by decide +kernel
theorem dX11_findDue_115 : decode cX11_findDue 115 = .ok (.iload_n 1, 1) := by decide +kernel
theorem dX11_findDue_116 : decode cX11_findDue 116 = .ok (.imul, 1) := by decide +kernel
theorem dX11_findDue_117 : decode cX11_findDue 117 = .ok (.iconst 3, 1) := by decide +kernel
theorem dX11_findDue_118 : decode cX11_findDue 118 = .ok (.iadd, 1) := by decide +kernel
theorem dX11_findDue_119 : decode cX11_findDue 119 = .ok (.aload_n 0, 1) := by decide +kernel
theorem dX11_findDue_120 : decode cX11_findDue 120 = .ok (.getfield 70, 3) := by decide +kernel
theorem dX11_findDue_123 : decode cX11_findDue 123 = .ok (.iload_n 1, 1) := by decide +kernel
theorem dX11_findDue_124 : decode cX11_findDue 124 = .ok (.iaload, 1) := by decide +kernel
theorem dX11_findDue_125 : decode cX11_findDue 125 = .ok (.iadd, 1) := by decide +kernel
theorem dX11_findDue_126 : decode cX11_findDue 126 = .ok (.aload_n 0, 1) := by decide +kernel
theorem dX11_findDue_127 : decode cX11_findDue 127 = .ok (.getfield 77, 3) := by decide +kernel
theorem dX11_findDue_130 : decode cX11_findDue 130 = .ok (.iconst 3, 1) := by decide +kernel
theorem dX11_findDue_131 : decode cX11_findDue 131 = .ok (.iload_n 1, 1) := by decide +kernel
theorem dX11_findDue_132 : decode cX11_findDue 132 = .ok (.imul, 1) := by decide +kernel
theorem dX11_findDue_133 : decode cX11_findDue 133 = .ok (.aload_n 0, 1) := by decide +kernel
theorem dX11_findDue_134 : decode cX11_findDue 134 = .ok (.getfield 67, 3) := by decide +kernel
theorem dX11_findDue_137 : decode cX11_findDue 137 = .ok (.iload_n 1, 1) := by decide +kernel
theorem dX11_findDue_138 : decode cX11_findDue 138 = .ok (.iaload, 1) := by decide +kernel
theorem dX11_findDue_139 : decode cX11_findDue 139 = .ok (.iadd, 1) := by decide +kernel
theorem dX11_findDue_140 : decode cX11_findDue 140 = .ok (.laload, 1) := by decide +kernel
theorem dX11_findDue_141 : decode cX11_findDue 141 = .ok (.lastore, 1) := by decide +kernel
theorem dX11_findDue_142 : decode cX11_findDue 142 = .ok (.aload_n 0, 1) := by decide +kernel
theorem dX11_findDue_143 : decode cX11_findDue 143 = .ok (.getfield 77, 3) := by decide +kernel
theorem dX11_findDue_146 : decode cX11_findDue 146 = .ok (.iconst 3, 1) := by decide +kernel
theorem dX11_findDue_147 : decode cX11_findDue 147 = .ok (.iload_n 1, 1) := by decide +kernel
theorem dX11_findDue_148 : decode cX11_findDue 148 = .ok (.imul, 1) := by decide +kernel
theorem dX11_findDue_149 : decode cX11_findDue 149 = .ok (.iconst 3, 1) := by decide +kernel
theorem dX11_findDue_150 : decode cX11_findDue 150 = .ok (.iadd, 1) := by decide +kernel
theorem dX11_findDue_151 : decode cX11_findDue 151 = .ok (.aload_n 0, 1) := by decide +kernel
theorem dX11_findDue_152 : decode cX11_findDue 152 = .ok (.getfield 67, 3) := by decide +kernel
theorem dX11_findDue_155 : decode cX11_findDue 155 = .ok (.iload_n 1, 1) := by decide +kernel
theorem dX11_findDue_156 : decode cX11_findDue 156 = .ok (.iaload, 1) := by decide +kernel
theorem dX11_findDue_157 : decode cX11_findDue 157 = .ok (.iadd, 1) := by decide +kernel
theorem dX11_findDue_158 : decode cX11_findDue 158 = .ok (.lconst 0, 1) := by decide +kernel
theorem dX11_findDue_159 : decode cX11_findDue 159 = .ok (.lastore, 1) := by decide +kernel
theorem dX11_findDue_160 : decode cX11_findDue 160 = .ok (.iinc 1 1, 3) := by decide +kernel
theorem dX11_findDue_163 : decode cX11_findDue 163 = .ok (.goto (-141), 3) := by decide +kernel
theorem dX11_findDue_166 : decode cX11_findDue 166 = .ok (.return_, 1) := by decide +kernel
theorem dX11_isRight_0 : decode cX11_isRight 0 = .ok (.aload_n 0, 1) := by decide +kernel
theorem dX11_isRight_1 : decode cX11_isRight 1 = .ok (.getfield 232, 3) := by decide +kernel
theorem dX11_isRight_4 : decode cX11_isRight 4 = .ok (.istore_n 1, 1) := by decide +kernel
theorem dX11_isRight_5 : decode cX11_isRight 5 = .ok (.iload_n 1, 1) := by decide +kernel
theorem dX11_isRight_6 : decode cX11_isRight 6 = .ok (.aload_n 0, 1) := by decide +kernel
theorem dX11_isRight_7 : decode cX11_isRight 7 = .ok (.getfield 235, 3) := by decide +kernel
theorem dX11_isRight_10 : decode cX11_isRight 10 = .ok (.if_icmp .gt 60, 3) := by decide +kernel
theorem dX11_isRight_13 : decode cX11_isRight 13 = .ok (.iconst 1, 1) := by decide +kernel
theorem dX11_isRight_14 : decode cX11_isRight 14 = .ok (.istore_n 2, 1) := by decide +kernel
theorem dX11_isRight_15 : decode cX11_isRight 15 = .ok (.iconst 0, 1) := by decide +kernel
theorem dX11_isRight_16 : decode cX11_isRight 16 = .ok (.istore_n 3, 1) := by decide +kernel
theorem dX11_isRight_17 : decode cX11_isRight 17 = .ok (.iload_n 3, 1) := by decide +kernel
theorem dX11_isRight_18 : decode cX11_isRight 18 = .ok (.iconst 3, 1) := by decide +kernel
theorem dX11_isRight_19 : decode cX11_isRight 19 = .ok (.if_icmp .ge 39, 3) := by decide +kernel
theorem dX11_isRight_22 : decode cX11_isRight 22 = .ok (.iload_n 2, 1) := by decide +kernel
theorem dX11_isRight_23 : decode cX11_isRight 23 = .ok (.ifCond .eq 27, 3) := by decide +kernel
theorem dX11_isRight_26 : decode cX11_isRight 26 = .ok (.aload_n 0, 1) := by decide +kernel
theorem dX11_isRight_27 : decode cX11_isRight 27 = .ok (.getfield 77, 3) := by decide +kernel
theorem dX11_isRight_30 : decode cX11_isRight 30 = .ok (.iconst 3, 1) := by decide +kernel
theorem dX11_isRight_31 : decode cX11_isRight 31 = .ok (.iload_n 1, 1) := by decide +kernel
theorem dX11_isRight_32 : decode cX11_isRight 32 = .ok (.imul, 1) := by decide +kernel
theorem dX11_isRight_33 : decode cX11_isRight 33 = .ok (.iload_n 3, 1) := by decide +kernel
theorem dX11_isRight_34 : decode cX11_isRight 34 = .ok (.iadd, 1) := by decide +kernel
theorem dX11_isRight_35 : decode cX11_isRight 35 = .ok (.laload, 1) := by decide +kernel
theorem dX11_isRight_36 : decode cX11_isRight 36 = .ok (.aload_n 0, 1) := by decide +kernel
theorem dX11_isRight_37 : decode cX11_isRight 37 = .ok (.getfield 92, 3) := by decide +kernel
theorem dX11_isRight_40 : decode cX11_isRight 40 = .ok (.iload_n 3, 1) := by decide +kernel
theorem dX11_isRight_41 : decode cX11_isRight 41 = .ok (.laload, 1) := by decide +kernel
theorem dX11_isRight_42 : decode cX11_isRight 42 = .ok (.lcmp, 1) := by decide +kernel
theorem dX11_isRight_43 : decode cX11_isRight 43 = .ok (.ifCond .ne 7, 3) := by decide +kernel
theorem dX11_isRight_46 : decode cX11_isRight 46 = .ok (.iconst 1, 1) := by decide +kernel
theorem dX11_isRight_47 : decode cX11_isRight 47 = .ok (.goto 4, 3) := by decide +kernel
theorem dX11_isRight_50 : decode cX11_isRight 50 = .ok (.iconst 0, 1) := by decide +kernel
theorem dX11_isRight_51 : decode cX11_isRight 51 = .ok (.istore_n 2, 1) := by decide +kernel
theorem dX11_isRight_52 : decode cX11_isRight 52 = .ok (.iinc 3 1, 3) := by decide +kernel
theorem dX11_isRight_55 : decode cX11_isRight 55 = .ok (.goto (-38), 3) := by decide +kernel
theorem dX11_isRight_58 : decode cX11_isRight 58 = .ok (.iload_n 2, 1) := by decide +kernel
theorem dX11_isRight_59 : decode cX11_isRight 59 = .ok (.ifCond .eq 5, 3) := by decide +kernel
theorem dX11_isRight_62 : decode cX11_isRight 62 = .ok (.iconst 1, 1) := by decide +kernel
theorem dX11_isRight_63 : decode cX11_isRight 63 = .ok (.ireturn, 1) := by decide +kernel
theorem dX11_isRight_64 : decode cX11_isRight 64 = .ok (.iinc 1 1, 3) := by decide +kernel
theorem dX11_isRight_67 : decode cX11_isRight 67 = .ok (.goto (-62), 3) := by decide +kernel
theorem dX11_isRight_70 : decode cX11_isRight 70 = .ok (.iconst 0, 1) := by decide +kernel
theorem dX11_isRight_71 : decode cX11_isRight 71 = .ok (.ireturn, 1) := by decide +kernel
theorem dX11_moment_0 : decode cX11_moment 0 = .ok (.aload_n 0, 1) := by decide +kernel
theorem dX11_moment_1 : decode cX11_moment 1 = .ok (.iconst 1, 1) := by decide +kernel
theorem dX11_moment_2 : decode cX11_moment 2 = .ok (.invokevirtual 160, 3) := by decide +kernel
theorem dX11_moment_5 : decode cX11_moment 5 = .ok (.ifCond .ne 5, 3) := by decide +kernel
theorem dX11_moment_8 : decode cX11_moment 8 = .ok (.iconst 0, 1) := by decide +kernel
theorem dX11_moment_9 : decode cX11_moment 9 = .ok (.ireturn, 1) := by decide +kernel
theorem dX11_moment_10 : decode cX11_moment 10 = .ok (.iconst 0, 1) := by decide +kernel
theorem dX11_moment_11 : decode cX11_moment 11 = .ok (.istore_n 2, 1) := by decide +kernel
theorem dX11_moment_12 : decode cX11_moment 12 = .ok (.iload_n 2, 1) := by decide +kernel
theorem dX11_moment_13 : decode cX11_moment 13 = .ok (.aload_n 0, 1) := by decide +kernel
theorem dX11_moment_14 : decode cX11_moment 14 = .ok (.getfield 137, 3) := by decide +kernel
theorem dX11_moment_17 : decode cX11_moment 17 = .ok (.if_icmp .ge 290, 3) := by decide +kernel
theorem dX11_moment_20 : decode cX11_moment 20 = .ok (.iconst 0, 1) := by decide +kernel
theorem dX11_moment_21 : decode cX11_moment 21 = .ok (.istore_n 3, 1) := by decide +kernel
theorem dX11_moment_22 : decode cX11_moment 22 = .ok (.iload_n 3, 1) := by decide +kernel
theorem dX11_moment_23 : decode cX11_moment 23 = .ok (.bipush 32, 2) := by decide +kernel
theorem dX11_moment_25 : decode cX11_moment 25 = .ok (.if_icmp .ge 34, 3) := by decide +kernel
theorem dX11_moment_28 : decode cX11_moment 28 = .ok (.aload_n 0, 1) := by decide +kernel
theorem dX11_moment_29 : decode cX11_moment 29 = .ok (.getfield 7, 3) := by decide +kernel
theorem dX11_moment_32 : decode cX11_moment 32 = .ok (.bipush 64, 2) := by decide +kernel
theorem dX11_moment_34 : decode cX11_moment 34 = .ok (.iload_n 3, 1) := by decide +kernel
theorem dX11_moment_35 : decode cX11_moment 35 = .ok (.iadd, 1) := by decide +kernel
theorem dX11_moment_36 : decode cX11_moment 36 = .ok (.aload_n 0, 1) := by decide +kernel
theorem dX11_moment_37 : decode cX11_moment 37 = .ok (.getfield 37, 3) := by decide +kernel
theorem dX11_moment_40 : decode cX11_moment 40 = .ok (.bipush 32, 2) := by decide +kernel
theorem dX11_moment_42 : decode cX11_moment 42 = .ok (.aload_n 0, 1) := by decide +kernel
theorem dX11_moment_43 : decode cX11_moment 43 = .ok (.getfield 40, 3) := by decide +kernel
theorem dX11_moment_46 : decode cX11_moment 46 = .ok (.iload_n 2, 1) := by decide +kernel
theorem dX11_moment_47 : decode cX11_moment 47 = .ok (.iaload, 1) := by decide +kernel
theorem dX11_moment_48 : decode cX11_moment 48 = .ok (.imul, 1) := by decide +kernel
theorem dX11_moment_49 : decode cX11_moment 49 = .ok (.iload_n 3, 1) := by decide +kernel
theorem dX11_moment_50 : decode cX11_moment 50 = .ok (.iadd, 1) := by decide +kernel
theorem dX11_moment_51 : decode cX11_moment 51 = .ok (.iaload, 1) := by decide +kernel
theorem dX11_moment_52 : decode cX11_moment 52 = .ok (.iastore, 1) := by decide +kernel
theorem dX11_moment_53 : decode cX11_moment 53 = .ok (.iinc 3 1, 3) := by decide +kernel
theorem dX11_moment_56 : decode cX11_moment 56 = .ok (.goto (-34), 3) := by decide +kernel
theorem dX11_moment_59 : decode cX11_moment 59 = .ok (.aload_n 0, 1) := by decide +kernel
theorem dX11_moment_60 : decode cX11_moment 60 = .ok (.getfield 22, 3) := by decide +kernel
theorem dX11_moment_63 : decode cX11_moment 63 = .ok (.iconst 2, 1) := by decide +kernel
theorem dX11_moment_64 : decode cX11_moment 64 = .ok (.iconst 0, 1) := by decide +kernel
theorem dX11_moment_65 : decode cX11_moment 65 = .ok (.iastore, 1) := by decide +kernel
theorem dX11_moment_66 : decode cX11_moment 66 = .ok (.aload_n 0, 1) := by decide +kernel
theorem dX11_moment_67 : decode cX11_moment 67 = .ok (.iconst 2, 1) := by decide +kernel
theorem dX11_moment_68 : decode cX11_moment 68 = .ok (.iload_n 1, 1) := by decide +kernel
theorem dX11_moment_69 : decode cX11_moment 69 = .ok (.invokevirtual 222, 3) := by decide +kernel
theorem dX11_moment_72 : decode cX11_moment 72 = .ok (.iconst 0, 1) := by decide +kernel
theorem dX11_moment_73 : decode cX11_moment 73 = .ok (.istore_n 3, 1) := by decide +kernel
theorem dX11_moment_74 : decode cX11_moment 74 = .ok (.iload_n 3, 1) := by decide +kernel
theorem dX11_moment_75 : decode cX11_moment 75 = .ok (.aload_n 0, 1) := by decide +kernel
theorem dX11_moment_76 : decode cX11_moment 76 = .ok (.getfield 188, 3) := by decide +kernel
theorem dX11_moment_79 : decode cX11_moment 79 = .ok (.if_icmp .ge 34, 3) := by decide +kernel
theorem dX11_moment_82 : decode cX11_moment 82 = .ok (.aload_n 0, 1) := by decide +kernel
theorem dX11_moment_83 : decode cX11_moment 83 = .ok (.iconst 2, 1) := by decide +kernel
theorem dX11_moment_84 : decode cX11_moment 84 = .ok (.aload_n 0, 1) := by decide +kernel
theorem dX11_moment_85 : decode cX11_moment 85 = .ok (.getfield 55, 3) := by decide +kernel
theorem dX11_moment_88 : decode cX11_moment 88 = .ok (.iload_n 3, 1) := by decide +kernel
theorem dX11_moment_89 : decode cX11_moment 89 = .ok (.iaload, 1) := by decide +kernel
theorem dX11_moment_90 : decode cX11_moment 90 = .ok (.aload_n 0, 1) := by decide +kernel
theorem dX11_moment_91 : decode cX11_moment 91 = .ok (.getfield 58, 3) := by decide +kernel
theorem dX11_moment_94 : decode cX11_moment 94 = .ok (.iload_n 3, 1) := by decide +kernel
theorem dX11_moment_95 : decode cX11_moment 95 = .ok (.iaload, 1) := by decide +kernel
theorem dX11_moment_96 : decode cX11_moment 96 = .ok (.aload_n 0, 1) := by decide +kernel
theorem dX11_moment_97 : decode cX11_moment 97 = .ok (.getfield 61, 3) := by decide +kernel
theorem dX11_moment_100 : decode cX11_moment 100 = .ok (.iload_n 3, 1) := by decide +kernel
theorem dX11_moment_101 : decode cX11_moment 101 = .ok (.iaload, 1) := by decide +kernel
theorem dX11_moment_102 : decode cX11_moment 102 = .ok (.invokevirtual 118, 3) := by decide +kernel
theorem dX11_moment_105 : decode cX11_moment 105 = .ok (.istore 4, 2) := by decide +kernel
theorem dX11_moment_107 : decode cX11_moment 107 = .ok (.iinc 3 1, 3) := by decide +kernel
theorem dX11_moment_110 : decode cX11_moment 110 = .ok (.goto (-36), 3) := by decide +kernel
theorem dX11_moment_113 : decode cX11_moment 113 = .ok (.aload_n 0, 1) := by decide +kernel
theorem dX11_moment_114 : decode cX11_moment 114 = .ok (.iconst 2, 1) := by decide +kernel
theorem dX11_moment_115 : decode cX11_moment 115 = .ok (.invokevirtual 122, 3) := by decide +kernel
theorem dX11_moment_118 : decode cX11_moment 118 = .ok (.istore_n 3, 1) := by decide +kernel
theorem dX11_moment_119 : decode cX11_moment 119 = .ok (.iconst 0, 1) := by decide +kernel
theorem dX11_moment_120 : decode cX11_moment 120 = .ok (.istore 4, 2) := by decide +kernel
theorem dX11_moment_122 : decode cX11_moment 122 = .ok (.iload 4, 2) := by decide +kernel
theorem dX11_moment_124 : decode cX11_moment 124 = .ok (.iconst 3, 1) := by decide +kernel
theorem dX11_moment_125 : decode cX11_moment 125 = .ok (.if_icmp .ge 24, 3) := by decide +kernel
theorem dX11_moment_128 : decode cX11_moment 128 = .ok (.aload_n 0, 1) := by decide +kernel
theorem dX11_moment_129 : decode cX11_moment 129 = .ok (.getfield 92, 3) := by decide +kernel
theorem dX11_moment_132 : decode cX11_moment 132 = .ok (.iload 4, 2) := by decide +kernel
theorem dX11_moment_134 : decode cX11_moment 134 = .ok (.aload_n 0, 1) := by decide +kernel
theorem dX11_moment_135 : decode cX11_moment 135 = .ok (.iconst 2, 1) := by decide +kernel
theorem dX11_moment_136 : decode cX11_moment 136 = .ok (.iload_n 1, 1) := by decide +kernel
theorem dX11_moment_137 : decode cX11_moment 137 = .ok (.iload 4, 2) := by decide +kernel
theorem dX11_moment_139 : decode cX11_moment 139 = .ok (.invokevirtual 210, 3) := by decide +kernel
theorem dX11_moment_142 : decode cX11_moment 142 = .ok (.lastore, 1) := by decide +kernel
theorem dX11_moment_143 : decode cX11_moment 143 = .ok (.iinc 4 1, 3) := by decide +kernel
theorem dX11_moment_146 : decode cX11_moment 146 = .ok (.goto (-24), 3) := by decide +kernel
theorem dX11_moment_149 : decode cX11_moment 149 = .ok (.aload_n 0, 1) := by decide +kernel
theorem dX11_moment_150 : decode cX11_moment 150 = .ok (.invokevirtual 238, 3) := by decide +kernel
theorem dX11_moment_153 : decode cX11_moment 153 = .ok (.ifCond .eq 6, 3) := by decide +kernel
theorem dX11_moment_156 : decode cX11_moment 156 = .ok (.goto 145, 3) := by decide +kernel
theorem dX11_moment_159 : decode cX11_moment 159 = .ok (.bipush 10, 2) := by decide +kernel
theorem dX11_moment_161 : decode cX11_moment 161 = .ok (.aload_n 0, 1) := by decide +kernel
theorem dX11_moment_162 : decode cX11_moment 162 = .ok (.getfield 80, 3) := by decide +kernel
theorem dX11_moment_165 : decode cX11_moment 165 = .ok (.iconst 2, 1) := by decide +kernel
theorem dX11_moment_166 : decode cX11_moment 166 = .ok (.iaload, 1) := by decide +kernel
theorem dX11_moment_167 : decode cX11_moment 167 = .ok (.imul, 1) := by decide +kernel
theorem dX11_moment_168 : decode cX11_moment 168 = .ok (.istore 4, 2) := by decide +kernel
theorem dX11_moment_170 : decode cX11_moment 170 = .ok (.aload_n 0, 1) := by decide +kernel
theorem dX11_moment_171 : decode cX11_moment 171 = .ok (.getfield 80, 3) := by decide +kernel
theorem dX11_moment_174 : decode cX11_moment 174 = .ok (.iconst 2, 1) := by decide +kernel
theorem dX11_moment_175 : decode cX11_moment 175 = .ok (.iaload, 1) := by decide +kernel
theorem dX11_moment_176 : decode cX11_moment 176 = .ok (.bipush 50, 2) := by decide +kernel
theorem dX11_moment_178 : decode cX11_moment 178 = .ok (.if_icmp .ge 113, 3) := by decide +kernel
theorem dX11_moment_181 : decode cX11_moment 181 = .ok (.aload_n 0, 1) := by decide +kernel
theorem dX11_moment_182 : decode cX11_moment 182 = .ok (.getfield 86, 3) := by decide +kernel
theorem dX11_moment_185 : decode cX11_moment 185 = .ok (.iload 4, 2) := by decide +kernel
theorem dX11_moment_187 : decode cX11_moment 187 = .ok (.aload_n 0, 1) := by decide +kernel
theorem dX11_moment_188 : decode cX11_moment 188 = .ok (.getfield 80, 3) := by decide +kernel
theorem dX11_moment_191 : decode cX11_moment 191 = .ok (.iconst 0, 1) := by decide +kernel
theorem dX11_moment_192 : decode cX11_moment 192 = .ok (.iaload, 1) := by decide +kernel
theorem dX11_moment_193 : decode cX11_moment 193 = .ok (.iastore, 1) := by decide +kernel
theorem dX11_moment_194 : decode cX11_moment 194 = .ok (.aload_n 0, 1) := by decide +kernel
theorem dX11_moment_195 : decode cX11_moment 195 = .ok (.getfield 86, 3) := by decide +kernel
theorem dX11_moment_198 : decode cX11_moment 198 = .ok (.iload 4, 2) := by decide +kernel
theorem dX11_moment_200 : decode cX11_moment 200 = .ok (.iconst 1, 1) := by decide +kernel
theorem dX11_moment_201 : decode cX11_moment 201 = .ok (.iadd, 1) := by decide +kernel
theorem dX11_moment_202 : decode cX11_moment 202 = .ok (.iload_n 2, 1) := by decide +kernel
theorem dX11_moment_203 : decode cX11_moment 203 = .ok (.iastore, 1) := by decide +kernel
theorem dX11_moment_204 : decode cX11_moment 204 = .ok (.aload_n 0, 1) := by decide +kernel
theorem dX11_moment_205 : decode cX11_moment 205 = .ok (.getfield 86, 3) := by decide +kernel
theorem dX11_moment_208 : decode cX11_moment 208 = .ok (.iload 4, 2) := by decide +kernel
theorem dX11_moment_210 : decode cX11_moment 210 = .ok (.iconst 2, 1) := by decide +kernel
theorem dX11_moment_211 : decode cX11_moment 211 = .ok (.iadd, 1) := by decide +kernel
theorem dX11_moment_212 : decode cX11_moment 212 = .ok (.aload_n 0, 1) := by decide +kernel
theorem dX11_moment_213 : decode cX11_moment 213 = .ok (.getfield 235, 3) := by decide +kernel
theorem dX11_moment_216 : decode cX11_moment 216 = .ok (.iastore, 1) := by decide +kernel
theorem dX11_moment_217 : decode cX11_moment 217 = .ok (.aload_n 0, 1) := by decide +kernel
theorem dX11_moment_218 : decode cX11_moment 218 = .ok (.getfield 86, 3) := by decide +kernel
theorem dX11_moment_221 : decode cX11_moment 221 = .ok (.iload 4, 2) := by decide +kernel
theorem dX11_moment_223 : decode cX11_moment 223 = .ok (.iconst 3, 1) := by decide +kernel
theorem dX11_moment_224 : decode cX11_moment 224 = .ok (.iadd, 1) := by decide +kernel
theorem dX11_moment_225 : decode cX11_moment 225 = .ok (.aload_n 0, 1) := by decide +kernel
theorem dX11_moment_226 : decode cX11_moment 226 = .ok (.getfield 232, 3) := by decide +kernel
theorem dX11_moment_229 : decode cX11_moment 229 = .ok (.iastore, 1) := by decide +kernel
theorem dX11_moment_230 : decode cX11_moment 230 = .ok (.iconst 0, 1) := by decide +kernel
theorem dX11_moment_231 : decode cX11_moment 231 = .ok (.istore 5, 2) := by decide +kernel
theorem dX11_moment_233 : decode cX11_moment 233 = .ok (.iload 5, 2) := by decide +kernel
theorem dX11_moment_235 : decode cX11_moment 235 = .ok (.iconst 3, 1) := by decide +kernel
theorem dX11_moment_236 : decode cX11_moment 236 = .ok (.if_icmp .ge 55, 3) := by decide +kernel
theorem dX11_moment_239 : decode cX11_moment 239 = .ok (.aload_n 0, 1) := by decide +kernel
theorem dX11_moment_240 : decode cX11_moment 240 = .ok (.getfield 86, 3) := by decide +kernel
theorem dX11_moment_243 : decode cX11_moment 243 = .ok (.iload 4, 2) := by decide +kernel
theorem dX11_moment_245 : decode cX11_moment 245 = .ok (.iconst 4, 1) := by decide +kernel
theorem dX11_moment_246 : decode cX11_moment 246 = .ok (.iadd, 1) := by decide +kernel
theorem dX11_moment_247 : decode cX11_moment 247 = .ok (.iconst 2, 1) := by decide +kernel
theorem dX11_moment_248 : decode cX11_moment 248 = .ok (.iload 5, 2) := by decide +kernel
theorem dX11_moment_250 : decode cX11_moment 250 = .ok (.imul, 1) := by decide +kernel
theorem dX11_moment_251 : decode cX11_moment 251 = .ok (.iadd, 1) := by decide +kernel
theorem dX11_moment_252 : decode cX11_moment 252 = .ok (.aload_n 0, 1) := by decide +kernel
theorem dX11_moment_253 : decode cX11_moment 253 = .ok (.getfield 92, 3) := by decide +kernel
theorem dX11_moment_256 : decode cX11_moment 256 = .ok (.iload 5, 2) := by decide +kernel
theorem dX11_moment_258 : decode cX11_moment 258 = .ok (.laload, 1) := by decide +kernel
theorem dX11_moment_259 : decode cX11_moment 259 = .ok (.invokestatic 198, 3) := by decide +kernel
theorem dX11_moment_262 : decode cX11_moment 262 = .ok (.iastore, 1) := by decide +kernel
theorem dX11_moment_263 : decode cX11_moment 263 = .ok (.aload_n 0, 1) := by decide +kernel
theorem dX11_moment_264 : decode cX11_moment 264 = .ok (.getfield 86, 3) := by decide +kernel
theorem dX11_moment_267 : decode cX11_moment 267 = .ok (.iload 4, 2) := by decide +kernel
theorem dX11_moment_269 : decode cX11_moment 269 = .ok (.iconst 5, 1) := by decide +kernel
theorem dX11_moment_270 : decode cX11_moment 270 = .ok (.iadd, 1) := by decide +kernel
theorem dX11_moment_271 : decode cX11_moment 271 = .ok (.iconst 2, 1) := by decide +kernel
theorem dX11_moment_272 : decode cX11_moment 272 = .ok (.iload 5, 2) := by decide +kernel
theorem dX11_moment_274 : decode cX11_moment 274 = .ok (.imul, 1) := by decide +kernel
theorem dX11_moment_275 : decode cX11_moment 275 = .ok (.iadd, 1) := by decide +kernel
theorem dX11_moment_276 : decode cX11_moment 276 = .ok (.aload_n 0, 1) := by decide +kernel
theorem dX11_moment_277 : decode cX11_moment 277 = .ok (.getfield 92, 3) := by decide +kernel
theorem dX11_moment_280 : decode cX11_moment 280 = .ok (.iload 5, 2) := by decide +kernel
theorem dX11_moment_282 : decode cX11_moment 282 = .ok (.laload, 1) := by decide +kernel
theorem dX11_moment_283 : decode cX11_moment 283 = .ok (.l2i, 1) := by decide +kernel
theorem dX11_moment_284 : decode cX11_moment 284 = .ok (.iastore, 1) := by decide +kernel
theorem dX11_moment_285 : decode cX11_moment 285 = .ok (.iinc 5 1, 3) := by decide +kernel
theorem dX11_moment_288 : decode cX11_moment 288 = .ok (.goto (-55), 3) := by decide +kernel
theorem dX11_moment_291 : decode cX11_moment 291 = .ok (.aload_n 0, 1) := by decide +kernel
theorem dX11_moment_292 : decode cX11_moment 292 = .ok (.getfield 80, 3) := by decide +kernel
theorem dX11_moment_295 : decode cX11_moment 295 = .ok (.iconst 2, 1) := by decide +kernel
theorem dX11_moment_296 : decode cX11_moment 296 = .ok (.dup2, 1) := by decide +kernel
theorem dX11_moment_297 : decode cX11_moment 297 = .ok (.iaload, 1) := by decide +kernel
theorem dX11_moment_298 : decode cX11_moment 298 = .ok (.iconst 1, 1) := by decide +kernel
theorem dX11_moment_299 : decode cX11_moment 299 = .ok (.iadd, 1) := by decide +kernel
theorem dX11_moment_300 : decode cX11_moment 300 = .ok (.iastore, 1) := by decide +kernel
theorem dX11_moment_301 : decode cX11_moment 301 = .ok (.iinc 2 1, 3) := by decide +kernel
theorem dX11_moment_304 : decode cX11_moment 304 = .ok (.goto (-292), 3) := by decide +kernel
theorem dX11_moment_307 : decode cX11_moment 307 = .ok (.aload_n 0, 1) := by decide +kernel
theorem dX11_moment_308 : decode cX11_moment 308 = .ok (.getfield 80, 3) := by decide +kernel
theorem dX11_moment_311 : decode cX11_moment 311 = .ok (.iconst 0, 1) := by decide +kernel
theorem dX11_moment_312 : decode cX11_moment 312 = .ok (.dup2, 1) := by decide +kernel
theorem dX11_moment_313 : decode cX11_moment 313 = .ok (.iaload, 1) := by decide +kernel
theorem dX11_moment_314 : decode cX11_moment 314 = .ok (.iconst 1, 1) := by decide +kernel
theorem dX11_moment_315 : decode cX11_moment 315 = .ok (.iadd, 1) := by decide +kernel
theorem dX11_moment_316 : decode cX11_moment 316 = .ok (.iastore, 1) := by decide +kernel
theorem dX11_moment_317 : decode cX11_moment 317 = .ok (.aload_n 0, 1) := by decide +kernel
theorem dX11_moment_318 : decode cX11_moment 318 = .ok (.getfield 80, 3) := by decide +kernel
theorem dX11_moment_321 : decode cX11_moment 321 = .ok (.iconst 1, 1) := by decide +kernel
theorem dX11_moment_322 : decode cX11_moment 322 = .ok (.dup2, 1) := by decide +kernel
theorem dX11_moment_323 : decode cX11_moment 323 = .ok (.iaload, 1) := by decide +kernel
theorem dX11_moment_324 : decode cX11_moment 324 = .ok (.aload_n 0, 1) := by decide +kernel
theorem dX11_moment_325 : decode cX11_moment 325 = .ok (.getfield 137, 3) := by decide +kernel
theorem dX11_moment_328 : decode cX11_moment 328 = .ok (.iadd, 1) := by decide +kernel
theorem dX11_moment_329 : decode cX11_moment 329 = .ok (.iastore, 1) := by decide +kernel
theorem dX11_moment_330 : decode cX11_moment 330 = .ok (.aload_n 0, 1) := by decide +kernel
theorem dX11_moment_331 : decode cX11_moment 331 = .ok (.getfield 80, 3) := by decide +kernel
theorem dX11_moment_334 : decode cX11_moment 334 = .ok (.bipush 6, 2) := by decide +kernel
theorem dX11_moment_336 : decode cX11_moment 336 = .ok (.aload_n 0, 1) := by decide +kernel
theorem dX11_moment_337 : decode cX11_moment 337 = .ok (.getfield 137, 3) := by decide +kernel
theorem dX11_moment_340 : decode cX11_moment 340 = .ok (.aload_n 0, 1) := by decide +kernel
theorem dX11_moment_341 : decode cX11_moment 341 = .ok (.getfield 80, 3) := by decide +kernel
theorem dX11_moment_344 : decode cX11_moment 344 = .ok (.bipush 6, 2) := by decide +kernel
theorem dX11_moment_346 : decode cX11_moment 346 = .ok (.iaload, 1) := by decide +kernel
theorem dX11_moment_347 : decode cX11_moment 347 = .ok (.if_icmp .le 10, 3) := by decide +kernel
theorem dX11_moment_350 : decode cX11_moment 350 = .ok (.aload_n 0, 1) := by decide +kernel
theorem dX11_moment_351 : decode cX11_moment 351 = .ok (.getfield 137, 3) := by decide +kernel
theorem dX11_moment_354 : decode cX11_moment 354 = .ok (.goto 10, 3) := by decide +kernel
theorem dX11_moment_357 : decode cX11_moment 357 = .ok (.aload_n 0, 1) := by decide +kernel
theorem dX11_moment_358 : decode cX11_moment 358 = .ok (.getfield 80, 3) := by decide +kernel
theorem dX11_moment_361 : decode cX11_moment 361 = .ok (.bipush 6, 2) := by decide +kernel
theorem dX11_moment_363 : decode cX11_moment 363 = .ok (.iaload, 1) := by decide +kernel
theorem dX11_moment_364 : decode cX11_moment 364 = .ok (.iastore, 1) := by decide +kernel
theorem dX11_moment_365 : decode cX11_moment 365 = .ok (.iconst 1, 1) := by decide +kernel
theorem dX11_moment_366 : decode cX11_moment 366 = .ok (.ireturn, 1) := by decide +kernel
theorem dX11_goThroughAct_0 : decode cX11_goThroughAct 0 = .ok (.aload_n 0, 1) := by decide +kernel
theorem dX11_goThroughAct_1 : decode cX11_goThroughAct 1 = .ok (.iload_n 2, 1) := by decide +kernel
theorem dX11_goThroughAct_2 : decode cX11_goThroughAct 2 = .ok (.iconst 1, 1) := by decide +kernel
theorem dX11_goThroughAct_3 : decode cX11_goThroughAct 3 = .ok (.iadd, 1) := by decide +kernel
theorem dX11_goThroughAct_4 : decode cX11_goThroughAct 4 = .ok (.putfield 235, 3) := by decide +kernel
theorem dX11_goThroughAct_7 : decode cX11_goThroughAct 7 = .ok (.aload_n 0, 1) := by decide +kernel
theorem dX11_goThroughAct_8 : decode cX11_goThroughAct 8 = .ok (.getfield 64, 3) := by decide +kernel
theorem dX11_goThroughAct_11 : decode cX11_goThroughAct 11 = .ok (.iload_n 2, 1) := by decide +kernel
theorem dX11_goThroughAct_12 : decode cX11_goThroughAct 12 = .ok (.iaload, 1) := by decide +kernel
theorem dX11_goThroughAct_13 : decode cX11_goThroughAct 13 = .ok (.iconst 2, 1) := by decide +kernel
theorem dX11_goThroughAct_14 : decode cX11_goThroughAct 14 = .ok (.if_icmp .ne 32, 3) := by decide +kernel
theorem dX11_goThroughAct_17 : decode cX11_goThroughAct 17 = .ok (.aload_n 0, 1) := by decide +kernel
theorem dX11_goThroughAct_18 : decode cX11_goThroughAct 18 = .ok (.iconst 1, 1) := by decide +kernel
theorem dX11_goThroughAct_19 : decode cX11_goThroughAct 19 = .ok (.invokevirtual 122, 3) := by decide +kernel
theorem dX11_goThroughAct_22 : decode cX11_goThroughAct 22 = .ok (.istore_n 3, 1) := by decide +kernel
theorem dX11_goThroughAct_23 : decode cX11_goThroughAct 23 = .ok (.aload_n 0, 1) := by decide +kernel
theorem dX11_goThroughAct_24 : decode cX11_goThroughAct 24 = .ok (.getfield 80, 3) := by decide +kernel
theorem dX11_goThroughAct_27 : decode cX11_goThroughAct 27 = .ok (.iconst 5, 1) := by decide +kernel
theorem dX11_goThroughAct_28 : decode cX11_goThroughAct 28 = .ok (.dup2, 1) := by decide +kernel
theorem dX11_goThroughAct_29 : decode cX11_goThroughAct 29 = .ok (.iaload, 1) := by decide +kernel
theorem dX11_goThroughAct_30 : decode cX11_goThroughAct 30 = .ok (.iconst 1, 1) := by decide +kernel
theorem dX11_goThroughAct_31 : decode cX11_goThroughAct 31 = .ok (.iadd, 1) := by decide +kernel
theorem dX11_goThroughAct_32 : decode cX11_goThroughAct 32 = .ok (.iastore, 1) := by decide +kernel
theorem dX11_goThroughAct_33 : decode cX11_goThroughAct 33 = .ok (.aload_n 0, 1) := by decide +kernel
theorem dX11_goThroughAct_34 : decode cX11_goThroughAct 34 = .ok (.iload_n 2, 1) := by decide +kernel
theorem dX11_goThroughAct_35 : decode cX11_goThroughAct 35 = .ok (.iconst 1, 1) := by decide +kernel
theorem dX11_goThroughAct_36 : decode cX11_goThroughAct 36 = .ok (.iadd, 1) := by decide +kernel
theorem dX11_goThroughAct_37 : decode cX11_goThroughAct 37 = .ok (.putfield 232, 3) := by decide +kernel
theorem dX11_goThroughAct_40 : decode cX11_goThroughAct 40 = .ok (.aload_n 0, 1) := by decide +kernel
theorem dX11_goThroughAct_41 : decode cX11_goThroughAct 41 = .ok (.iload_n 1, 1) := by decide +kernel
theorem dX11_goThroughAct_42 : decode cX11_goThroughAct 42 = .ok (.invokevirtual 241, 3) := by decide +kernel
theorem dX11_goThroughAct_45 : decode cX11_goThroughAct 45 = .ok (.ireturn, 1) := by decide +kernel
theorem dX11_goThroughAct_46 : decode cX11_goThroughAct 46 = .ok (.aload_n 0, 1) := by decide +kernel
theorem dX11_goThroughAct_47 : decode cX11_goThroughAct 47 = .ok (.getfield 64, 3) := by decide +kernel
theorem dX11_goThroughAct_50 : decode cX11_goThroughAct 50 = .ok (.iload_n 2, 1) := by decide +kernel
theorem dX11_goThroughAct_51 : decode cX11_goThroughAct 51 = .ok (.iaload, 1) := by decide +kernel
theorem dX11_goThroughAct_52 : decode cX11_goThroughAct 52 = .ok (.ifCond .ne 27, 3) := by decide +kernel
theorem dX11_goThroughAct_55 : decode cX11_goThroughAct 55 = .ok (.aload_n 0, 1) := by decide +kernel
theorem dX11_goThroughAct_56 : decode cX11_goThroughAct 56 = .ok (.iconst 1, 1) := by decide +kernel
theorem dX11_goThroughAct_57 : decode cX11_goThroughAct 57 = .ok (.iload_n 1, 1) := by decide +kernel
theorem dX11_goThroughAct_58 : decode cX11_goThroughAct 58 = .ok (.aload_n 0, 1) := by decide +kernel
theorem dX11_goThroughAct_59 : decode cX11_goThroughAct 59 = .ok (.getfield 67, 3) := by decide +kernel
theorem dX11_goThroughAct_62 : decode cX11_goThroughAct 62 = .ok (.iload_n 2, 1) := by decide +kernel
theorem dX11_goThroughAct_63 : decode cX11_goThroughAct 63 = .ok (.iaload, 1) := by decide +kernel
theorem dX11_goThroughAct_64 : decode cX11_goThroughAct 64 = .ok (.aload_n 0, 1) := by decide +kernel
theorem dX11_goThroughAct_65 : decode cX11_goThroughAct 65 = .ok (.getfield 73, 3) := by decide +kernel
theorem dX11_goThroughAct_68 : decode cX11_goThroughAct 68 = .ok (.iload_n 2, 1) := by decide +kernel
theorem dX11_goThroughAct_69 : decode cX11_goThroughAct 69 = .ok (.laload, 1) := by decide +kernel
theorem dX11_goThroughAct_70 : decode cX11_goThroughAct 70 = .ok (.bipush (-9), 2) := by decide +kernel
theorem dX11_goThroughAct_72 : decode cX11_goThroughAct 72 = .ok (.lconst 0, 1) := by decide +kernel
theorem dX11_goThroughAct_73 : decode cX11_goThroughAct 73 = .ok (.invokevirtual 214, 3) := by decide +kernel
theorem dX11_goThroughAct_76 : decode cX11_goThroughAct 76 = .ok (.goto 34, 3) := by decide +kernel
theorem dX11_goThroughAct_79 : decode cX11_goThroughAct 79 = .ok (.aload_n 0, 1) := by decide +kernel
theorem dX11_goThroughAct_80 : decode cX11_goThroughAct 80 = .ok (.iconst 1, 1) := by decide +kernel
theorem dX11_goThroughAct_81 : decode cX11_goThroughAct 81 = .ok (.iload_n 1, 1) := by decide +kernel
theorem dX11_goThroughAct_82 : decode cX11_goThroughAct 82 = .ok (.aload_n 0, 1) := by decide +kernel
theorem dX11_goThroughAct_83 : decode cX11_goThroughAct 83 = .ok (.getfield 70, 3) := by decide +kernel
theorem dX11_goThroughAct_86 : decode cX11_goThroughAct 86 = .ok (.iload_n 2, 1) := by decide +kernel
theorem dX11_goThroughAct_87 : decode cX11_goThroughAct 87 = .ok (.iaload, 1) := by decide +kernel
theorem dX11_goThroughAct_88 : decode cX11_goThroughAct 88 = .ok (.aload_n 0, 1) := by decide +kernel
theorem dX11_goThroughAct_89 : decode cX11_goThroughAct 89 = .ok (.iconst 1, 1) := by decide +kernel
theorem dX11_goThroughAct_90 : decode cX11_goThroughAct 90 = .ok (.iload_n 1, 1) := by decide +kernel
theorem dX11_goThroughAct_91 : decode cX11_goThroughAct 91 = .ok (.aload_n 0, 1) := by decide +kernel
theorem dX11_goThroughAct_92 : decode cX11_goThroughAct 92 = .ok (.getfield 67, 3) := by decide +kernel
theorem dX11_goThroughAct_95 : decode cX11_goThroughAct 95 = .ok (.iload_n 2, 1) := by decide +kernel
theorem dX11_goThroughAct_96 : decode cX11_goThroughAct 96 = .ok (.iaload, 1) := by decide +kernel
theorem dX11_goThroughAct_97 : decode cX11_goThroughAct 97 = .ok (.invokevirtual 210, 3) := by decide +kernel
theorem dX11_goThroughAct_100 : decode cX11_goThroughAct 100 = .ok (.aload_n 0, 1) := by decide +kernel
theorem dX11_goThroughAct_101 : decode cX11_goThroughAct 101 = .ok (.getfield 67, 3) := by decide +kernel
theorem dX11_goThroughAct_104 : decode cX11_goThroughAct 104 = .ok (.iload_n 2, 1) := by decide +kernel
theorem dX11_goThroughAct_105 : decode cX11_goThroughAct 105 = .ok (.iaload, 1) := by decide +kernel
theorem dX11_goThroughAct_106 : decode cX11_goThroughAct 106 = .ok (.lconst 0, 1) := by decide +kernel
theorem dX11_goThroughAct_107 : decode cX11_goThroughAct 107 = .ok (.invokevirtual 214, 3) := by decide +kernel
theorem dX11_goThroughAct_110 : decode cX11_goThroughAct 110 = .ok (.aload_n 0, 1) := by decide +kernel
theorem dX11_goThroughAct_111 : decode cX11_goThroughAct 111 = .ok (.getfield 188, 3) := by decide +kernel
theorem dX11_goThroughAct_114 : decode cX11_goThroughAct 114 = .ok (.istore_n 3, 1) := by decide +kernel
theorem dX11_goThroughAct_115 : decode cX11_goThroughAct 115 = .ok (.iconst 0, 1) := by decide +kernel
theorem dX11_goThroughAct_116 : decode cX11_goThroughAct 116 = .ok (.istore 4, 2) := by decide +kernel
theorem dX11_goThroughAct_118 : decode cX11_goThroughAct 118 = .ok (.iload 4, 2) := by decide +kernel
theorem dX11_goThroughAct_120 : decode cX11_goThroughAct 120 = .ok (.iload_n 3, 1) := by decide +kernel
theorem dX11_goThroughAct_121 : decode cX11_goThroughAct 121 = .ok (.if_icmp .ge 51, 3) := by decide +kernel
theorem dX11_goThroughAct_124 : decode cX11_goThroughAct 124 = .ok (.aload_n 0, 1) := by decide +kernel
theorem dX11_goThroughAct_125 : decode cX11_goThroughAct 125 = .ok (.getfield 95, 3) := by decide +kernel
theorem dX11_goThroughAct_128 : decode cX11_goThroughAct 128 = .ok (.iload 4, 2) := by decide +kernel
theorem dX11_goThroughAct_130 : decode cX11_goThroughAct 130 = .ok (.aload_n 0, 1) := by decide +kernel
theorem dX11_goThroughAct_131 : decode cX11_goThroughAct 131 = .ok (.getfield 55, 3) := by decide +kernel
theorem dX11_goThroughAct_134 : decode cX11_goThroughAct 134 = .ok (.iload 4, 2) := by decide +kernel
theorem dX11_goThroughAct_136 : decode cX11_goThroughAct 136 = .ok (.iaload, 1) := by decide +kernel
theorem dX11_goThroughAct_137 : decode cX11_goThroughAct 137 = .ok (.iastore, 1) := by decide +kernel
theorem dX11_goThroughAct_138 : decode cX11_goThroughAct 138 = .ok (.aload_n 0, 1) := by decide +kernel
theorem dX11_goThroughAct_139 : decode cX11_goThroughAct 139 = .ok (.getfield 98, 3) := by decide +kernel
theorem dX11_goThroughAct_142 : decode cX11_goThroughAct 142 = .ok (.iload 4, 2) := by decide +kernel
theorem dX11_goThroughAct_144 : decode cX11_goThroughAct 144 = .ok (.aload_n 0, 1) := by decide +kernel
theorem dX11_goThroughAct_145 : decode cX11_goThroughAct 145 = .ok (.getfield 58, 3) := by decide +kernel
theorem dX11_goThroughAct_148 : decode cX11_goThroughAct 148 = .ok (.iload 4, 2) := by decide +kernel
theorem dX11_goThroughAct_150 : decode cX11_goThroughAct 150 = .ok (.iaload, 1) := by decide +kernel
theorem dX11_goThroughAct_151 : decode cX11_goThroughAct 151 = .ok (.iastore, 1) := by decide +kernel
theorem dX11_goThroughAct_152 : decode cX11_goThroughAct 152 = .ok (.aload_n 0, 1) := by decide +kernel
theorem dX11_goThroughAct_153 : decode cX11_goThroughAct 153 = .ok (.getfield 101, 3) := by decide +kernel
theorem dX11_goThroughAct_156 : decode cX11_goThroughAct 156 = .ok (.iload 4, 2) := by decide +kernel
theorem dX11_goThroughAct_158 : decode cX11_goThroughAct 158 = .ok (.aload_n 0, 1) := by decide +kernel
theorem dX11_goThroughAct_159 : decode cX11_goThroughAct 159 = .ok (.getfield 61, 3) := by decide +kernel
theorem dX11_goThroughAct_162 : decode cX11_goThroughAct 162 = .ok (.iload 4, 2) := by decide +kernel
theorem dX11_goThroughAct_164 : decode cX11_goThroughAct 164 = .ok (.iaload, 1) := by decide +kernel
theorem dX11_goThroughAct_165 : decode cX11_goThroughAct 165 = .ok (.iastore, 1) := by decide +kernel
theorem dX11_goThroughAct_166 : decode cX11_goThroughAct 166 = .ok (.iinc 4 1, 3) := by decide +kernel
theorem dX11_goThroughAct_169 : decode cX11_goThroughAct 169 = .ok (.goto (-51), 3) := by decide +kernel
theorem dX11_goThroughAct_172 : decode cX11_goThroughAct 172 = .ok (.iconst 0, 1) := by decide +kernel
theorem dX11_goThroughAct_173 : decode cX11_goThroughAct 173 = .ok (.istore 4, 2) := by decide +kernel
theorem dX11_goThroughAct_175 : decode cX11_goThroughAct 175 = .ok (.iload 4, 2) := by decide +kernel
theorem dX11_goThroughAct_177 : decode cX11_goThroughAct 177 = .ok (.iload_n 3, 1) := by decide +kernel
theorem dX11_goThroughAct_178 : decode cX11_goThroughAct 178 = .ok (.if_icmp .ge 86, 3) := by decide +kernel
theorem dX11_goThroughAct_181 : decode cX11_goThroughAct 181 = .ok (.aload_n 0, 1) := by decide +kernel
theorem dX11_goThroughAct_182 : decode cX11_goThroughAct 182 = .ok (.iconst 1, 1) := by decide +kernel
theorem dX11_goThroughAct_183 : decode cX11_goThroughAct 183 = .ok (.aload_n 0, 1) := by decide +kernel
theorem dX11_goThroughAct_184 : decode cX11_goThroughAct 184 = .ok (.getfield 95, 3) := by decide +kernel
theorem dX11_goThroughAct_187 : decode cX11_goThroughAct 187 = .ok (.iload 4, 2) := by decide +kernel
theorem dX11_goThroughAct_189 : decode cX11_goThroughAct 189 = .ok (.iaload, 1) := by decide +kernel
theorem dX11_goThroughAct_190 : decode cX11_goThroughAct 190 = .ok (.aload_n 0, 1) := by decide +kernel
theorem dX11_goThroughAct_191 : decode cX11_goThroughAct 191 = .ok (.getfield 98, 3) := by decide +kernel
theorem dX11_goThroughAct_194 : decode cX11_goThroughAct 194 = .ok (.iload 4, 2) := by decide +kernel
theorem dX11_goThroughAct_196 : decode cX11_goThroughAct 196 = .ok (.iaload, 1) := by decide +kernel
theorem dX11_goThroughAct_197 : decode cX11_goThroughAct 197 = .ok (.aload_n 0, 1) := by decide +kernel
theorem dX11_goThroughAct_198 : decode cX11_goThroughAct 198 = .ok (.getfield 101, 3) := by decide +kernel
theorem dX11_goThroughAct_201 : decode cX11_goThroughAct 201 = .ok (.iload 4, 2) := by decide +kernel
theorem dX11_goThroughAct_203 : decode cX11_goThroughAct 203 = .ok (.iaload, 1) := by decide +kernel
theorem dX11_goThroughAct_204 : decode cX11_goThroughAct 204 = .ok (.invokevirtual 118, 3) := by decide +kernel
theorem dX11_goThroughAct_207 : decode cX11_goThroughAct 207 = .ok (.ifCond .ne 5, 3) := by decide +kernel
theorem dX11_goThroughAct_210 : decode cX11_goThroughAct 210 = .ok (.iconst 0, 1) := by decide +kernel
theorem dX11_goThroughAct_211 : decode cX11_goThroughAct 211 = .ok (.ireturn, 1) := by decide +kernel
theorem dX11_goThroughAct_212 : decode cX11_goThroughAct 212 = .ok (.aload_n 0, 1) := by decide +kernel
theorem dX11_goThroughAct_213 : decode cX11_goThroughAct 213 = .ok (.getfield 80, 3) := by decide +kernel
theorem dX11_goThroughAct_216 : decode cX11_goThroughAct 216 = .ok (.aload_n 0, 1) := by decide +kernel
theorem dX11_goThroughAct_217 : decode cX11_goThroughAct 217 = .ok (.getfield 95, 3) := by decide +kernel
theorem dX11_goThroughAct_220 : decode cX11_goThroughAct 220 = .ok (.iload 4, 2) := by decide +kernel
theorem dX11_goThroughAct_222 : decode cX11_goThroughAct 222 = .ok (.iaload, 1) := by decide +kernel
theorem dX11_goThroughAct_223 : decode cX11_goThroughAct 223 = .ok (.iconst (-1), 1) := by decide +kernel
theorem dX11_goThroughAct_224 : decode cX11_goThroughAct 224 = .ok (.if_icmp .ne 7, 3) := by decide +kernel
theorem dX11_goThroughAct_227 : decode cX11_goThroughAct 227 = .ok (.iconst 4, 1) := by decide +kernel
theorem dX11_goThroughAct_228 : decode cX11_goThroughAct 228 = .ok (.goto 4, 3) := by decide +kernel
theorem dX11_goThroughAct_231 : decode cX11_goThroughAct 231 = .ok (.iconst 3, 1) := by decide +kernel
theorem dX11_goThroughAct_232 : decode cX11_goThroughAct 232 = .ok (.dup2, 1) := by decide +kernel
theorem dX11_goThroughAct_233 : decode cX11_goThroughAct 233 = .ok (.iaload, 1) := by decide +kernel
theorem dX11_goThroughAct_234 : decode cX11_goThroughAct 234 = .ok (.iconst 1, 1) := by decide +kernel
theorem dX11_goThroughAct_235 : decode cX11_goThroughAct 235 = .ok (.iadd, 1) := by decide +kernel
theorem dX11_goThroughAct_236 : decode cX11_goThroughAct 236 = .ok (.iastore, 1) := by decide +kernel
theorem dX11_goThroughAct_237 : decode cX11_goThroughAct 237 = .ok (.aload_n 0, 1) := by decide +kernel
theorem dX11_goThroughAct_238 : decode cX11_goThroughAct 238 = .ok (.getfield 95, 3) := by decide +kernel
theorem dX11_goThroughAct_241 : decode cX11_goThroughAct 241 = .ok (.iload 4, 2) := by decide +kernel
theorem dX11_goThroughAct_243 : decode cX11_goThroughAct 243 = .ok (.iaload, 1) := by decide +kernel
theorem dX11_goThroughAct_244 : decode cX11_goThroughAct 244 = .ok (.iconst (-1), 1) := by decide +kernel
theorem dX11_goThroughAct_245 : decode cX11_goThroughAct 245 = .ok (.if_icmp .eq 13, 3) := by decide +kernel
theorem dX11_goThroughAct_248 : decode cX11_goThroughAct 248 = .ok (.aload_n 0, 1) := by decide +kernel
theorem dX11_goThroughAct_249 : decode cX11_goThroughAct 249 = .ok (.iload_n 1, 1) := by decide +kernel
theorem dX11_goThroughAct_250 : decode cX11_goThroughAct 250 = .ok (.invokevirtual 241, 3) := by decide +kernel
theorem dX11_goThroughAct_253 : decode cX11_goThroughAct 253 = .ok (.ifCond .ne 5, 3) := by decide +kernel
theorem dX11_goThroughAct_256 : decode cX11_goThroughAct 256 = .ok (.iconst 0, 1) := by decide +kernel
theorem dX11_goThroughAct_257 : decode cX11_goThroughAct 257 = .ok (.ireturn, 1) := by decide +kernel
theorem dX11_goThroughAct_258 : decode cX11_goThroughAct 258 = .ok (.iinc 4 1, 3) := by decide +kernel
theorem dX11_goThroughAct_261 : decode cX11_goThroughAct 261 = .ok (.goto (-86), 3) := by decide +kernel
theorem dX11_goThroughAct_264 : decode cX11_goThroughAct 264 = .ok (.iconst 1, 1) := by decide +kernel
theorem dX11_goThroughAct_265 : decode cX11_goThroughAct 265 = .ok (.ireturn, 1) := by decide +kernel
theorem dX11_goThrough_0 : decode cX11_goThrough 0 = .ok (.iconst 0, 1) := by decide +kernel
theorem dX11_goThrough_1 : decode cX11_goThrough 1 = .ok (.istore_n 2, 1) := by decide +kernel
theorem dX11_goThrough_2 : decode cX11_goThrough 2 = .ok (.iload_n 2, 1) := by decide +kernel
theorem dX11_goThrough_3 : decode cX11_goThrough 3 = .ok (.bipush 7, 2) := by decide +kernel
theorem dX11_goThrough_5 : decode cX11_goThrough 5 = .ok (.if_icmp .ge 16, 3) := by decide +kernel
theorem dX11_goThrough_8 : decode cX11_goThrough 8 = .ok (.aload_n 0, 1) := by decide +kernel
theorem dX11_goThrough_9 : decode cX11_goThrough 9 = .ok (.getfield 80, 3) := by decide +kernel
theorem dX11_goThrough_12 : decode cX11_goThrough 12 = .ok (.iload_n 2, 1) := by decide +kernel
theorem dX11_goThrough_13 : decode cX11_goThrough 13 = .ok (.iconst 0, 1) := by decide +kernel
theorem dX11_goThrough_14 : decode cX11_goThrough 14 = .ok (.iastore, 1) := by decide +kernel
theorem dX11_goThrough_15 : decode cX11_goThrough 15 = .ok (.iinc 2 1, 3) := by decide +kernel
theorem dX11_goThrough_18 : decode cX11_goThrough 18 = .ok (.goto (-16), 3) := by decide +kernel
theorem dX11_goThrough_21 : decode cX11_goThrough 21 = .ok (.aload_n 0, 1) := by decide +kernel
theorem dX11_goThrough_22 : decode cX11_goThrough 22 = .ok (.invokevirtual 244, 3) := by decide +kernel
theorem dX11_goThrough_25 : decode cX11_goThrough 25 = .ok (.aload_n 0, 1) := by decide +kernel
theorem dX11_goThrough_26 : decode cX11_goThrough 26 = .ok (.iconst 1, 1) := by decide +kernel
theorem dX11_goThrough_27 : decode cX11_goThrough 27 = .ok (.iload_n 1, 1) := by decide +kernel
theorem dX11_goThrough_28 : decode cX11_goThrough 28 = .ok (.invokevirtual 167, 3) := by decide +kernel
theorem dX11_goThrough_31 : decode cX11_goThrough 31 = .ok (.aload_n 0, 1) := by decide +kernel
theorem dX11_goThrough_32 : decode cX11_goThrough 32 = .ok (.iconst 0, 1) := by decide +kernel
theorem dX11_goThrough_33 : decode cX11_goThrough 33 = .ok (.putfield 232, 3) := by decide +kernel
theorem dX11_goThrough_36 : decode cX11_goThrough 36 = .ok (.aload_n 0, 1) := by decide +kernel
theorem dX11_goThrough_37 : decode cX11_goThrough 37 = .ok (.iconst 0, 1) := by decide +kernel
theorem dX11_goThrough_38 : decode cX11_goThrough 38 = .ok (.putfield 235, 3) := by decide +kernel
theorem dX11_goThrough_41 : decode cX11_goThrough 41 = .ok (.aload_n 0, 1) := by decide +kernel
theorem dX11_goThrough_42 : decode cX11_goThrough 42 = .ok (.iload_n 1, 1) := by decide +kernel
theorem dX11_goThrough_43 : decode cX11_goThrough 43 = .ok (.invokevirtual 241, 3) := by decide +kernel
theorem dX11_goThrough_46 : decode cX11_goThrough 46 = .ok (.istore_n 2, 1) := by decide +kernel
theorem dX11_goThrough_47 : decode cX11_goThrough 47 = .ok (.iconst 0, 1) := by decide +kernel
theorem dX11_goThrough_48 : decode cX11_goThrough 48 = .ok (.istore_n 3, 1) := by decide +kernel
theorem dX11_goThrough_49 : decode cX11_goThrough 49 = .ok (.iload_n 3, 1) := by decide +kernel
theorem dX11_goThrough_50 : decode cX11_goThrough 50 = .ok (.aload_n 0, 1) := by decide +kernel
theorem dX11_goThrough_51 : decode cX11_goThrough 51 = .ok (.getfield 225, 3) := by decide +kernel
theorem dX11_goThrough_54 : decode cX11_goThrough 54 = .ok (.if_icmp .ge 20, 3) := by decide +kernel
theorem dX11_goThrough_57 : decode cX11_goThrough 57 = .ok (.iload_n 2, 1) := by decide +kernel
theorem dX11_goThrough_58 : decode cX11_goThrough 58 = .ok (.ifCond .eq 16, 3) := by decide +kernel
theorem dX11_goThrough_61 : decode cX11_goThrough 61 = .ok (.aload_n 0, 1) := by decide +kernel
theorem dX11_goThrough_62 : decode cX11_goThrough 62 = .ok (.iload_n 1, 1) := by decide +kernel
theorem dX11_goThrough_63 : decode cX11_goThrough 63 = .ok (.iload_n 3, 1) := by decide +kernel
theorem dX11_goThrough_64 : decode cX11_goThrough 64 = .ok (.invokevirtual 247, 3) := by decide +kernel
theorem dX11_goThrough_67 : decode cX11_goThrough 67 = .ok (.istore_n 2, 1) := by decide +kernel
theorem dX11_goThrough_68 : decode cX11_goThrough 68 = .ok (.iinc 3 1, 3) := by decide +kernel
theorem dX11_goThrough_71 : decode cX11_goThrough 71 = .ok (.goto (-22), 3) := by decide +kernel
theorem dX11_goThrough_74 : decode cX11_goThrough 74 = .ok (.iload_n 2, 1) := by decide +kernel
theorem dX11_goThrough_75 : decode cX11_goThrough 75 = .ok (.ireturn, 1) := by decide +kernel
theorem dX11_through_0 : decode cX11_through 0 = .ok (.aload_n 0, 1) := by decide +kernel
theorem dX11_through_1 : decode cX11_through 1 = .ok (.iconst 0, 1) := by decide +kernel
theorem dX11_through_2 : decode cX11_through 2 = .ok (.putfield 104, 3) := by decide +kernel
theorem dX11_through_5 : decode cX11_through 5 = .ok (.iload_n 1, 1) := by decide +kernel
theorem dX11_through_6 : decode cX11_through 6 = .ok (.iconst 0, 1) := by decide +kernel
theorem dX11_through_7 : decode cX11_through 7 = .ok (.iconst 2, 1) := by decide +kernel
theorem dX11_through_8 : decode cX11_through 8 = .ok (.invokestatic 110, 3) := by decide +kernel
theorem dX11_through_11 : decode cX11_through 11 = .ok (.ifCond .ne 10, 3) := by decide +kernel
theorem dX11_through_14 : decode cX11_through 14 = .ok (.aload_n 0, 1) := by decide +kernel
theorem dX11_through_15 : decode cX11_through 15 = .ok (.bipush (-2), 2) := by decide +kernel
theorem dX11_through_17 : decode cX11_through 17 = .ok (.invokevirtual 114, 3) := by decide +kernel
theorem dX11_through_20 : decode cX11_through 20 = .ok (.ireturn, 1) := by decide +kernel
theorem dX11_through_21 : decode cX11_through 21 = .ok (.aload_n 0, 1) := by decide +kernel
theorem dX11_through_22 : decode cX11_through 22 = .ok (.iload_n 1, 1) := by decide +kernel
theorem dX11_through_23 : decode cX11_through 23 = .ok (.invokevirtual 250, 3) := by decide +kernel
theorem dX11_through_26 : decode cX11_through 26 = .ok (.ifCond .ne 10, 3) := by decide +kernel
theorem dX11_through_29 : decode cX11_through 29 = .ok (.aload_n 0, 1) := by decide +kernel
theorem dX11_through_30 : decode cX11_through 30 = .ok (.bipush (-6), 2) := by decide +kernel
theorem dX11_through_32 : decode cX11_through 32 = .ok (.invokevirtual 114, 3) := by decide +kernel
theorem dX11_through_35 : decode cX11_through 35 = .ok (.ireturn, 1) := by decide +kernel
theorem dX11_through_36 : decode cX11_through 36 = .ok (.iconst 0, 1) := by decide +kernel
theorem dX11_through_37 : decode cX11_through 37 = .ok (.istore_n 2, 1) := by decide +kernel
theorem dX11_through_38 : decode cX11_through 38 = .ok (.iload_n 2, 1) := by decide +kernel
theorem dX11_through_39 : decode cX11_through 39 = .ok (.bipush 7, 2) := by decide +kernel
theorem dX11_through_41 : decode cX11_through 41 = .ok (.if_icmp .ge 21, 3) := by decide +kernel
theorem dX11_through_44 : decode cX11_through 44 = .ok (.aload_n 0, 1) := by decide +kernel
theorem dX11_through_45 : decode cX11_through 45 = .ok (.getfield 83, 3) := by decide +kernel
theorem dX11_through_48 : decode cX11_through 48 = .ok (.iload_n 2, 1) := by decide +kernel
theorem dX11_through_49 : decode cX11_through 49 = .ok (.aload_n 0, 1) := by decide +kernel
theorem dX11_through_50 : decode cX11_through 50 = .ok (.getfield 80, 3) := by decide +kernel
theorem dX11_through_53 : decode cX11_through 53 = .ok (.iload_n 2, 1) := by decide +kernel
theorem dX11_through_54 : decode cX11_through 54 = .ok (.iaload, 1) := by decide +kernel
theorem dX11_through_55 : decode cX11_through 55 = .ok (.iastore, 1) := by decide +kernel
theorem dX11_through_56 : decode cX11_through 56 = .ok (.iinc 2 1, 3) := by decide +kernel
theorem dX11_through_59 : decode cX11_through 59 = .ok (.goto (-21), 3) := by decide +kernel
theorem dX11_through_62 : decode cX11_through 62 = .ok (.iconst 0, 1) := by decide +kernel
theorem dX11_through_63 : decode cX11_through 63 = .ok (.istore_n 2, 1) := by decide +kernel
theorem dX11_through_64 : decode cX11_through 64 = .ok (.iload_n 2, 1) := by decide +kernel
theorem dX11_through_65 : decode cX11_through 65 = .ok (.sipush 500, 3) := by decide +kernel
theorem dX11_through_68 : decode cX11_through 68 = .ok (.if_icmp .ge 21, 3) := by decide +kernel
theorem dX11_through_71 : decode cX11_through 71 = .ok (.aload_n 0, 1) := by decide +kernel
theorem dX11_through_72 : decode cX11_through 72 = .ok (.getfield 89, 3) := by decide +kernel
theorem dX11_through_75 : decode cX11_through 75 = .ok (.iload_n 2, 1) := by decide +kernel
theorem dX11_through_76 : decode cX11_through 76 = .ok (.aload_n 0, 1) := by decide +kernel
theorem dX11_through_77 : decode cX11_through 77 = .ok (.getfield 86, 3) := by decide +kernel
theorem dX11_through_80 : decode cX11_through 80 = .ok (.iload_n 2, 1) := by decide +kernel
theorem dX11_through_81 : decode cX11_through 81 = .ok (.iaload, 1) := by decide +kernel
theorem dX11_through_82 : decode cX11_through 82 = .ok (.iastore, 1) := by decide +kernel
theorem dX11_through_83 : decode cX11_through 83 = .ok (.iinc 2 1, 3) := by decide +kernel
theorem dX11_through_86 : decode cX11_through 86 = .ok (.goto (-22), 3) := by decide +kernel
theorem dX11_through_89 : decode cX11_through 89 = .ok (.aload_n 0, 1) := by decide +kernel
theorem dX11_through_90 : decode cX11_through 90 = .ok (.getfield 83, 3) := by decide +kernel
theorem dX11_through_93 : decode cX11_through 93 = .ok (.iconst 2, 1) := by decide +kernel
theorem dX11_through_94 : decode cX11_through 94 = .ok (.iaload, 1) := by decide +kernel
theorem dX11_through_95 : decode cX11_through 95 = .ok (.ireturn, 1) := by decide +kernel
theorem dX11_gone_0 : decode cX11_gone 0 = .ok (.aload_n 0, 1) := by decide +kernel
theorem dX11_gone_1 : decode cX11_gone 1 = .ok (.iconst 0, 1) := by decide +kernel
theorem dX11_gone_2 : decode cX11_gone 2 = .ok (.putfield 104, 3) := by decide +kernel
theorem dX11_gone_5 : decode cX11_gone 5 = .ok (.iload_n 1, 1) := by decide +kernel
theorem dX11_gone_6 : decode cX11_gone 6 = .ok (.iconst 0, 1) := by decide +kernel
theorem dX11_gone_7 : decode cX11_gone 7 = .ok (.bipush 6, 2) := by decide +kernel
theorem dX11_gone_9 : decode cX11_gone 9 = .ok (.invokestatic 110, 3) := by decide +kernel
theorem dX11_gone_12 : decode cX11_gone 12 = .ok (.ifCond .eq 12, 3) := by decide +kernel
theorem dX11_gone_15 : decode cX11_gone 15 = .ok (.aload_n 0, 1) := by decide +kernel
theorem dX11_gone_16 : decode cX11_gone 16 = .ok (.getfield 83, 3) := by decide +kernel
theorem dX11_gone_19 : decode cX11_gone 19 = .ok (.iload_n 1, 1) := by decide +kernel
theorem dX11_gone_20 : decode cX11_gone 20 = .ok (.iaload, 1) := by decide +kernel
theorem dX11_gone_21 : decode cX11_gone 21 = .ok (.goto 5, 3) := by decide +kernel
theorem dX11_gone_24 : decode cX11_gone 24 = .ok (.bipush (-9), 2) := by decide +kernel
theorem dX11_gone_26 : decode cX11_gone 26 = .ok (.ireturn, 1) := by decide +kernel
theorem dX11_bad_0 : decode cX11_bad 0 = .ok (.aload_n 0, 1) := by decide +kernel
theorem dX11_bad_1 : decode cX11_bad 1 = .ok (.iconst 0, 1) := by decide +kernel
theorem dX11_bad_2 : decode cX11_bad 2 = .ok (.putfield 104, 3) := by decide +kernel
theorem dX11_bad_5 : decode cX11_bad 5 = .ok (.iload_n 1, 1) := by decide +kernel
theorem dX11_bad_6 : decode cX11_bad 6 = .ok (.iconst 0, 1) := by decide +kernel
theorem dX11_bad_7 : decode cX11_bad 7 = .ok (.aload_n 0, 1) := by decide +kernel
theorem dX11_bad_8 : decode cX11_bad 8 = .ok (.getfield 83, 3) := by decide +kernel
theorem dX11_bad_11 : decode cX11_bad 11 = .ok (.iconst 2, 1) := by decide +kernel
theorem dX11_bad_12 : decode cX11_bad 12 = .ok (.iaload, 1) := by decide +kernel
theorem dX11_bad_13 : decode cX11_bad 13 = .ok (.bipush 50, 2) := by decide +kernel
theorem dX11_bad_15 : decode cX11_bad 15 = .ok (.if_icmp .ge 12, 3) := by decide +kernel
theorem dX11_bad_18 : decode cX11_bad 18 = .ok (.aload_n 0, 1) := by decide +kernel
theorem dX11_bad_19 : decode cX11_bad 19 = .ok (.getfield 83, 3) := by decide +kernel
theorem dX11_bad_22 : decode cX11_bad 22 = .ok (.iconst 2, 1) := by decide +kernel
theorem dX11_bad_23 : decode cX11_bad 23 = .ok (.iaload, 1) := by decide +kernel
theorem dX11_bad_24 : decode cX11_bad 24 = .ok (.goto 5, 3) := by decide +kernel
theorem dX11_bad_27 : decode cX11_bad 27 = .ok (.bipush 50, 2) := by decide +kernel
theorem dX11_bad_29 : decode cX11_bad 29 = .ok (.iconst 1, 1) := by decide +kernel
theorem dX11_bad_30 : decode cX11_bad 30 = .ok (.isub, 1) := by decide +kernel
theorem dX11_bad_31 : decode cX11_bad 31 = .ok (.invokestatic 110, 3) := by decide +kernel
theorem dX11_bad_34 : decode cX11_bad 34 = .ok (.ifCond .ne 9, 3) := by decide +kernel
theorem dX11_bad_37 : decode cX11_bad 37 = .ok (.aload_n 0, 1) := by decide +kernel
theorem dX11_bad_38 : decode cX11_bad 38 = .ok (.iconst (-1), 1) := by decide +kernel
theorem dX11_bad_39 : decode cX11_bad 39 = .ok (.invokevirtual 114, 3) := by decide +kernel
theorem dX11_bad_42 : decode cX11_bad 42 = .ok (.ireturn, 1) := by decide +kernel
theorem dX11_bad_43 : decode cX11_bad 43 = .ok (.iload_n 2, 1) := by decide +kernel
theorem dX11_bad_44 : decode cX11_bad 44 = .ok (.iconst 0, 1) := by decide +kernel
theorem dX11_bad_45 : decode cX11_bad 45 = .ok (.bipush 9, 2) := by decide +kernel
theorem dX11_bad_47 : decode cX11_bad 47 = .ok (.invokestatic 110, 3) := by decide +kernel
theorem dX11_bad_50 : decode cX11_bad 50 = .ok (.ifCond .eq 17, 3) := by decide +kernel
theorem dX11_bad_53 : decode cX11_bad 53 = .ok (.aload_n 0, 1) := by decide +kernel
theorem dX11_bad_54 : decode cX11_bad 54 = .ok (.getfield 89, 3) := by decide +kernel
theorem dX11_bad_57 : decode cX11_bad 57 = .ok (.bipush 10, 2) := by decide +kernel
theorem dX11_bad_59 : decode cX11_bad 59 = .ok (.iload_n 1, 1) := by decide +kernel
theorem dX11_bad_60 : decode cX11_bad 60 = .ok (.imul, 1) := by decide +kernel
theorem dX11_bad_61 : decode cX11_bad 61 = .ok (.iload_n 2, 1) := by decide +kernel
theorem dX11_bad_62 : decode cX11_bad 62 = .ok (.iadd, 1) := by decide +kernel
theorem dX11_bad_63 : decode cX11_bad 63 = .ok (.iaload, 1) := by decide +kernel
theorem dX11_bad_64 : decode cX11_bad 64 = .ok (.goto 5, 3) := by decide +kernel
theorem dX11_bad_67 : decode cX11_bad 67 = .ok (.bipush (-9), 2) := by decide +kernel
theorem dX11_bad_69 : decode cX11_bad 69 = .ok (.ireturn, 1) := by decide +kernel
theorem dX11_spare_0 : decode cX11_spare 0 = .ok (.aload_n 0, 1) := by decide +kernel
theorem dX11_spare_1 : decode cX11_spare 1 = .ok (.iconst 0, 1) := by decide +kernel
theorem dX11_spare_2 : decode cX11_spare 2 = .ok (.putfield 104, 3) := by decide +kernel
theorem dX11_spare_5 : decode cX11_spare 5 = .ok (.iload_n 1, 1) := by decide +kernel
theorem dX11_spare_6 : decode cX11_spare 6 = .ok (.iconst 0, 1) := by decide +kernel
theorem dX11_spare_7 : decode cX11_spare 7 = .ok (.iconst 2, 1) := by decide +kernel
theorem dX11_spare_8 : decode cX11_spare 8 = .ok (.invokestatic 110, 3) := by decide +kernel
theorem dX11_spare_11 : decode cX11_spare 11 = .ok (.ifCond .eq 31, 3) := by decide +kernel
theorem dX11_spare_14 : decode cX11_spare 14 = .ok (.iload_n 2, 1) := by decide +kernel
theorem dX11_spare_15 : decode cX11_spare 15 = .ok (.iconst 0, 1) := by decide +kernel
theorem dX11_spare_16 : decode cX11_spare 16 = .ok (.iload_n 1, 1) := by decide +kernel
theorem dX11_spare_17 : decode cX11_spare 17 = .ok (.invokestatic 170, 3) := by decide +kernel
theorem dX11_spare_20 : decode cX11_spare 20 = .ok (.iconst 1, 1) := by decide +kernel
theorem dX11_spare_21 : decode cX11_spare 21 = .ok (.isub, 1) := by decide +kernel
theorem dX11_spare_22 : decode cX11_spare 22 = .ok (.invokestatic 110, 3) := by decide +kernel
theorem dX11_spare_25 : decode cX11_spare 25 = .ok (.ifCond .eq 17, 3) := by decide +kernel
theorem dX11_spare_28 : decode cX11_spare 28 = .ok (.aload_n 0, 1) := by decide +kernel
theorem dX11_spare_29 : decode cX11_spare 29 = .ok (.getfield 29, 3) := by decide +kernel
theorem dX11_spare_32 : decode cX11_spare 32 = .ok (.iconst 4, 1) := by decide +kernel
theorem dX11_spare_33 : decode cX11_spare 33 = .ok (.iload_n 1, 1) := by decide +kernel
theorem dX11_spare_34 : decode cX11_spare 34 = .ok (.imul, 1) := by decide +kernel
theorem dX11_spare_35 : decode cX11_spare 35 = .ok (.iload_n 2, 1) := by decide +kernel
theorem dX11_spare_36 : decode cX11_spare 36 = .ok (.iadd, 1) := by decide +kernel
theorem dX11_spare_37 : decode cX11_spare 37 = .ok (.baload, 1) := by decide +kernel
theorem dX11_spare_38 : decode cX11_spare 38 = .ok (.iload_n 3, 1) := by decide +kernel
theorem dX11_spare_39 : decode cX11_spare 39 = .ok (.if_icmp .ne 5, 3) := by decide +kernel
theorem dX11_spare_42 : decode cX11_spare 42 = .ok (.iconst 0, 1) := by decide +kernel
theorem dX11_spare_43 : decode cX11_spare 43 = .ok (.ireturn, 1) := by decide +kernel
theorem dX11_spare_44 : decode cX11_spare 44 = .ok (.aload_n 0, 1) := by decide +kernel
theorem dX11_spare_45 : decode cX11_spare 45 = .ok (.getfield 29, 3) := by decide +kernel
theorem dX11_spare_48 : decode cX11_spare 48 = .ok (.iconst 4, 1) := by decide +kernel
theorem dX11_spare_49 : decode cX11_spare 49 = .ok (.iload_n 1, 1) := by decide +kernel
theorem dX11_spare_50 : decode cX11_spare 50 = .ok (.imul, 1) := by decide +kernel
theorem dX11_spare_51 : decode cX11_spare 51 = .ok (.iload_n 2, 1) := by decide +kernel
theorem dX11_spare_52 : decode cX11_spare 52 = .ok (.iadd, 1) := by decide +kernel
theorem dX11_spare_53 : decode cX11_spare 53 = .ok (.iload_n 3, 1) := by decide +kernel
theorem dX11_spare_54 : decode cX11_spare 54 = .ok (.bastore, 1) := by decide +kernel
theorem dX11_spare_55 : decode cX11_spare 55 = .ok (.iconst 1, 1) := by decide +kernel
theorem dX11_spare_56 : decode cX11_spare 56 = .ok (.ireturn, 1) := by decide +kernel
theorem dX11_least_0 : decode cX11_least 0 = .ok (.aload_n 0, 1) := by decide +kernel
theorem dX11_least_1 : decode cX11_least 1 = .ok (.iconst 0, 1) := by decide +kernel
theorem dX11_least_2 : decode cX11_least 2 = .ok (.putfield 104, 3) := by decide +kernel
theorem dX11_least_5 : decode cX11_least 5 = .ok (.iload_n 1, 1) := by decide +kernel
theorem dX11_least_6 : decode cX11_least 6 = .ok (.iconst 0, 1) := by decide +kernel
theorem dX11_least_7 : decode cX11_least 7 = .ok (.iconst 2, 1) := by decide +kernel
theorem dX11_least_8 : decode cX11_least 8 = .ok (.invokestatic 110, 3) := by decide +kernel
theorem dX11_least_11 : decode cX11_least 11 = .ok (.ifCond .ne 10, 3) := by decide +kernel
theorem dX11_least_14 : decode cX11_least 14 = .ok (.aload_n 0, 1) := by decide +kernel
theorem dX11_least_15 : decode cX11_least 15 = .ok (.bipush (-2), 2) := by decide +kernel
theorem dX11_least_17 : decode cX11_least 17 = .ok (.invokevirtual 114, 3) := by decide +kernel
theorem dX11_least_20 : decode cX11_least 20 = .ok (.ireturn, 1) := by decide +kernel
theorem dX11_least_21 : decode cX11_least 21 = .ok (.iconst 0, 1) := by decide +kernel
theorem dX11_least_22 : decode cX11_least 22 = .ok (.istore_n 2, 1) := by decide +kernel
theorem dX11_least_23 : decode cX11_least 23 = .ok (.iload_n 1, 1) := by decide +kernel
theorem dX11_least_24 : decode cX11_least 24 = .ok (.invokestatic 170, 3) := by decide +kernel
theorem dX11_least_27 : decode cX11_least 27 = .ok (.istore_n 3, 1) := by decide +kernel
theorem dX11_least_28 : decode cX11_least 28 = .ok (.iconst 0, 1) := by decide +kernel
theorem dX11_least_29 : decode cX11_least 29 = .ok (.istore 4, 2) := by decide +kernel
theorem dX11_least_31 : decode cX11_least 31 = .ok (.iload 4, 2) := by decide +kernel
theorem dX11_least_33 : decode cX11_least 33 = .ok (.iload_n 3, 1) := by decide +kernel
theorem dX11_least_34 : decode cX11_least 34 = .ok (.if_icmp .ge 46, 3) := by decide +kernel
theorem dX11_least_37 : decode cX11_least 37 = .ok (.iload_n 2, 1) := by decide +kernel
theorem dX11_least_38 : decode cX11_least 38 = .ok (.aload_n 0, 1) := by decide +kernel
theorem dX11_least_39 : decode cX11_least 39 = .ok (.getfield 29, 3) := by decide +kernel
theorem dX11_least_42 : decode cX11_least 42 = .ok (.iconst 4, 1) := by decide +kernel
theorem dX11_least_43 : decode cX11_least 43 = .ok (.iload_n 1, 1) := by decide +kernel
theorem dX11_least_44 : decode cX11_least 44 = .ok (.imul, 1) := by decide +kernel
theorem dX11_least_45 : decode cX11_least 45 = .ok (.iload 4, 2) := by decide +kernel
theorem dX11_least_47 : decode cX11_least 47 = .ok (.iadd, 1) := by decide +kernel
theorem dX11_least_48 : decode cX11_least 48 = .ok (.baload, 1) := by decide +kernel
theorem dX11_least_49 : decode cX11_least 49 = .ok (.ifCond .eq 10, 3) := by decide +kernel
theorem dX11_least_52 : decode cX11_least 52 = .ok (.iconst 1, 1) := by decide +kernel
theorem dX11_least_53 : decode cX11_least 53 = .ok (.iload 4, 2) := by decide +kernel
theorem dX11_least_55 : decode cX11_least 55 = .ok (.ishl, 1) := by decide +kernel
theorem dX11_least_56 : decode cX11_least 56 = .ok (.goto 4, 3) := by decide +kernel
theorem dX11_least_59 : decode cX11_least 59 = .ok (.iconst 0, 1) := by decide +kernel
theorem dX11_least_60 : decode cX11_least 60 = .ok (.ior, 1) := by decide +kernel
theorem dX11_least_61 : decode cX11_least 61 = .ok (.istore_n 2, 1) := by decide +kernel
theorem dX11_least_62 : decode cX11_least 62 = .ok (.aload_n 0, 1) := by decide +kernel
theorem dX11_least_63 : decode cX11_least 63 = .ok (.getfield 29, 3) := by decide +kernel
theorem dX11_least_66 : decode cX11_least 66 = .ok (.iconst 4, 1) := by decide +kernel
theorem dX11_least_67 : decode cX11_least 67 = .ok (.iload_n 1, 1) := by decide +kernel
theorem dX11_least_68 : decode cX11_least 68 = .ok (.imul, 1) := by decide +kernel
theorem dX11_least_69 : decode cX11_least 69 = .ok (.iload 4, 2) := by decide +kernel
theorem dX11_least_71 : decode cX11_least 71 = .ok (.iadd, 1) := by decide +kernel
theorem dX11_least_72 : decode cX11_least 72 = .ok (.iconst 0, 1) := by decide +kernel
theorem dX11_least_73 : decode cX11_least 73 = .ok (.bastore, 1) := by decide +kernel
theorem dX11_least_74 : decode cX11_least 74 = .ok (.iinc 4 1, 3) := by decide +kernel
theorem dX11_least_77 : decode cX11_least 77 = .ok (.goto (-46), 3) := by decide +kernel
theorem dX11_least_80 : decode cX11_least 80 = .ok (.aload_n 0, 1) := by decide +kernel
theorem dX11_least_81 : decode cX11_least 81 = .ok (.iload_n 1, 1) := by decide +kernel
theorem dX11_least_82 : decode cX11_least 82 = .ok (.invokevirtual 250, 3) := by decide +kernel
theorem dX11_least_85 : decode cX11_least 85 = .ok (.istore 4, 2) := by decide +kernel
theorem dX11_least_87 : decode cX11_least 87 = .ok (.iload 4, 2) := by decide +kernel
theorem dX11_least_89 : decode cX11_least 89 = .ok (.ifCond .eq 16, 3) := by decide +kernel
theorem dX11_least_92 : decode cX11_least 92 = .ok (.aload_n 0, 1) := by decide +kernel
theorem dX11_least_93 : decode cX11_least 93 = .ok (.getfield 80, 3) := by decide +kernel
theorem dX11_least_96 : decode cX11_least 96 = .ok (.iconst 2, 1) := by decide +kernel
theorem dX11_least_97 : decode cX11_least 97 = .ok (.iaload, 1) := by decide +kernel
theorem dX11_least_98 : decode cX11_least 98 = .ok (.ifCond .ne 7, 3) := by decide +kernel
theorem dX11_least_101 : decode cX11_least 101 = .ok (.iconst 1, 1) := by decide +kernel
theorem dX11_least_102 : decode cX11_least 102 = .ok (.goto 4, 3) := by decide +kernel
theorem dX11_least_105 : decode cX11_least 105 = .ok (.iconst 0, 1) := by decide +kernel
theorem dX11_least_106 : decode cX11_least 106 = .ok (.istore 5, 2) := by decide +kernel
theorem dX11_least_108 : decode cX11_least 108 = .ok (.iconst 0, 1) := by decide +kernel
theorem dX11_least_109 : decode cX11_least 109 = .ok (.istore 6, 2) := by decide +kernel
theorem dX11_least_111 : decode cX11_least 111 = .ok (.iconst 0, 1) := by decide +kernel
theorem dX11_least_112 : decode cX11_least 112 = .ok (.istore 7, 2) := by decide +kernel
theorem dX11_least_114 : decode cX11_least 114 = .ok (.iload 7, 2) := by decide +kernel
theorem dX11_least_116 : decode cX11_least 116 = .ok (.iload_n 3, 1) := by decide +kernel
theorem dX11_least_117 : decode cX11_least 117 = .ok (.if_icmp .ge 64, 3) := by decide +kernel
theorem dX11_least_120 : decode cX11_least 120 = .ok (.iload 5, 2) := by decide +kernel
theorem dX11_least_122 : decode cX11_least 122 = .ok (.ifCond .eq 59, 3) := by decide +kernel
theorem dX11_least_125 : decode cX11_least 125 = .ok (.aload_n 0, 1) := by decide +kernel
theorem dX11_least_126 : decode cX11_least 126 = .ok (.getfield 29, 3) := by decide +kernel
theorem dX11_least_129 : decode cX11_least 129 = .ok (.iconst 4, 1) := by decide +kernel
theorem dX11_least_130 : decode cX11_least 130 = .ok (.iload_n 1, 1) := by decide +kernel
theorem dX11_least_131 : decode cX11_least 131 = .ok (.imul, 1) := by decide +kernel
theorem dX11_least_132 : decode cX11_least 132 = .ok (.iload 7, 2) := by decide +kernel
theorem dX11_least_134 : decode cX11_least 134 = .ok (.iadd, 1) := by decide +kernel
theorem dX11_least_135 : decode cX11_least 135 = .ok (.iconst 1, 1) := by decide +kernel
theorem dX11_least_136 : decode cX11_least 136 = .ok (.bastore, 1) := by decide +kernel
theorem dX11_least_137 : decode cX11_least 137 = .ok (.aload_n 0, 1) := by decide +kernel
theorem dX11_least_138 : decode cX11_least 138 = .ok (.iload_n 1, 1) := by decide +kernel
theorem dX11_least_139 : decode cX11_least 139 = .ok (.invokevirtual 250, 3) := by decide +kernel
theorem dX11_least_142 : decode cX11_least 142 = .ok (.ifCond .eq 12, 3) := by decide +kernel
theorem dX11_least_145 : decode cX11_least 145 = .ok (.aload_n 0, 1) := by decide +kernel
theorem dX11_least_146 : decode cX11_least 146 = .ok (.getfield 80, 3) := by decide +kernel
theorem dX11_least_149 : decode cX11_least 149 = .ok (.iconst 2, 1) := by decide +kernel
theorem dX11_least_150 : decode cX11_least 150 = .ok (.iaload, 1) := by decide +kernel
theorem dX11_least_151 : decode cX11_least 151 = .ok (.ifCond .le 24, 3) := by decide +kernel
theorem dX11_least_154 : decode cX11_least 154 = .ok (.aload_n 0, 1) := by decide +kernel
theorem dX11_least_155 : decode cX11_least 155 = .ok (.getfield 29, 3) := by decide +kernel
theorem dX11_least_158 : decode cX11_least 158 = .ok (.iconst 4, 1) := by decide +kernel
theorem dX11_least_159 : decode cX11_least 159 = .ok (.iload_n 1, 1) := by decide +kernel
theorem dX11_least_160 : decode cX11_least 160 = .ok (.imul, 1) := by decide +kernel
theorem dX11_least_161 : decode cX11_least 161 = .ok (.iload 7, 2) := by decide +kernel
theorem dX11_least_163 : decode cX11_least 163 = .ok (.iadd, 1) := by decide +kernel
theorem dX11_least_164 : decode cX11_least 164 = .ok (.iconst 0, 1) := by decide +kernel
theorem dX11_least_165 : decode cX11_least 165 = .ok (.bastore, 1) := by decide +kernel
theorem dX11_least_166 : decode cX11_least 166 = .ok (.iload 6, 2) := by decide +kernel
theorem dX11_least_168 : decode cX11_least 168 = .ok (.iconst 1, 1) := by decide +kernel
theorem dX11_least_169 : decode cX11_least 169 = .ok (.iload 7, 2) := by decide +kernel
theorem dX11_least_171 : decode cX11_least 171 = .ok (.ishl, 1) := by decide +kernel
theorem dX11_least_172 : decode cX11_least 172 = .ok (.ior, 1) := by decide +kernel
theorem dX11_least_173 : decode cX11_least 173 = .ok (.istore 6, 2) := by decide +kernel
theorem dX11_least_175 : decode cX11_least 175 = .ok (.iinc 7 1, 3) := by decide +kernel
theorem dX11_least_178 : decode cX11_least 178 = .ok (.goto (-64), 3) := by decide +kernel
theorem dX11_least_181 : decode cX11_least 181 = .ok (.iconst 0, 1) := by decide +kernel
theorem dX11_least_182 : decode cX11_least 182 = .ok (.istore 7, 2) := by decide +kernel
theorem dX11_least_184 : decode cX11_least 184 = .ok (.iload 7, 2) := by decide +kernel
theorem dX11_least_186 : decode cX11_least 186 = .ok (.iload_n 3, 1) := by decide +kernel
theorem dX11_least_187 : decode cX11_least 187 = .ok (.if_icmp .ge 35, 3) := by decide +kernel
theorem dX11_least_190 : decode cX11_least 190 = .ok (.aload_n 0, 1) := by decide +kernel
theorem dX11_least_191 : decode cX11_least 191 = .ok (.getfield 29, 3) := by decide +kernel
theorem dX11_least_194 : decode cX11_least 194 = .ok (.iconst 4, 1) := by decide +kernel
theorem dX11_least_195 : decode cX11_least 195 = .ok (.iload_n 1, 1) := by decide +kernel
theorem dX11_least_196 : decode cX11_least 196 = .ok (.imul, 1) := by decide +kernel
theorem dX11_least_197 : decode cX11_least 197 = .ok (.iload 7, 2) := by decide +kernel
theorem dX11_least_199 : decode cX11_least 199 = .ok (.iadd, 1) := by decide +kernel
theorem dX11_least_200 : decode cX11_least 200 = .ok (.iload_n 2, 1) := by decide +kernel
theorem dX11_least_201 : decode cX11_least 201 = .ok (.iload 7, 2) := by decide +kernel
theorem dX11_least_203 : decode cX11_least 203 = .ok (.ishr, 1) := by decide +kernel
theorem dX11_least_204 : decode cX11_least 204 = .ok (.iconst 1, 1) := by decide +kernel
theorem dX11_least_205 : decode cX11_least 205 = .ok (.iand, 1) := by decide +kernel
theorem dX11_least_206 : decode cX11_least 206 = .ok (.iconst 1, 1) := by decide +kernel
theorem dX11_least_207 : decode cX11_least 207 = .ok (.if_icmp .ne 7, 3) := by decide +kernel
theorem dX11_least_210 : decode cX11_least 210 = .ok (.iconst 1, 1) := by decide +kernel
theorem dX11_least_211 : decode cX11_least 211 = .ok (.goto 4, 3) := by decide +kernel
theorem dX11_least_214 : decode cX11_least 214 = .ok (.iconst 0, 1) := by decide +kernel
theorem dX11_least_215 : decode cX11_least 215 = .ok (.bastore, 1) := by decide +kernel
theorem dX11_least_216 : decode cX11_least 216 = .ok (.iinc 7 1, 3) := by decide +kernel
theorem dX11_least_219 : decode cX11_least 219 = .ok (.goto (-35), 3) := by decide +kernel
theorem dX11_least_222 : decode cX11_least 222 = .ok (.iload 4, 2) := by decide +kernel
theorem dX11_least_224 : decode cX11_least 224 = .ok (.ifCond .ne 12, 3) := by decide +kernel
theorem dX11_least_227 : decode cX11_least 227 = .ok (.aload_n 0, 1) := by decide +kernel
theorem dX11_least_228 : decode cX11_least 228 = .ok (.bipush (-6), 2) := by decide +kernel
theorem dX11_least_230 : decode cX11_least 230 = .ok (.invokevirtual 114, 3) := by decide +kernel
theorem dX11_least_233 : decode cX11_least 233 = .ok (.goto 19, 3) := by decide +kernel
theorem dX11_least_236 : decode cX11_least 236 = .ok (.iload 5, 2) := by decide +kernel
theorem dX11_least_238 : decode cX11_least 238 = .ok (.ifCond .eq 8, 3) := by decide +kernel
theorem dX11_least_241 : decode cX11_least 241 = .ok (.iload 6, 2) := by decide +kernel
theorem dX11_least_243 : decode cX11_least 243 = .ok (.goto 9, 3) := by decide +kernel
theorem dX11_least_246 : decode cX11_least 246 = .ok (.aload_n 0, 1) := by decide +kernel
theorem dX11_least_247 : decode cX11_least 247 = .ok (.bipush (-5), 2) := by decide +kernel
theorem dX11_least_249 : decode cX11_least 249 = .ok (.invokevirtual 114, 3) := by decide +kernel
theorem dX11_least_252 : decode cX11_least 252 = .ok (.ireturn, 1) := by decide +kernel
theorem dX11_digest_0 : decode cX11_digest 0 = .ok (.aload_n 0, 1) := by decide +kernel
theorem dX11_digest_1 : decode cX11_digest 1 = .ok (.iconst 0, 1) := by decide +kernel
theorem dX11_digest_2 : decode cX11_digest 2 = .ok (.putfield 104, 3) := by decide +kernel
theorem dX11_digest_5 : decode cX11_digest 5 = .ok (.iload_n 1, 1) := by decide +kernel
theorem dX11_digest_6 : decode cX11_digest 6 = .ok (.iconst 0, 1) := by decide +kernel
theorem dX11_digest_7 : decode cX11_digest 7 = .ok (.iconst 1, 1) := by decide +kernel
theorem dX11_digest_8 : decode cX11_digest 8 = .ok (.invokestatic 110, 3) := by decide +kernel
theorem dX11_digest_11 : decode cX11_digest 11 = .ok (.ifCond .ne 6, 3) := by decide +kernel
theorem dX11_digest_14 : decode cX11_digest 14 = .ok (.bipush (-9), 2) := by decide +kernel
theorem dX11_digest_16 : decode cX11_digest 16 = .ok (.ireturn, 1) := by decide +kernel
theorem dX11_digest_17 : decode cX11_digest 17 = .ok (.iconst 0, 1) := by decide +kernel
theorem dX11_digest_18 : decode cX11_digest 18 = .ok (.istore_n 2, 1) := by decide +kernel
theorem dX11_digest_19 : decode cX11_digest 19 = .ok (.iconst 0, 1) := by decide +kernel
theorem dX11_digest_20 : decode cX11_digest 20 = .ok (.istore_n 3, 1) := by decide +kernel
theorem dX11_digest_21 : decode cX11_digest 21 = .ok (.iload_n 3, 1) := by decide +kernel
theorem dX11_digest_22 : decode cX11_digest 22 = .ok (.bipush 32, 2) := by decide +kernel
theorem dX11_digest_24 : decode cX11_digest 24 = .ok (.if_icmp .ge 39, 3) := by decide +kernel
theorem dX11_digest_27 : decode cX11_digest 27 = .ok (.bipush 31, 2) := by decide +kernel
theorem dX11_digest_29 : decode cX11_digest 29 = .ok (.iload_n 2, 1) := by decide +kernel
theorem dX11_digest_30 : decode cX11_digest 30 = .ok (.imul, 1) := by decide +kernel
theorem dX11_digest_31 : decode cX11_digest 31 = .ok (.iload_n 1, 1) := by decide +kernel
theorem dX11_digest_32 : decode cX11_digest 32 = .ok (.ifCond .ne 12, 3) := by decide +kernel
theorem dX11_digest_35 : decode cX11_digest 35 = .ok (.aload_n 0, 1) := by decide +kernel
theorem dX11_digest_36 : decode cX11_digest 36 = .ok (.getfield 7, 3) := by decide +kernel
theorem dX11_digest_39 : decode cX11_digest 39 = .ok (.iload_n 3, 1) := by decide +kernel
theorem dX11_digest_40 : decode cX11_digest 40 = .ok (.iaload, 1) := by decide +kernel
theorem dX11_digest_41 : decode cX11_digest 41 = .ok (.goto 14, 3) := by decide +kernel
theorem dX11_digest_44 : decode cX11_digest 44 = .ok (.aload_n 0, 1) := by decide +kernel
theorem dX11_digest_45 : decode cX11_digest 45 = .ok (.iconst 0, 1) := by decide +kernel
theorem dX11_digest_46 : decode cX11_digest 46 = .ok (.iload_n 3, 1) := by decide +kernel
theorem dX11_digest_47 : decode cX11_digest 47 = .ok (.iconst 2, 1) := by decide +kernel
theorem dX11_digest_48 : decode cX11_digest 48 = .ok (.idiv, 1) := by decide +kernel
theorem dX11_digest_49 : decode cX11_digest 49 = .ok (.iload_n 3, 1) := by decide +kernel
theorem dX11_digest_50 : decode cX11_digest 50 = .ok (.iconst 2, 1) := by decide +kernel
theorem dX11_digest_51 : decode cX11_digest 51 = .ok (.irem, 1) := by decide +kernel
theorem dX11_digest_52 : decode cX11_digest 52 = .ok (.invokevirtual 129, 3) := by decide +kernel
theorem dX11_digest_55 : decode cX11_digest 55 = .ok (.iadd, 1) := by decide +kernel
theorem dX11_digest_56 : decode cX11_digest 56 = .ok (.istore_n 2, 1) := by decide +kernel
theorem dX11_digest_57 : decode cX11_digest 57 = .ok (.iinc 3 1, 3) := by decide +kernel
theorem dX11_digest_60 : decode cX11_digest 60 = .ok (.goto (-39), 3) := by decide +kernel
theorem dX11_digest_63 : decode cX11_digest 63 = .ok (.iload_n 2, 1) := by decide +kernel
theorem dX11_digest_64 : decode cX11_digest 64 = .ok (.ireturn, 1) := by decide +kernel
theorem dX11_status_0 : decode cX11_status 0 = .ok (.aload_n 0, 1) := by decide +kernel
theorem dX11_status_1 : decode cX11_status 1 = .ok (.iconst 0, 1) := by decide +kernel
theorem dX11_status_2 : decode cX11_status 2 = .ok (.putfield 104, 3) := by decide +kernel
theorem dX11_status_5 : decode cX11_status 5 = .ok (.iconst 0, 1) := by decide +kernel
theorem dX11_status_6 : decode cX11_status 6 = .ok (.istore_n 2, 1) := by decide +kernel
theorem dX11_status_7 : decode cX11_status 7 = .ok (.iload_n 1, 1) := by decide +kernel
theorem dX11_status_8 : decode cX11_status 8 = .ok (.tableswitch 143 0 7 #[48, 55, 93, 105, 110, 115, 133, 138], 48) := by decide +kernel
theorem dX11_status_56 : decode cX11_status 56 = .ok (.aload_n 0, 1) := by decide +kernel
theorem dX11_status_57 : decode cX11_status 57 = .ok (.getfield 22, 3) := by decide +kernel
theorem dX11_status_60 : decode cX11_status 60 = .ok (.iconst 0, 1) := by decide +kernel
theorem dX11_status_61 : decode cX11_status 61 = .ok (.iaload, 1) := by decide +kernel
theorem dX11_status_62 : decode cX11_status 62 = .ok (.ireturn, 1) := by decide +kernel
theorem dX11_status_63 : decode cX11_status 63 = .ok (.iconst 0, 1) := by decide +kernel
theorem dX11_status_64 : decode cX11_status 64 = .ok (.istore_n 3, 1) := by decide +kernel
theorem dX11_status_65 : decode cX11_status 65 = .ok (.iload_n 3, 1) := by decide +kernel
theorem dX11_status_66 : decode cX11_status 66 = .ok (.aload_n 0, 1) := by decide +kernel
theorem dX11_status_67 : decode cX11_status 67 = .ok (.getfield 22, 3) := by decide +kernel
theorem dX11_status_70 : decode cX11_status 70 = .ok (.iconst 0, 1) := by decide +kernel
theorem dX11_status_71 : decode cX11_status 71 = .ok (.iaload, 1) := by decide +kernel
theorem dX11_status_72 : decode cX11_status 72 = .ok (.if_icmp .ge 27, 3) := by decide +kernel
theorem dX11_status_75 : decode cX11_status 75 = .ok (.iload_n 2, 1) := by decide +kernel
theorem dX11_status_76 : decode cX11_status 76 = .ok (.aload_n 0, 1) := by decide +kernel
theorem dX11_status_77 : decode cX11_status 77 = .ok (.getfield 13, 3) := by decide +kernel
theorem dX11_status_80 : decode cX11_status 80 = .ok (.iload_n 3, 1) := by decide +kernel
theorem dX11_status_81 : decode cX11_status 81 = .ok (.iaload, 1) := by decide +kernel
theorem dX11_status_82 : decode cX11_status 82 = .ok (.iconst (-1), 1) := by decide +kernel
theorem dX11_status_83 : decode cX11_status 83 = .ok (.if_icmp .eq 7, 3) := by decide +kernel
theorem dX11_status_86 : decode cX11_status 86 = .ok (.iconst 1, 1) := by decide +kernel
theorem dX11_status_87 : decode cX11_status 87 = .ok (.goto 4, 3) := by decide +kernel
theorem dX11_status_90 : decode cX11_status 90 = .ok (.iconst 0, 1) := by decide +kernel
theorem dX11_status_91 : decode cX11_status 91 = .ok (.iadd, 1) := by decide +kernel
theorem dX11_status_92 : decode cX11_status 92 = .ok (.istore_n 2, 1) := by decide +kernel
theorem dX11_status_93 : decode cX11_status 93 = .ok (.iinc 3 1, 3) := by decide +kernel
theorem dX11_status_96 : decode cX11_status 96 = .ok (.goto (-31), 3) := by decide +kernel
theorem dX11_status_99 : decode cX11_status 99 = .ok (.iload_n 2, 1) := by decide +kernel
theorem dX11_status_100 : decode cX11_status 100 = .ok (.ireturn, 1) := by decide +kernel
theorem dX11_status_101 : decode cX11_status 101 = .ok (.aload_n 0, 1) := by decide +kernel
theorem dX11_status_102 : decode cX11_status 102 = .ok (.iconst 0, 1) := by decide +kernel
theorem dX11_status_103 : decode cX11_status 103 = .ok (.aload_n 0, 1) := by decide +kernel
theorem dX11_status_104 : decode cX11_status 104 = .ok (.getfield 22, 3) := by decide +kernel
theorem dX11_status_107 : decode cX11_status 107 = .ok (.iconst 0, 1) := by decide +kernel
theorem dX11_status_108 : decode cX11_status 108 = .ok (.iaload, 1) := by decide +kernel
theorem dX11_status_109 : decode cX11_status 109 = .ok (.invokevirtual 151, 3) := by decide +kernel
theorem dX11_status_112 : decode cX11_status 112 = .ok (.ireturn, 1) := by decide +kernel
theorem dX11_status_113 : decode cX11_status 113 = .ok (.aload_n 0, 1) := by decide +kernel
theorem dX11_status_114 : decode cX11_status 114 = .ok (.getfield 25, 3) := by decide +kernel
theorem dX11_status_117 : decode cX11_status 117 = .ok (.ireturn, 1) := by decide +kernel
theorem dX11_status_118 : decode cX11_status 118 = .ok (.aload_n 0, 1) := by decide +kernel
theorem dX11_status_119 : decode cX11_status 119 = .ok (.getfield 225, 3) := by decide +kernel
theorem dX11_status_122 : decode cX11_status 122 = .ok (.ireturn, 1) := by decide +kernel
theorem dX11_status_123 : decode cX11_status 123 = .ok (.aload_n 0, 1) := by decide +kernel
theorem dX11_status_124 : decode cX11_status 124 = .ok (.getfield 25, 3) := by decide +kernel
theorem dX11_status_127 : decode cX11_status 127 = .ok (.iconst 2, 1) := by decide +kernel
theorem dX11_status_128 : decode cX11_status 128 = .ok (.if_icmp .ne 11, 3) := by decide +kernel
theorem dX11_status_131 : decode cX11_status 131 = .ok (.aload_n 0, 1) := by decide +kernel
theorem dX11_status_132 : decode cX11_status 132 = .ok (.iconst 0, 1) := by decide +kernel
theorem dX11_status_133 : decode cX11_status 133 = .ok (.invokevirtual 178, 3) := by decide +kernel
theorem dX11_status_136 : decode cX11_status 136 = .ok (.goto 4, 3) := by decide +kernel
theorem dX11_status_139 : decode cX11_status 139 = .ok (.iconst 0, 1) := by decide +kernel
theorem dX11_status_140 : decode cX11_status 140 = .ok (.ireturn, 1) := by decide +kernel
theorem dX11_status_141 : decode cX11_status 141 = .ok (.aload_n 0, 1) := by decide +kernel
theorem dX11_status_142 : decode cX11_status 142 = .ok (.getfield 107, 3) := by decide +kernel
theorem dX11_status_145 : decode cX11_status 145 = .ok (.ireturn, 1) := by decide +kernel
theorem dX11_status_146 : decode cX11_status 146 = .ok (.aload_n 0, 1) := by decide +kernel
theorem dX11_status_147 : decode cX11_status 147 = .ok (.getfield 164, 3) := by decide +kernel
theorem dX11_status_150 : decode cX11_status 150 = .ok (.ireturn, 1) := by decide +kernel
theorem dX11_status_151 : decode cX11_status 151 = .ok (.iload_n 1, 1) := by decide +kernel
theorem dX11_status_152 : decode cX11_status 152 = .ok (.bipush 11, 2) := by decide +kernel
theorem dX11_status_154 : decode cX11_status 154 = .ok (.bipush 16, 2) := by decide +kernel
theorem dX11_status_156 : decode cX11_status 156 = .ok (.invokestatic 110, 3) := by decide +kernel
theorem dX11_status_159 : decode cX11_status 159 = .ok (.ifCond .eq 15, 3) := by decide +kernel
theorem dX11_status_162 : decode cX11_status 162 = .ok (.aload_n 0, 1) := by decide +kernel
theorem dX11_status_163 : decode cX11_status 163 = .ok (.getfield 33, 3) := by decide +kernel
theorem dX11_status_166 : decode cX11_status 166 = .ok (.iload_n 1, 1) := by decide +kernel
theorem dX11_status_167 : decode cX11_status 167 = .ok (.bipush 10, 2) := by decide +kernel
theorem dX11_status_169 : decode cX11_status 169 = .ok (.isub, 1) := by decide +kernel
theorem dX11_status_170 : decode cX11_status 170 = .ok (.iaload, 1) := by decide +kernel
theorem dX11_status_171 : decode cX11_status 171 = .ok (.goto 5, 3) := by decide +kernel
theorem dX11_status_174 : decode cX11_status 174 = .ok (.bipush (-9), 2) := by decide +kernel
theorem dX11_status_176 : decode cX11_status 176 = .ok (.ireturn, 1) := by decide +kernel
theorem dJ6_bitCount_0f7a4_0 : decode cJ6_bitCount_0f7a4 0 = .ok (.iload_n 0, 1) := by decide +kernel
theorem dJ6_bitCount_0f7a4_1 : decode cJ6_bitCount_0f7a4 1 = .ok (.iload_n 0, 1) := by decide +kernel
theorem dJ6_bitCount_0f7a4_2 : decode cJ6_bitCount_0f7a4 2 = .ok (.iconst 1, 1) := by decide +kernel
theorem dJ6_bitCount_0f7a4_3 : decode cJ6_bitCount_0f7a4 3 = .ok (.iushr, 1) := by decide +kernel
theorem dJ6_bitCount_0f7a4_4 : decode cJ6_bitCount_0f7a4 4 = .ok (.ldc_w 265, 3) := by decide +kernel
theorem dJ6_bitCount_0f7a4_7 : decode cJ6_bitCount_0f7a4 7 = .ok (.iand, 1) := by decide +kernel
theorem dJ6_bitCount_0f7a4_8 : decode cJ6_bitCount_0f7a4 8 = .ok (.isub, 1) := by decide +kernel
theorem dJ6_bitCount_0f7a4_9 : decode cJ6_bitCount_0f7a4 9 = .ok (.istore_n 0, 1) := by decide +kernel
theorem dJ6_bitCount_0f7a4_10 : decode cJ6_bitCount_0f7a4 10 = .ok (.iload_n 0, 1) := by decide +kernel
theorem dJ6_bitCount_0f7a4_11 : decode cJ6_bitCount_0f7a4 11 = .ok (.ldc_w 266, 3) := by decide +kernel
theorem dJ6_bitCount_0f7a4_14 : decode cJ6_bitCount_0f7a4 14 = .ok (.iand, 1) := by decide +kernel
theorem dJ6_bitCount_0f7a4_15 : decode cJ6_bitCount_0f7a4 15 = .ok (.iload_n 0, 1) := by decide +kernel
theorem dJ6_bitCount_0f7a4_16 : decode cJ6_bitCount_0f7a4 16 = .ok (.iconst 2, 1) := by decide +kernel
theorem dJ6_bitCount_0f7a4_17 : decode cJ6_bitCount_0f7a4 17 = .ok (.iushr, 1) := by decide +kernel
theorem dJ6_bitCount_0f7a4_18 : decode cJ6_bitCount_0f7a4 18 = .ok (.ldc_w 266, 3) := by decide +kernel
theorem dJ6_bitCount_0f7a4_21 : decode cJ6_bitCount_0f7a4 21 = .ok (.iand, 1) := by decide +kernel
theorem dJ6_bitCount_0f7a4_22 : decode cJ6_bitCount_0f7a4 22 = .ok (.iadd, 1) := by decide +kernel
theorem dJ6_bitCount_0f7a4_23 : decode cJ6_bitCount_0f7a4 23 = .ok (.istore_n 0, 1) := by decide +kernel
theorem dJ6_bitCount_0f7a4_24 : decode cJ6_bitCount_0f7a4 24 = .ok (.iload_n 0, 1) := by decide +kernel
theorem dJ6_bitCount_0f7a4_25 : decode cJ6_bitCount_0f7a4 25 = .ok (.iload_n 0, 1) := by decide +kernel
theorem dJ6_bitCount_0f7a4_26 : decode cJ6_bitCount_0f7a4 26 = .ok (.iconst 4, 1) := by decide +kernel
theorem dJ6_bitCount_0f7a4_27 : decode cJ6_bitCount_0f7a4 27 = .ok (.iushr, 1) := by decide +kernel
theorem dJ6_bitCount_0f7a4_28 : decode cJ6_bitCount_0f7a4 28 = .ok (.iadd, 1) := by decide +kernel
theorem dJ6_bitCount_0f7a4_29 : decode cJ6_bitCount_0f7a4 29 = .ok (.ldc_w 267, 3) := by decide +kernel
theorem dJ6_bitCount_0f7a4_32 : decode cJ6_bitCount_0f7a4 32 = .ok (.iand, 1) := by decide +kernel
theorem dJ6_bitCount_0f7a4_33 : decode cJ6_bitCount_0f7a4 33 = .ok (.istore_n 0, 1) := by decide +kernel
theorem dJ6_bitCount_0f7a4_34 : decode cJ6_bitCount_0f7a4 34 = .ok (.iload_n 0, 1) := by decide +kernel
theorem dJ6_bitCount_0f7a4_35 : decode cJ6_bitCount_0f7a4 35 = .ok (.iload_n 0, 1) := by decide +kernel
theorem dJ6_bitCount_0f7a4_36 : decode cJ6_bitCount_0f7a4 36 = .ok (.bipush 8, 2) := by decide +kernel
theorem dJ6_bitCount_0f7a4_38 : decode cJ6_bitCount_0f7a4 38 = .ok (.iushr, 1) := by decide +kernel
theorem dJ6_bitCount_0f7a4_39 : decode cJ6_bitCount_0f7a4 39 = .ok (.iadd, 1) := by decide +kernel
theorem dJ6_bitCount_0f7a4_40 : decode cJ6_bitCount_0f7a4 40 = .ok (.istore_n 0, 1) := by decide +kernel
theorem dJ6_bitCount_0f7a4_41 : decode cJ6_bitCount_0f7a4 41 = .ok (.iload_n 0, 1) := by decide +kernel
theorem dJ6_bitCount_0f7a4_42 : decode cJ6_bitCount_0f7a4 42 = .ok (.iload_n 0, 1) := by decide +kernel
theorem dJ6_bitCount_0f7a4_43 : decode cJ6_bitCount_0f7a4 43 = .ok (.bipush 16, 2) := by decide +kernel
theorem dJ6_bitCount_0f7a4_45 : decode cJ6_bitCount_0f7a4 45 = .ok (.iushr, 1) := by decide +kernel
theorem dJ6_bitCount_0f7a4_46 : decode cJ6_bitCount_0f7a4 46 = .ok (.iadd, 1) := by decide +kernel
theorem dJ6_bitCount_0f7a4_47 : decode cJ6_bitCount_0f7a4 47 = .ok (.istore_n 0, 1) := by decide +kernel
theorem dJ6_bitCount_0f7a4_48 : decode cJ6_bitCount_0f7a4 48 = .ok (.iload_n 0, 1) := by decide +kernel
theorem dJ6_bitCount_0f7a4_49 : decode cJ6_bitCount_0f7a4 49 = .ok (.bipush 63, 2) := by decide +kernel
theorem dJ6_bitCount_0f7a4_51 : decode cJ6_bitCount_0f7a4 51 = .ok (.iand, 1) := by decide +kernel
theorem dJ6_bitCount_0f7a4_52 : decode cJ6_bitCount_0f7a4 52 = .ok (.ireturn, 1) := by decide +kernel
theorem dJ9_max_7cf53_0 : decode cJ9_max_7cf53 0 = .ok (.iload_n 0, 1) := by decide +kernel
theorem dJ9_max_7cf53_1 : decode cJ9_max_7cf53 1 = .ok (.iload_n 1, 1) := by decide +kernel
theorem dJ9_max_7cf53_2 : decode cJ9_max_7cf53 2 = .ok (.if_icmp .lt 7, 3) := by decide +kernel
theorem dJ9_max_7cf53_5 : decode cJ9_max_7cf53 5 = .ok (.iload_n 0, 1) := by decide +kernel
theorem dJ9_max_7cf53_6 : decode cJ9_max_7cf53 6 = .ok (.goto 4, 3) := by decide +kernel
theorem dJ9_max_7cf53_9 : decode cJ9_max_7cf53 9 = .ok (.iload_n 1, 1) := by decide +kernel
theorem dJ9_max_7cf53_10 : decode cJ9_max_7cf53 10 = .ok (.ireturn, 1) := by decide +kernel
theorem dJ9_min_7cf53_0 : decode cJ9_min_7cf53 0 = .ok (.iload_n 0, 1) := by decide +kernel
theorem dJ9_min_7cf53_1 : decode cJ9_min_7cf53 1 = .ok (.iload_n 1, 1) := by decide +kernel
theorem dJ9_min_7cf53_2 : decode cJ9_min_7cf53 2 = .ok (.if_icmp .gt 7, 3) := by decide +kernel
theorem dJ9_min_7cf53_5 : decode cJ9_min_7cf53 5 = .ok (.iload_n 0, 1) := by decide +kernel
theorem dJ9_min_7cf53_6 : decode cJ9_min_7cf53 6 = .ok (.goto 4, 3) := by decide +kernel
theorem dJ9_min_7cf53_9 : decode cJ9_min_7cf53 9 = .ok (.iload_n 1, 1) := by decide +kernel
theorem dJ9_min_7cf53_10 : decode cJ9_min_7cf53 10 = .ok (.ireturn, 1) := by decide +kernel
theorem dJ7_fill_53178_0 : decode cJ7_fill_53178 0 = .ok (.iconst 0, 1) := by decide +kernel
theorem dJ7_fill_53178_1 : decode cJ7_fill_53178 1 = .ok (.istore_n 2, 1) := by decide +kernel
theorem dJ7_fill_53178_2 : decode cJ7_fill_53178 2 = .ok (.aload_n 0, 1) := by decide +kernel
theorem dJ7_fill_53178_3 : decode cJ7_fill_53178 3 = .ok (.arraylength, 1) := by decide +kernel
theorem dJ7_fill_53178_4 : decode cJ7_fill_53178 4 = .ok (.istore_n 3, 1) := by decide +kernel
theorem dJ7_fill_53178_5 : decode cJ7_fill_53178 5 = .ok (.iload_n 2, 1) := by decide +kernel
theorem dJ7_fill_53178_6 : decode cJ7_fill_53178 6 = .ok (.iload_n 3, 1) := by decide +kernel
theorem dJ7_fill_53178_7 : decode cJ7_fill_53178 7 = .ok (.if_icmp .ge 13, 3) := by decide +kernel
theorem dJ7_fill_53178_10 : decode cJ7_fill_53178 10 = .ok (.aload_n 0, 1) := by decide +kernel
theorem dJ7_fill_53178_11 : decode cJ7_fill_53178 11 = .ok (.iload_n 2, 1) := by decide +kernel
theorem dJ7_fill_53178_12 : decode cJ7_fill_53178 12 = .ok (.iload_n 1, 1) := by decide +kernel
theorem dJ7_fill_53178_13 : decode cJ7_fill_53178 13 = .ok (.iastore, 1) := by decide +kernel
theorem dJ7_fill_53178_14 : decode cJ7_fill_53178 14 = .ok (.iinc 2 1, 3) := by decide +kernel
theorem dJ7_fill_53178_17 : decode cJ7_fill_53178 17 = .ok (.goto (-12), 3) := by decide +kernel
theorem dJ7_fill_53178_20 : decode cJ7_fill_53178 20 = .ok (.return_, 1) := by decide +kernel
theorem dL_read_0 : decode cL_read 0 = .ok (.aload_n 3, 1) := by decide +kernel
theorem dL_read_1 : decode cL_read 1 = .ok (.iconst 0, 1) := by decide +kernel
theorem dL_read_2 : decode cL_read 2 = .ok (.aload_n 0, 1) := by decide +kernel
theorem dL_read_3 : decode cL_read 3 = .ok (.iload_n 1, 1) := by decide +kernel
theorem dL_read_4 : decode cL_read 4 = .ok (.iload_n 2, 1) := by decide +kernel
theorem dL_read_5 : decode cL_read 5 = .ok (.invokevirtual 7, 3) := by decide +kernel
theorem dL_read_8 : decode cL_read 8 = .ok (.i2l, 1) := by decide +kernel
theorem dL_read_9 : decode cL_read 9 = .ok (.lastore, 1) := by decide +kernel
theorem dL_read_10 : decode cL_read 10 = .ok (.goto 7, 3) := by decide +kernel
theorem dL_read_13 : decode cL_read 13 = .ok (.astore 4, 2) := by decide +kernel
theorem dL_read_15 : decode cL_read 15 = .ok (.iconst 1, 1) := by decide +kernel
theorem dL_read_16 : decode cL_read 16 = .ok (.ireturn, 1) := by decide +kernel
theorem dL_read_17 : decode cL_read 17 = .ok (.iconst 0, 1) := by decide +kernel
theorem dL_read_18 : decode cL_read 18 = .ok (.ireturn, 1) := by decide +kernel
theorem dL_plate_0 : decode cL_plate 0 = .ok (.aload_n 3, 1) := by decide +kernel
theorem dL_plate_1 : decode cL_plate 1 = .ok (.iconst 0, 1) := by decide +kernel
theorem dL_plate_2 : decode cL_plate 2 = .ok (.aload_n 0, 1) := by decide +kernel
theorem dL_plate_3 : decode cL_plate 3 = .ok (.iload_n 1, 1) := by decide +kernel
theorem dL_plate_4 : decode cL_plate 4 = .ok (.iload_n 2, 1) := by decide +kernel
theorem dL_plate_5 : decode cL_plate 5 = .ok (.invokevirtual 15, 3) := by decide +kernel
theorem dL_plate_8 : decode cL_plate 8 = .ok (.i2l, 1) := by decide +kernel
theorem dL_plate_9 : decode cL_plate 9 = .ok (.lastore, 1) := by decide +kernel
theorem dL_plate_10 : decode cL_plate 10 = .ok (.goto 7, 3) := by decide +kernel
theorem dL_plate_13 : decode cL_plate 13 = .ok (.astore 4, 2) := by decide +kernel
theorem dL_plate_15 : decode cL_plate 15 = .ok (.iconst 1, 1) := by decide +kernel
theorem dL_plate_16 : decode cL_plate 16 = .ok (.ireturn, 1) := by decide +kernel
theorem dL_plate_17 : decode cL_plate 17 = .ok (.iconst 0, 1) := by decide +kernel
theorem dL_plate_18 : decode cL_plate 18 = .ok (.ireturn, 1) := by decide +kernel
theorem dL_state_0 : decode cL_state 0 = .ok (.aload 4, 2) := by decide +kernel
theorem dL_state_2 : decode cL_state 2 = .ok (.iconst 0, 1) := by decide +kernel
theorem dL_state_3 : decode cL_state 3 = .ok (.aload_n 0, 1) := by decide +kernel
theorem dL_state_4 : decode cL_state 4 = .ok (.iload_n 1, 1) := by decide +kernel
theorem dL_state_5 : decode cL_state 5 = .ok (.iload_n 2, 1) := by decide +kernel
theorem dL_state_6 : decode cL_state 6 = .ok (.iload_n 3, 1) := by decide +kernel
theorem dL_state_7 : decode cL_state 7 = .ok (.invokevirtual 18, 3) := by decide +kernel
theorem dL_state_10 : decode cL_state 10 = .ok (.i2l, 1) := by decide +kernel
theorem dL_state_11 : decode cL_state 11 = .ok (.lastore, 1) := by decide +kernel
theorem dL_state_12 : decode cL_state 12 = .ok (.goto 7, 3) := by decide +kernel
theorem dL_state_15 : decode cL_state 15 = .ok (.astore 5, 2) := by decide +kernel
theorem dL_state_17 : decode cL_state 17 = .ok (.iconst 1, 1) := by decide +kernel
theorem dL_state_18 : decode cL_state 18 = .ok (.ireturn, 1) := by decide +kernel
theorem dL_state_19 : decode cL_state 19 = .ok (.iconst 0, 1) := by decide +kernel
theorem dL_state_20 : decode cL_state 20 = .ok (.ireturn, 1) := by decide +kernel
theorem dL_get_0 : decode cL_get 0 = .ok (.aload_n 2, 1) := by decide +kernel
theorem dL_get_1 : decode cL_get 1 = .ok (.iconst 0, 1) := by decide +kernel
theorem dL_get_2 : decode cL_get 2 = .ok (.aload_n 0, 1) := by decide +kernel
theorem dL_get_3 : decode cL_get 3 = .ok (.iload_n 1, 1) := by decide +kernel
theorem dL_get_4 : decode cL_get 4 = .ok (.invokevirtual 22, 3) := by decide +kernel
theorem dL_get_7 : decode cL_get 7 = .ok (.lastore, 1) := by decide +kernel
theorem dL_get_8 : decode cL_get 8 = .ok (.goto 9, 3) := by decide +kernel
theorem dL_get_11 : decode cL_get 11 = .ok (.astore_n 3, 1) := by decide +kernel
theorem dL_get_12 : decode cL_get 12 = .ok (.iconst 1, 1) := by decide +kernel
theorem dL_get_13 : decode cL_get 13 = .ok (.ireturn, 1) := by decide +kernel
theorem dL_get_14 : decode cL_get 14 = .ok (.astore_n 3, 1) := by decide +kernel
theorem dL_get_15 : decode cL_get 15 = .ok (.iconst 2, 1) := by decide +kernel
theorem dL_get_16 : decode cL_get 16 = .ok (.ireturn, 1) := by decide +kernel
theorem dL_get_17 : decode cL_get 17 = .ok (.iconst 0, 1) := by decide +kernel
theorem dL_get_18 : decode cL_get 18 = .ok (.ireturn, 1) := by decide +kernel
theorem dL_law_0 : decode cL_law 0 = .ok (.new 8, 3) := by decide +kernel
theorem dL_law_3 : decode cL_law 3 = .ok (.dup, 1) := by decide +kernel
theorem dL_law_4 : decode cL_law 4 = .ok (.invokespecial 28, 3) := by decide +kernel
theorem dL_law_7 : decode cL_law 7 = .ok (.astore_n 1, 1) := by decide +kernel
theorem dL_law_8 : decode cL_law 8 = .ok (.new 29, 3) := by decide +kernel
theorem dL_law_11 : decode cL_law 11 = .ok (.dup, 1) := by decide +kernel
theorem dL_law_12 : decode cL_law 12 = .ok (.invokespecial 31, 3) := by decide +kernel
theorem dL_law_15 : decode cL_law 15 = .ok (.astore_n 2, 1) := by decide +kernel
theorem dL_law_16 : decode cL_law 16 = .ok (.iconst 1, 1) := by decide +kernel
theorem dL_law_17 : decode cL_law 17 = .ok (.newarray .long, 2) := by decide +kernel
theorem dL_law_19 : decode cL_law 19 = .ok (.astore_n 3, 1) := by decide +kernel
theorem dL_law_20 : decode cL_law 20 = .ok (.iconst 0, 1) := by decide +kernel
theorem dL_law_21 : decode cL_law 21 = .ok (.istore 4, 2) := by decide +kernel
theorem dL_law_23 : decode cL_law 23 = .ok (.iload 4, 2) := by decide +kernel
theorem dL_law_25 : decode cL_law 25 = .ok (.aload_n 0, 1) := by decide +kernel
theorem dL_law_26 : decode cL_law 26 = .ok (.arraylength, 1) := by decide +kernel
theorem dL_law_27 : decode cL_law 27 = .ok (.iconst 4, 1) := by decide +kernel
theorem dL_law_28 : decode cL_law 28 = .ok (.isub, 1) := by decide +kernel
theorem dL_law_29 : decode cL_law 29 = .ok (.if_icmp .gt 1070, 3) := by decide +kernel
theorem dL_law_32 : decode cL_law 32 = .ok (.aload_n 0, 1) := by decide +kernel
theorem dL_law_33 : decode cL_law 33 = .ok (.iload 4, 2) := by decide +kernel
theorem dL_law_35 : decode cL_law 35 = .ok (.iaload, 1) := by decide +kernel
theorem dL_law_36 : decode cL_law 36 = .ok (.bipush 31, 2) := by decide +kernel
theorem dL_law_38 : decode cL_law 38 = .ok (.iand, 1) := by decide +kernel
theorem dL_law_39 : decode cL_law 39 = .ok (.tableswitch 1054 0 25 #[117, 166, 179, 192, 260, 328, 365, 378, 458, 483, 508, 577, 614, 669, 682, 695, 764, 801, 814, 827, 852, 877, 914, 979, 1004, 1029], 117) := by decide +kernel
theorem dL_law_156 : decode cL_law 156 = .ok (.aload_n 1, 1) := by decide +kernel
theorem dL_law_157 : decode cL_law 157 = .ok (.aload_n 0, 1) := by decide +kernel
theorem dL_law_158 : decode cL_law 158 = .ok (.iload 4, 2) := by decide +kernel
theorem dL_law_160 : decode cL_law 160 = .ok (.iconst 1, 1) := by decide +kernel
theorem dL_law_161 : decode cL_law 161 = .ok (.iadd, 1) := by decide +kernel
theorem dL_law_162 : decode cL_law 162 = .ok (.iaload, 1) := by decide +kernel
theorem dL_law_163 : decode cL_law 163 = .ok (.aload_n 0, 1) := by decide +kernel
theorem dL_law_164 : decode cL_law 164 = .ok (.iload 4, 2) := by decide +kernel
theorem dL_law_166 : decode cL_law 166 = .ok (.iconst 2, 1) := by decide +kernel
theorem dL_law_167 : decode cL_law 167 = .ok (.iadd, 1) := by decide +kernel
theorem dL_law_168 : decode cL_law 168 = .ok (.iaload, 1) := by decide +kernel
theorem dL_law_169 : decode cL_law 169 = .ok (.aload_n 0, 1) := by decide +kernel
theorem dL_law_170 : decode cL_law 170 = .ok (.iload 4, 2) := by decide +kernel
theorem dL_law_172 : decode cL_law 172 = .ok (.iconst 3, 1) := by decide +kernel
theorem dL_law_173 : decode cL_law 173 = .ok (.iadd, 1) := by decide +kernel
theorem dL_law_174 : decode cL_law 174 = .ok (.iaload, 1) := by decide +kernel
theorem dL_law_175 : decode cL_law 175 = .ok (.invokevirtual 32, 3) := by decide +kernel
theorem dL_law_178 : decode cL_law 178 = .ok (.aload_n 2, 1) := by decide +kernel
theorem dL_law_179 : decode cL_law 179 = .ok (.aload_n 0, 1) := by decide +kernel
theorem dL_law_180 : decode cL_law 180 = .ok (.iload 4, 2) := by decide +kernel
theorem dL_law_182 : decode cL_law 182 = .ok (.iconst 1, 1) := by decide +kernel
theorem dL_law_183 : decode cL_law 183 = .ok (.iadd, 1) := by decide +kernel
theorem dL_law_184 : decode cL_law 184 = .ok (.iaload, 1) := by decide +kernel
theorem dL_law_185 : decode cL_law 185 = .ok (.aload_n 0, 1) := by decide +kernel
theorem dL_law_186 : decode cL_law 186 = .ok (.iload 4, 2) := by decide +kernel
theorem dL_law_188 : decode cL_law 188 = .ok (.iconst 2, 1) := by decide +kernel
theorem dL_law_189 : decode cL_law 189 = .ok (.iadd, 1) := by decide +kernel
theorem dL_law_190 : decode cL_law 190 = .ok (.iaload, 1) := by decide +kernel
theorem dL_law_191 : decode cL_law 191 = .ok (.aload_n 0, 1) := by decide +kernel
theorem dL_law_192 : decode cL_law 192 = .ok (.iload 4, 2) := by decide +kernel
theorem dL_law_194 : decode cL_law 194 = .ok (.iconst 3, 1) := by decide +kernel
theorem dL_law_195 : decode cL_law 195 = .ok (.iadd, 1) := by decide +kernel
theorem dL_law_196 : decode cL_law 196 = .ok (.iaload, 1) := by decide +kernel
theorem dL_law_197 : decode cL_law 197 = .ok (.invokevirtual 35, 3) := by decide +kernel
theorem dL_law_200 : decode cL_law 200 = .ok (.if_icmp .eq 893, 3) := by decide +kernel
theorem dL_law_203 : decode cL_law 203 = .ok (.iconst 0, 1) := by decide +kernel
theorem dL_law_204 : decode cL_law 204 = .ok (.ireturn, 1) := by decide +kernel
theorem dL_law_205 : decode cL_law 205 = .ok (.aload_n 1, 1) := by decide +kernel
theorem dL_law_206 : decode cL_law 206 = .ok (.invokevirtual 36, 3) := by decide +kernel
theorem dL_law_209 : decode cL_law 209 = .ok (.aload_n 2, 1) := by decide +kernel
theorem dL_law_210 : decode cL_law 210 = .ok (.invokevirtual 40, 3) := by decide +kernel
theorem dL_law_213 : decode cL_law 213 = .ok (.if_icmp .eq 880, 3) := by decide +kernel
theorem dL_law_216 : decode cL_law 216 = .ok (.iconst 0, 1) := by decide +kernel
theorem dL_law_217 : decode cL_law 217 = .ok (.ireturn, 1) := by decide +kernel
theorem dL_law_218 : decode cL_law 218 = .ok (.aload_n 1, 1) := by decide +kernel
theorem dL_law_219 : decode cL_law 219 = .ok (.invokevirtual 41, 3) := by decide +kernel
theorem dL_law_222 : decode cL_law 222 = .ok (.aload_n 2, 1) := by decide +kernel
theorem dL_law_223 : decode cL_law 223 = .ok (.invokevirtual 44, 3) := by decide +kernel
theorem dL_law_226 : decode cL_law 226 = .ok (.if_icmp .eq 867, 3) := by decide +kernel
theorem dL_law_229 : decode cL_law 229 = .ok (.iconst 0, 1) := by decide +kernel
theorem dL_law_230 : decode cL_law 230 = .ok (.ireturn, 1) := by decide +kernel
theorem dL_law_231 : decode cL_law 231 = .ok (.aload_n 1, 1) := by decide +kernel
theorem dL_law_232 : decode cL_law 232 = .ok (.aload_n 0, 1) := by decide +kernel
theorem dL_law_233 : decode cL_law 233 = .ok (.iload 4, 2) := by decide +kernel
theorem dL_law_235 : decode cL_law 235 = .ok (.iconst 1, 1) := by decide +kernel
theorem dL_law_236 : decode cL_law 236 = .ok (.iadd, 1) := by decide +kernel
theorem dL_law_237 : decode cL_law 237 = .ok (.iaload, 1) := by decide +kernel
theorem dL_law_238 : decode cL_law 238 = .ok (.aload_n 0, 1) := by decide +kernel
theorem dL_law_239 : decode cL_law 239 = .ok (.iload 4, 2) := by decide +kernel
theorem dL_law_241 : decode cL_law 241 = .ok (.iconst 2, 1) := by decide +kernel
theorem dL_law_242 : decode cL_law 242 = .ok (.iadd, 1) := by decide +kernel
theorem dL_law_243 : decode cL_law 243 = .ok (.iaload, 1) := by decide +kernel
theorem dL_law_244 : decode cL_law 244 = .ok (.aload_n 3, 1) := by decide +kernel
theorem dL_law_245 : decode cL_law 245 = .ok (.invokestatic 45, 3) := by decide +kernel
theorem dL_law_248 : decode cL_law 248 = .ok (.istore 5, 2) := by decide +kernel
theorem dL_law_250 : decode cL_law 250 = .ok (.aload_n 2, 1) := by decide +kernel
theorem dL_law_251 : decode cL_law 251 = .ok (.aload_n 0, 1) := by decide +kernel
theorem dL_law_252 : decode cL_law 252 = .ok (.iload 4, 2) := by decide +kernel
theorem dL_law_254 : decode cL_law 254 = .ok (.iconst 1, 1) := by decide +kernel
theorem dL_law_255 : decode cL_law 255 = .ok (.iadd, 1) := by decide +kernel
theorem dL_law_256 : decode cL_law 256 = .ok (.iaload, 1) := by decide +kernel
theorem dL_law_257 : decode cL_law 257 = .ok (.aload_n 0, 1) := by decide +kernel
theorem dL_law_258 : decode cL_law 258 = .ok (.iload 4, 2) := by decide +kernel
theorem dL_law_260 : decode cL_law 260 = .ok (.iconst 2, 1) := by decide +kernel
theorem dL_law_261 : decode cL_law 261 = .ok (.iadd, 1) := by decide +kernel
theorem dL_law_262 : decode cL_law 262 = .ok (.iaload, 1) := by decide +kernel
theorem dL_law_263 : decode cL_law 263 = .ok (.invokevirtual 50, 3) := by decide +kernel
theorem dL_law_266 : decode cL_law 266 = .ok (.istore 6, 2) := by decide +kernel
theorem dL_law_268 : decode cL_law 268 = .ok (.aload_n 2, 1) := by decide +kernel
theorem dL_law_269 : decode cL_law 269 = .ok (.invokevirtual 51, 3) := by decide +kernel
theorem dL_law_272 : decode cL_law 272 = .ok (.iload 5, 2) := by decide +kernel
theorem dL_law_274 : decode cL_law 274 = .ok (.if_icmp .eq 5, 3) := by decide +kernel
theorem dL_law_277 : decode cL_law 277 = .ok (.iconst 0, 1) := by decide +kernel
theorem dL_law_278 : decode cL_law 278 = .ok (.ireturn, 1) := by decide +kernel
theorem dL_law_279 : decode cL_law 279 = .ok (.iload 5, 2) := by decide +kernel
theorem dL_law_281 : decode cL_law 281 = .ok (.ifCond .ne 15, 3) := by decide +kernel
theorem dL_law_284 : decode cL_law 284 = .ok (.aload_n 3, 1) := by decide +kernel
theorem dL_law_285 : decode cL_law 285 = .ok (.iconst 0, 1) := by decide +kernel
theorem dL_law_286 : decode cL_law 286 = .ok (.laload, 1) := by decide +kernel
theorem dL_law_287 : decode cL_law 287 = .ok (.iload 6, 2) := by decide +kernel
theorem dL_law_289 : decode cL_law 289 = .ok (.i2l, 1) := by decide +kernel
theorem dL_law_290 : decode cL_law 290 = .ok (.lcmp, 1) := by decide +kernel
theorem dL_law_291 : decode cL_law 291 = .ok (.ifCond .eq 5, 3) := by decide +kernel
theorem dL_law_294 : decode cL_law 294 = .ok (.iconst 0, 1) := by decide +kernel
theorem dL_law_295 : decode cL_law 295 = .ok (.ireturn, 1) := by decide +kernel
theorem dL_law_296 : decode cL_law 296 = .ok (.goto 797, 3) := by decide +kernel
theorem dL_law_299 : decode cL_law 299 = .ok (.aload_n 1, 1) := by decide +kernel
theorem dL_law_300 : decode cL_law 300 = .ok (.aload_n 0, 1) := by decide +kernel
theorem dL_law_301 : decode cL_law 301 = .ok (.iload 4, 2) := by decide +kernel
theorem dL_law_303 : decode cL_law 303 = .ok (.iconst 1, 1) := by decide +kernel
theorem dL_law_304 : decode cL_law 304 = .ok (.iadd, 1) := by decide +kernel
theorem dL_law_305 : decode cL_law 305 = .ok (.iaload, 1) := by decide +kernel
theorem dL_law_306 : decode cL_law 306 = .ok (.aload_n 0, 1) := by decide +kernel
theorem dL_law_307 : decode cL_law 307 = .ok (.iload 4, 2) := by decide +kernel
theorem dL_law_309 : decode cL_law 309 = .ok (.iconst 2, 1) := by decide +kernel
theorem dL_law_310 : decode cL_law 310 = .ok (.iadd, 1) := by decide +kernel
theorem dL_law_311 : decode cL_law 311 = .ok (.iaload, 1) := by decide +kernel
theorem dL_law_312 : decode cL_law 312 = .ok (.aload_n 3, 1) := by decide +kernel
theorem dL_law_313 : decode cL_law 313 = .ok (.invokestatic 54, 3) := by decide +kernel
theorem dL_law_316 : decode cL_law 316 = .ok (.istore 5, 2) := by decide +kernel
theorem dL_law_318 : decode cL_law 318 = .ok (.aload_n 2, 1) := by decide +kernel
theorem dL_law_319 : decode cL_law 319 = .ok (.aload_n 0, 1) := by decide +kernel
theorem dL_law_320 : decode cL_law 320 = .ok (.iload 4, 2) := by decide +kernel
theorem dL_law_322 : decode cL_law 322 = .ok (.iconst 1, 1) := by decide +kernel
theorem dL_law_323 : decode cL_law 323 = .ok (.iadd, 1) := by decide +kernel
theorem dL_law_324 : decode cL_law 324 = .ok (.iaload, 1) := by decide +kernel
theorem dL_law_325 : decode cL_law 325 = .ok (.aload_n 0, 1) := by decide +kernel
theorem dL_law_326 : decode cL_law 326 = .ok (.iload 4, 2) := by decide +kernel
theorem dL_law_328 : decode cL_law 328 = .ok (.iconst 2, 1) := by decide +kernel
theorem dL_law_329 : decode cL_law 329 = .ok (.iadd, 1) := by decide +kernel
theorem dL_law_330 : decode cL_law 330 = .ok (.iaload, 1) := by decide +kernel
theorem dL_law_331 : decode cL_law 331 = .ok (.invokevirtual 56, 3) := by decide +kernel
theorem dL_law_334 : decode cL_law 334 = .ok (.istore 6, 2) := by decide +kernel
theorem dL_law_336 : decode cL_law 336 = .ok (.aload_n 2, 1) := by decide +kernel
theorem dL_law_337 : decode cL_law 337 = .ok (.invokevirtual 51, 3) := by decide +kernel
theorem dL_law_340 : decode cL_law 340 = .ok (.iload 5, 2) := by decide +kernel
theorem dL_law_342 : decode cL_law 342 = .ok (.if_icmp .eq 5, 3) := by decide +kernel
theorem dL_law_345 : decode cL_law 345 = .ok (.iconst 0, 1) := by decide +kernel
theorem dL_law_346 : decode cL_law 346 = .ok (.ireturn, 1) := by decide +kernel
theorem dL_law_347 : decode cL_law 347 = .ok (.iload 5, 2) := by decide +kernel
theorem dL_law_349 : decode cL_law 349 = .ok (.ifCond .ne 15, 3) := by decide +kernel
theorem dL_law_352 : decode cL_law 352 = .ok (.aload_n 3, 1) := by decide +kernel
theorem dL_law_353 : decode cL_law 353 = .ok (.iconst 0, 1) := by decide +kernel
theorem dL_law_354 : decode cL_law 354 = .ok (.laload, 1) := by decide +kernel
theorem dL_law_355 : decode cL_law 355 = .ok (.iload 6, 2) := by decide +kernel
theorem dL_law_357 : decode cL_law 357 = .ok (.i2l, 1) := by decide +kernel
theorem dL_law_358 : decode cL_law 358 = .ok (.lcmp, 1) := by decide +kernel
theorem dL_law_359 : decode cL_law 359 = .ok (.ifCond .eq 5, 3) := by decide +kernel
theorem dL_law_362 : decode cL_law 362 = .ok (.iconst 0, 1) := by decide +kernel
theorem dL_law_363 : decode cL_law 363 = .ok (.ireturn, 1) := by decide +kernel
theorem dL_law_364 : decode cL_law 364 = .ok (.goto 729, 3) := by decide +kernel
theorem dL_law_367 : decode cL_law 367 = .ok (.aload_n 1, 1) := by decide +kernel
theorem dL_law_368 : decode cL_law 368 = .ok (.aload_n 0, 1) := by decide +kernel
theorem dL_law_369 : decode cL_law 369 = .ok (.iload 4, 2) := by decide +kernel
theorem dL_law_371 : decode cL_law 371 = .ok (.iconst 1, 1) := by decide +kernel
theorem dL_law_372 : decode cL_law 372 = .ok (.iadd, 1) := by decide +kernel
theorem dL_law_373 : decode cL_law 373 = .ok (.iaload, 1) := by decide +kernel
theorem dL_law_374 : decode cL_law 374 = .ok (.aload_n 0, 1) := by decide +kernel
theorem dL_law_375 : decode cL_law 375 = .ok (.iload 4, 2) := by decide +kernel
theorem dL_law_377 : decode cL_law 377 = .ok (.iconst 2, 1) := by decide +kernel
theorem dL_law_378 : decode cL_law 378 = .ok (.iadd, 1) := by decide +kernel
theorem dL_law_379 : decode cL_law 379 = .ok (.iaload, 1) := by decide +kernel
theorem dL_law_380 : decode cL_law 380 = .ok (.invokevirtual 57, 3) := by decide +kernel
theorem dL_law_383 : decode cL_law 383 = .ok (.aload_n 2, 1) := by decide +kernel
theorem dL_law_384 : decode cL_law 384 = .ok (.aload_n 0, 1) := by decide +kernel
theorem dL_law_385 : decode cL_law 385 = .ok (.iload 4, 2) := by decide +kernel
theorem dL_law_387 : decode cL_law 387 = .ok (.iconst 1, 1) := by decide +kernel
theorem dL_law_388 : decode cL_law 388 = .ok (.iadd, 1) := by decide +kernel
theorem dL_law_389 : decode cL_law 389 = .ok (.iaload, 1) := by decide +kernel
theorem dL_law_390 : decode cL_law 390 = .ok (.aload_n 0, 1) := by decide +kernel
theorem dL_law_391 : decode cL_law 391 = .ok (.iload 4, 2) := by decide +kernel
theorem dL_law_393 : decode cL_law 393 = .ok (.iconst 2, 1) := by decide +kernel
theorem dL_law_394 : decode cL_law 394 = .ok (.iadd, 1) := by decide +kernel
theorem dL_law_395 : decode cL_law 395 = .ok (.iaload, 1) := by decide +kernel
theorem dL_law_396 : decode cL_law 396 = .ok (.invokevirtual 60, 3) := by decide +kernel
theorem dL_law_399 : decode cL_law 399 = .ok (.if_icmp .eq 694, 3) := by decide +kernel
theorem dL_law_402 : decode cL_law 402 = .ok (.iconst 0, 1) := by decide +kernel
theorem dL_law_403 : decode cL_law 403 = .ok (.ireturn, 1) := by decide +kernel
theorem dL_law_404 : decode cL_law 404 = .ok (.aload_n 1, 1) := by decide +kernel
theorem dL_law_405 : decode cL_law 405 = .ok (.invokevirtual 61, 3) := by decide +kernel
theorem dL_law_408 : decode cL_law 408 = .ok (.aload_n 2, 1) := by decide +kernel
theorem dL_law_409 : decode cL_law 409 = .ok (.invokevirtual 64, 3) := by decide +kernel
theorem dL_law_412 : decode cL_law 412 = .ok (.if_icmp .eq 681, 3) := by decide +kernel
theorem dL_law_415 : decode cL_law 415 = .ok (.iconst 0, 1) := by decide +kernel
theorem dL_law_416 : decode cL_law 416 = .ok (.ireturn, 1) := by decide +kernel
theorem dL_law_417 : decode cL_law 417 = .ok (.aload_n 1, 1) := by decide +kernel
theorem dL_law_418 : decode cL_law 418 = .ok (.aload_n 0, 1) := by decide +kernel
theorem dL_law_419 : decode cL_law 419 = .ok (.iload 4, 2) := by decide +kernel
theorem dL_law_421 : decode cL_law 421 = .ok (.iconst 1, 1) := by decide +kernel
theorem dL_law_422 : decode cL_law 422 = .ok (.iadd, 1) := by decide +kernel
theorem dL_law_423 : decode cL_law 423 = .ok (.iaload, 1) := by decide +kernel
theorem dL_law_424 : decode cL_law 424 = .ok (.aload_n 0, 1) := by decide +kernel
theorem dL_law_425 : decode cL_law 425 = .ok (.iload 4, 2) := by decide +kernel
theorem dL_law_427 : decode cL_law 427 = .ok (.iconst 2, 1) := by decide +kernel
theorem dL_law_428 : decode cL_law 428 = .ok (.iadd, 1) := by decide +kernel
theorem dL_law_429 : decode cL_law 429 = .ok (.iaload, 1) := by decide +kernel
theorem dL_law_430 : decode cL_law 430 = .ok (.aload_n 0, 1) := by decide +kernel
theorem dL_law_431 : decode cL_law 431 = .ok (.iload 4, 2) := by decide +kernel
theorem dL_law_433 : decode cL_law 433 = .ok (.iconst 3, 1) := by decide +kernel
theorem dL_law_434 : decode cL_law 434 = .ok (.iadd, 1) := by decide +kernel
theorem dL_law_435 : decode cL_law 435 = .ok (.iaload, 1) := by decide +kernel
theorem dL_law_436 : decode cL_law 436 = .ok (.aload_n 3, 1) := by decide +kernel
theorem dL_law_437 : decode cL_law 437 = .ok (.invokestatic 65, 3) := by decide +kernel
theorem dL_law_440 : decode cL_law 440 = .ok (.istore 5, 2) := by decide +kernel
theorem dL_law_442 : decode cL_law 442 = .ok (.aload_n 2, 1) := by decide +kernel
theorem dL_law_443 : decode cL_law 443 = .ok (.aload_n 0, 1) := by decide +kernel
theorem dL_law_444 : decode cL_law 444 = .ok (.iload 4, 2) := by decide +kernel
theorem dL_law_446 : decode cL_law 446 = .ok (.iconst 1, 1) := by decide +kernel
theorem dL_law_447 : decode cL_law 447 = .ok (.iadd, 1) := by decide +kernel
theorem dL_law_448 : decode cL_law 448 = .ok (.iaload, 1) := by decide +kernel
theorem dL_law_449 : decode cL_law 449 = .ok (.aload_n 0, 1) := by decide +kernel
theorem dL_law_450 : decode cL_law 450 = .ok (.iload 4, 2) := by decide +kernel
theorem dL_law_452 : decode cL_law 452 = .ok (.iconst 2, 1) := by decide +kernel
theorem dL_law_453 : decode cL_law 453 = .ok (.iadd, 1) := by decide +kernel
theorem dL_law_454 : decode cL_law 454 = .ok (.iaload, 1) := by decide +kernel
theorem dL_law_455 : decode cL_law 455 = .ok (.aload_n 0, 1) := by decide +kernel
theorem dL_law_456 : decode cL_law 456 = .ok (.iload 4, 2) := by decide +kernel
theorem dL_law_458 : decode cL_law 458 = .ok (.iconst 3, 1) := by decide +kernel
theorem dL_law_459 : decode cL_law 459 = .ok (.iadd, 1) := by decide +kernel
theorem dL_law_460 : decode cL_law 460 = .ok (.iaload, 1) := by decide +kernel
theorem dL_law_461 : decode cL_law 461 = .ok (.invokevirtual 68, 3) := by decide +kernel
theorem dL_law_464 : decode cL_law 464 = .ok (.istore 6, 2) := by decide +kernel
theorem dL_law_466 : decode cL_law 466 = .ok (.aload_n 2, 1) := by decide +kernel
theorem dL_law_467 : decode cL_law 467 = .ok (.invokevirtual 51, 3) := by decide +kernel
theorem dL_law_470 : decode cL_law 470 = .ok (.iload 5, 2) := by decide +kernel
theorem dL_law_472 : decode cL_law 472 = .ok (.if_icmp .eq 5, 3) := by decide +kernel
theorem dL_law_475 : decode cL_law 475 = .ok (.iconst 0, 1) := by decide +kernel
theorem dL_law_476 : decode cL_law 476 = .ok (.ireturn, 1) := by decide +kernel
theorem dL_law_477 : decode cL_law 477 = .ok (.iload 5, 2) := by decide +kernel
theorem dL_law_479 : decode cL_law 479 = .ok (.ifCond .ne 15, 3) := by decide +kernel
theorem dL_law_482 : decode cL_law 482 = .ok (.aload_n 3, 1) := by decide +kernel
theorem dL_law_483 : decode cL_law 483 = .ok (.iconst 0, 1) := by decide +kernel
theorem dL_law_484 : decode cL_law 484 = .ok (.laload, 1) := by decide +kernel
theorem dL_law_485 : decode cL_law 485 = .ok (.iload 6, 2) := by decide +kernel
theorem dL_law_487 : decode cL_law 487 = .ok (.i2l, 1) := by decide +kernel
theorem dL_law_488 : decode cL_law 488 = .ok (.lcmp, 1) := by decide +kernel
theorem dL_law_489 : decode cL_law 489 = .ok (.ifCond .eq 5, 3) := by decide +kernel
theorem dL_law_492 : decode cL_law 492 = .ok (.iconst 0, 1) := by decide +kernel
theorem dL_law_493 : decode cL_law 493 = .ok (.ireturn, 1) := by decide +kernel
theorem dL_law_494 : decode cL_law 494 = .ok (.goto 599, 3) := by decide +kernel
theorem dL_law_497 : decode cL_law 497 = .ok (.aload_n 1, 1) := by decide +kernel
theorem dL_law_498 : decode cL_law 498 = .ok (.aload_n 0, 1) := by decide +kernel
theorem dL_law_499 : decode cL_law 499 = .ok (.iload 4, 2) := by decide +kernel
theorem dL_law_501 : decode cL_law 501 = .ok (.iconst 1, 1) := by decide +kernel
theorem dL_law_502 : decode cL_law 502 = .ok (.iadd, 1) := by decide +kernel
theorem dL_law_503 : decode cL_law 503 = .ok (.iaload, 1) := by decide +kernel
theorem dL_law_504 : decode cL_law 504 = .ok (.invokevirtual 69, 3) := by decide +kernel
theorem dL_law_507 : decode cL_law 507 = .ok (.aload_n 2, 1) := by decide +kernel
theorem dL_law_508 : decode cL_law 508 = .ok (.aload_n 0, 1) := by decide +kernel
theorem dL_law_509 : decode cL_law 509 = .ok (.iload 4, 2) := by decide +kernel
theorem dL_law_511 : decode cL_law 511 = .ok (.iconst 1, 1) := by decide +kernel
theorem dL_law_512 : decode cL_law 512 = .ok (.iadd, 1) := by decide +kernel
theorem dL_law_513 : decode cL_law 513 = .ok (.iaload, 1) := by decide +kernel
theorem dL_law_514 : decode cL_law 514 = .ok (.invokevirtual 73, 3) := by decide +kernel
theorem dL_law_517 : decode cL_law 517 = .ok (.if_icmp .eq 576, 3) := by decide +kernel
theorem dL_law_520 : decode cL_law 520 = .ok (.iconst 0, 1) := by decide +kernel
theorem dL_law_521 : decode cL_law 521 = .ok (.ireturn, 1) := by decide +kernel
theorem dL_law_522 : decode cL_law 522 = .ok (.aload_n 1, 1) := by decide +kernel
theorem dL_law_523 : decode cL_law 523 = .ok (.aload_n 0, 1) := by decide +kernel
theorem dL_law_524 : decode cL_law 524 = .ok (.iload 4, 2) := by decide +kernel
theorem dL_law_526 : decode cL_law 526 = .ok (.iconst 1, 1) := by decide +kernel
theorem dL_law_527 : decode cL_law 527 = .ok (.iadd, 1) := by decide +kernel
theorem dL_law_528 : decode cL_law 528 = .ok (.iaload, 1) := by decide +kernel
theorem dL_law_529 : decode cL_law 529 = .ok (.invokevirtual 74, 3) := by decide +kernel
theorem dL_law_532 : decode cL_law 532 = .ok (.aload_n 2, 1) := by decide +kernel
theorem dL_law_533 : decode cL_law 533 = .ok (.aload_n 0, 1) := by decide +kernel
theorem dL_law_534 : decode cL_law 534 = .ok (.iload 4, 2) := by decide +kernel
theorem dL_law_536 : decode cL_law 536 = .ok (.iconst 1, 1) := by decide +kernel
theorem dL_law_537 : decode cL_law 537 = .ok (.iadd, 1) := by decide +kernel
theorem dL_law_538 : decode cL_law 538 = .ok (.iaload, 1) := by decide +kernel
theorem dL_law_539 : decode cL_law 539 = .ok (.invokevirtual 77, 3) := by decide +kernel
theorem dL_law_542 : decode cL_law 542 = .ok (.if_icmp .eq 551, 3) := by decide +kernel
theorem dL_law_545 : decode cL_law 545 = .ok (.iconst 0, 1) := by decide +kernel
theorem dL_law_546 : decode cL_law 546 = .ok (.ireturn, 1) := by decide +kernel
theorem dL_law_547 : decode cL_law 547 = .ok (.aload_n 1, 1) := by decide +kernel
theorem dL_law_548 : decode cL_law 548 = .ok (.aload_n 0, 1) := by decide +kernel
theorem dL_law_549 : decode cL_law 549 = .ok (.iload 4, 2) := by decide +kernel
theorem dL_law_551 : decode cL_law 551 = .ok (.iconst 1, 1) := by decide +kernel
theorem dL_law_552 : decode cL_law 552 = .ok (.iadd, 1) := by decide +kernel
theorem dL_law_553 : decode cL_law 553 = .ok (.iaload, 1) := by decide +kernel
theorem dL_law_554 : decode cL_law 554 = .ok (.aload_n 0, 1) := by decide +kernel
theorem dL_law_555 : decode cL_law 555 = .ok (.iload 4, 2) := by decide +kernel
theorem dL_law_557 : decode cL_law 557 = .ok (.iconst 2, 1) := by decide +kernel
theorem dL_law_558 : decode cL_law 558 = .ok (.iadd, 1) := by decide +kernel
theorem dL_law_559 : decode cL_law 559 = .ok (.iaload, 1) := by decide +kernel
theorem dL_law_560 : decode cL_law 560 = .ok (.i2l, 1) := by decide +kernel
theorem dL_law_561 : decode cL_law 561 = .ok (.bipush 32, 2) := by decide +kernel
theorem dL_law_563 : decode cL_law 563 = .ok (.lshl, 1) := by decide +kernel
theorem dL_law_564 : decode cL_law 564 = .ok (.aload_n 0, 1) := by decide +kernel
theorem dL_law_565 : decode cL_law 565 = .ok (.iload 4, 2) := by decide +kernel
theorem dL_law_567 : decode cL_law 567 = .ok (.iconst 3, 1) := by decide +kernel
theorem dL_law_568 : decode cL_law 568 = .ok (.iadd, 1) := by decide +kernel
theorem dL_law_569 : decode cL_law 569 = .ok (.iaload, 1) := by decide +kernel
theorem dL_law_570 : decode cL_law 570 = .ok (.i2l, 1) := by decide +kernel
theorem dL_law_571 : decode cL_law 571 = .ok (.ldc2_w 78, 3) := by decide +kernel
theorem dL_law_574 : decode cL_law 574 = .ok (.land, 1) := by decide +kernel
theorem dL_law_575 : decode cL_law 575 = .ok (.lor, 1) := by decide +kernel
theorem dL_law_576 : decode cL_law 576 = .ok (.invokevirtual 80, 3) := by decide +kernel
theorem dL_law_579 : decode cL_law 579 = .ok (.aload_n 2, 1) := by decide +kernel
theorem dL_law_580 : decode cL_law 580 = .ok (.aload_n 0, 1) := by decide +kernel
theorem dL_law_581 : decode cL_law 581 = .ok (.iload 4, 2) := by decide +kernel
theorem dL_law_583 : decode cL_law 583 = .ok (.iconst 1, 1) := by decide +kernel
theorem dL_law_584 : decode cL_law 584 = .ok (.iadd, 1) := by decide +kernel
theorem dL_law_585 : decode cL_law 585 = .ok (.iaload, 1) := by decide +kernel
theorem dL_law_586 : decode cL_law 586 = .ok (.aload_n 0, 1) := by decide +kernel
theorem dL_law_587 : decode cL_law 587 = .ok (.iload 4, 2) := by decide +kernel
theorem dL_law_589 : decode cL_law 589 = .ok (.iconst 2, 1) := by decide +kernel
theorem dL_law_590 : decode cL_law 590 = .ok (.iadd, 1) := by decide +kernel
theorem dL_law_591 : decode cL_law 591 = .ok (.iaload, 1) := by decide +kernel
theorem dL_law_592 : decode cL_law 592 = .ok (.i2l, 1) := by decide +kernel
theorem dL_law_593 : decode cL_law 593 = .ok (.bipush 32, 2) := by decide +kernel
theorem dL_law_595 : decode cL_law 595 = .ok (.lshl, 1) := by decide +kernel
theorem dL_law_596 : decode cL_law 596 = .ok (.aload_n 0, 1) := by decide +kernel
theorem dL_law_597 : decode cL_law 597 = .ok (.iload 4, 2) := by decide +kernel
theorem dL_law_599 : decode cL_law 599 = .ok (.iconst 3, 1) := by decide +kernel
theorem dL_law_600 : decode cL_law 600 = .ok (.iadd, 1) := by decide +kernel
theorem dL_law_601 : decode cL_law 601 = .ok (.iaload, 1) := by decide +kernel
theorem dL_law_602 : decode cL_law 602 = .ok (.i2l, 1) := by decide +kernel
theorem dL_law_603 : decode cL_law 603 = .ok (.ldc2_w 78, 3) := by decide +kernel
theorem dL_law_606 : decode cL_law 606 = .ok (.land, 1) := by decide +kernel
theorem dL_law_607 : decode cL_law 607 = .ok (.lor, 1) := by decide +kernel
theorem dL_law_608 : decode cL_law 608 = .ok (.invokevirtual 84, 3) := by decide +kernel
theorem dL_law_611 : decode cL_law 611 = .ok (.if_icmp .eq 482, 3) := by decide +kernel
theorem dL_law_614 : decode cL_law 614 = .ok (.iconst 0, 1) := by decide +kernel
theorem dL_law_615 : decode cL_law 615 = .ok (.ireturn, 1) := by decide +kernel
theorem dL_law_616 : decode cL_law 616 = .ok (.aload_n 1, 1) := by decide +kernel
theorem dL_law_617 : decode cL_law 617 = .ok (.aload_n 0, 1) := by decide +kernel
theorem dL_law_618 : decode cL_law 618 = .ok (.iload 4, 2) := by decide +kernel
theorem dL_law_620 : decode cL_law 620 = .ok (.iconst 1, 1) := by decide +kernel
theorem dL_law_621 : decode cL_law 621 = .ok (.iadd, 1) := by decide +kernel
theorem dL_law_622 : decode cL_law 622 = .ok (.iaload, 1) := by decide +kernel
theorem dL_law_623 : decode cL_law 623 = .ok (.aload_n 0, 1) := by decide +kernel
theorem dL_law_624 : decode cL_law 624 = .ok (.iload 4, 2) := by decide +kernel
theorem dL_law_626 : decode cL_law 626 = .ok (.iconst 2, 1) := by decide +kernel
theorem dL_law_627 : decode cL_law 627 = .ok (.iadd, 1) := by decide +kernel
theorem dL_law_628 : decode cL_law 628 = .ok (.iaload, 1) := by decide +kernel
theorem dL_law_629 : decode cL_law 629 = .ok (.invokevirtual 85, 3) := by decide +kernel
theorem dL_law_632 : decode cL_law 632 = .ok (.aload_n 2, 1) := by decide +kernel
theorem dL_law_633 : decode cL_law 633 = .ok (.aload_n 0, 1) := by decide +kernel
theorem dL_law_634 : decode cL_law 634 = .ok (.iload 4, 2) := by decide +kernel
theorem dL_law_636 : decode cL_law 636 = .ok (.iconst 1, 1) := by decide +kernel
theorem dL_law_637 : decode cL_law 637 = .ok (.iadd, 1) := by decide +kernel
theorem dL_law_638 : decode cL_law 638 = .ok (.iaload, 1) := by decide +kernel
theorem dL_law_639 : decode cL_law 639 = .ok (.aload_n 0, 1) := by decide +kernel
theorem dL_law_640 : decode cL_law 640 = .ok (.iload 4, 2) := by decide +kernel
theorem dL_law_642 : decode cL_law 642 = .ok (.iconst 2, 1) := by decide +kernel
theorem dL_law_643 : decode cL_law 643 = .ok (.iadd, 1) := by decide +kernel
theorem dL_law_644 : decode cL_law 644 = .ok (.iaload, 1) := by decide +kernel
theorem dL_law_645 : decode cL_law 645 = .ok (.invokevirtual 88, 3) := by decide +kernel
theorem dL_law_648 : decode cL_law 648 = .ok (.if_icmp .eq 445, 3) := by decide +kernel
theorem dL_law_651 : decode cL_law 651 = .ok (.iconst 0, 1) := by decide +kernel
theorem dL_law_652 : decode cL_law 652 = .ok (.ireturn, 1) := by decide +kernel
theorem dL_law_653 : decode cL_law 653 = .ok (.aload_n 1, 1) := by decide +kernel
theorem dL_law_654 : decode cL_law 654 = .ok (.aload_n 0, 1) := by decide +kernel
theorem dL_law_655 : decode cL_law 655 = .ok (.iload 4, 2) := by decide +kernel
theorem dL_law_657 : decode cL_law 657 = .ok (.iconst 1, 1) := by decide +kernel
theorem dL_law_658 : decode cL_law 658 = .ok (.iadd, 1) := by decide +kernel
theorem dL_law_659 : decode cL_law 659 = .ok (.iaload, 1) := by decide +kernel
theorem dL_law_660 : decode cL_law 660 = .ok (.aload_n 3, 1) := by decide +kernel
theorem dL_law_661 : decode cL_law 661 = .ok (.invokestatic 89, 3) := by decide +kernel
theorem dL_law_664 : decode cL_law 664 = .ok (.istore 5, 2) := by decide +kernel
theorem dL_law_666 : decode cL_law 666 = .ok (.aload_n 2, 1) := by decide +kernel
theorem dL_law_667 : decode cL_law 667 = .ok (.aload_n 0, 1) := by decide +kernel
theorem dL_law_668 : decode cL_law 668 = .ok (.iload 4, 2) := by decide +kernel
theorem dL_law_670 : decode cL_law 670 = .ok (.iconst 1, 1) := by decide +kernel
theorem dL_law_671 : decode cL_law 671 = .ok (.iadd, 1) := by decide +kernel
theorem dL_law_672 : decode cL_law 672 = .ok (.iaload, 1) := by decide +kernel
theorem dL_law_673 : decode cL_law 673 = .ok (.invokevirtual 92, 3) := by decide +kernel
theorem dL_law_676 : decode cL_law 676 = .ok (.lstore 6, 2) := by decide +kernel
theorem dL_law_678 : decode cL_law 678 = .ok (.aload_n 2, 1) := by decide +kernel
theorem dL_law_679 : decode cL_law 679 = .ok (.invokevirtual 51, 3) := by decide +kernel
theorem dL_law_682 : decode cL_law 682 = .ok (.iload 5, 2) := by decide +kernel
theorem dL_law_684 : decode cL_law 684 = .ok (.if_icmp .eq 5, 3) := by decide +kernel
theorem dL_law_687 : decode cL_law 687 = .ok (.iconst 0, 1) := by decide +kernel
theorem dL_law_688 : decode cL_law 688 = .ok (.ireturn, 1) := by decide +kernel
theorem dL_law_689 : decode cL_law 689 = .ok (.iload 5, 2) := by decide +kernel
theorem dL_law_691 : decode cL_law 691 = .ok (.ifCond .ne 14, 3) := by decide +kernel
theorem dL_law_694 : decode cL_law 694 = .ok (.aload_n 3, 1) := by decide +kernel
theorem dL_law_695 : decode cL_law 695 = .ok (.iconst 0, 1) := by decide +kernel
theorem dL_law_696 : decode cL_law 696 = .ok (.laload, 1) := by decide +kernel
theorem dL_law_697 : decode cL_law 697 = .ok (.lload 6, 2) := by decide +kernel
theorem dL_law_699 : decode cL_law 699 = .ok (.lcmp, 1) := by decide +kernel
theorem dL_law_700 : decode cL_law 700 = .ok (.ifCond .eq 5, 3) := by decide +kernel
theorem dL_law_703 : decode cL_law 703 = .ok (.iconst 0, 1) := by decide +kernel
theorem dL_law_704 : decode cL_law 704 = .ok (.ireturn, 1) := by decide +kernel
theorem dL_law_705 : decode cL_law 705 = .ok (.goto 388, 3) := by decide +kernel
theorem dL_law_708 : decode cL_law 708 = .ok (.aload_n 1, 1) := by decide +kernel
theorem dL_law_709 : decode cL_law 709 = .ok (.invokevirtual 93, 3) := by decide +kernel
theorem dL_law_712 : decode cL_law 712 = .ok (.aload_n 2, 1) := by decide +kernel
theorem dL_law_713 : decode cL_law 713 = .ok (.invokevirtual 96, 3) := by decide +kernel
theorem dL_law_716 : decode cL_law 716 = .ok (.if_icmp .eq 377, 3) := by decide +kernel
theorem dL_law_719 : decode cL_law 719 = .ok (.iconst 0, 1) := by decide +kernel
theorem dL_law_720 : decode cL_law 720 = .ok (.ireturn, 1) := by decide +kernel
theorem dL_law_721 : decode cL_law 721 = .ok (.aload_n 1, 1) := by decide +kernel
theorem dL_law_722 : decode cL_law 722 = .ok (.invokevirtual 97, 3) := by decide +kernel
theorem dL_law_725 : decode cL_law 725 = .ok (.aload_n 2, 1) := by decide +kernel
theorem dL_law_726 : decode cL_law 726 = .ok (.invokevirtual 101, 3) := by decide +kernel
theorem dL_law_729 : decode cL_law 729 = .ok (.if_icmp .eq 364, 3) := by decide +kernel
theorem dL_law_732 : decode cL_law 732 = .ok (.iconst 0, 1) := by decide +kernel
theorem dL_law_733 : decode cL_law 733 = .ok (.ireturn, 1) := by decide +kernel
theorem dL_law_734 : decode cL_law 734 = .ok (.aload_n 1, 1) := by decide +kernel
theorem dL_law_735 : decode cL_law 735 = .ok (.aload_n 0, 1) := by decide +kernel
theorem dL_law_736 : decode cL_law 736 = .ok (.iload 4, 2) := by decide +kernel
theorem dL_law_738 : decode cL_law 738 = .ok (.iconst 1, 1) := by decide +kernel
theorem dL_law_739 : decode cL_law 739 = .ok (.iadd, 1) := by decide +kernel
theorem dL_law_740 : decode cL_law 740 = .ok (.iaload, 1) := by decide +kernel
theorem dL_law_741 : decode cL_law 741 = .ok (.aload_n 0, 1) := by decide +kernel
theorem dL_law_742 : decode cL_law 742 = .ok (.iload 4, 2) := by decide +kernel
theorem dL_law_744 : decode cL_law 744 = .ok (.iconst 2, 1) := by decide +kernel
theorem dL_law_745 : decode cL_law 745 = .ok (.iadd, 1) := by decide +kernel
theorem dL_law_746 : decode cL_law 746 = .ok (.iaload, 1) := by decide +kernel
theorem dL_law_747 : decode cL_law 747 = .ok (.i2l, 1) := by decide +kernel
theorem dL_law_748 : decode cL_law 748 = .ok (.bipush 32, 2) := by decide +kernel
theorem dL_law_750 : decode cL_law 750 = .ok (.lshl, 1) := by decide +kernel
theorem dL_law_751 : decode cL_law 751 = .ok (.aload_n 0, 1) := by decide +kernel
theorem dL_law_752 : decode cL_law 752 = .ok (.iload 4, 2) := by decide +kernel
theorem dL_law_754 : decode cL_law 754 = .ok (.iconst 3, 1) := by decide +kernel
theorem dL_law_755 : decode cL_law 755 = .ok (.iadd, 1) := by decide +kernel
theorem dL_law_756 : decode cL_law 756 = .ok (.iaload, 1) := by decide +kernel
theorem dL_law_757 : decode cL_law 757 = .ok (.i2l, 1) := by decide +kernel
theorem dL_law_758 : decode cL_law 758 = .ok (.ldc2_w 78, 3) := by decide +kernel
theorem dL_law_761 : decode cL_law 761 = .ok (.land, 1) := by decide +kernel
theorem dL_law_762 : decode cL_law 762 = .ok (.lor, 1) := by decide +kernel
theorem dL_law_763 : decode cL_law 763 = .ok (.invokevirtual 102, 3) := by decide +kernel
theorem dL_law_766 : decode cL_law 766 = .ok (.aload_n 2, 1) := by decide +kernel
theorem dL_law_767 : decode cL_law 767 = .ok (.aload_n 0, 1) := by decide +kernel
theorem dL_law_768 : decode cL_law 768 = .ok (.iload 4, 2) := by decide +kernel
theorem dL_law_770 : decode cL_law 770 = .ok (.iconst 1, 1) := by decide +kernel
theorem dL_law_771 : decode cL_law 771 = .ok (.iadd, 1) := by decide +kernel
theorem dL_law_772 : decode cL_law 772 = .ok (.iaload, 1) := by decide +kernel
theorem dL_law_773 : decode cL_law 773 = .ok (.aload_n 0, 1) := by decide +kernel
theorem dL_law_774 : decode cL_law 774 = .ok (.iload 4, 2) := by decide +kernel
theorem dL_law_776 : decode cL_law 776 = .ok (.iconst 2, 1) := by decide +kernel
theorem dL_law_777 : decode cL_law 777 = .ok (.iadd, 1) := by decide +kernel
theorem dL_law_778 : decode cL_law 778 = .ok (.iaload, 1) := by decide +kernel
theorem dL_law_779 : decode cL_law 779 = .ok (.i2l, 1) := by decide +kernel
theorem dL_law_780 : decode cL_law 780 = .ok (.bipush 32, 2) := by decide +kernel
theorem dL_law_782 : decode cL_law 782 = .ok (.lshl, 1) := by decide +kernel
theorem dL_law_783 : decode cL_law 783 = .ok (.aload_n 0, 1) := by decide +kernel
theorem dL_law_784 : decode cL_law 784 = .ok (.iload 4, 2) := by decide +kernel
theorem dL_law_786 : decode cL_law 786 = .ok (.iconst 3, 1) := by decide +kernel
theorem dL_law_787 : decode cL_law 787 = .ok (.iadd, 1) := by decide +kernel
theorem dL_law_788 : decode cL_law 788 = .ok (.iaload, 1) := by decide +kernel
theorem dL_law_789 : decode cL_law 789 = .ok (.i2l, 1) := by decide +kernel
theorem dL_law_790 : decode cL_law 790 = .ok (.ldc2_w 78, 3) := by decide +kernel
theorem dL_law_793 : decode cL_law 793 = .ok (.land, 1) := by decide +kernel
theorem dL_law_794 : decode cL_law 794 = .ok (.lor, 1) := by decide +kernel
theorem dL_law_795 : decode cL_law 795 = .ok (.invokevirtual 105, 3) := by decide +kernel
theorem dL_law_798 : decode cL_law 798 = .ok (.if_icmp .eq 295, 3) := by decide +kernel
theorem dL_law_801 : decode cL_law 801 = .ok (.iconst 0, 1) := by decide +kernel
theorem dL_law_802 : decode cL_law 802 = .ok (.ireturn, 1) := by decide +kernel
theorem dL_law_803 : decode cL_law 803 = .ok (.aload_n 1, 1) := by decide +kernel
theorem dL_law_804 : decode cL_law 804 = .ok (.aload_n 0, 1) := by decide +kernel
theorem dL_law_805 : decode cL_law 805 = .ok (.iload 4, 2) := by decide +kernel
theorem dL_law_807 : decode cL_law 807 = .ok (.iconst 1, 1) := by decide +kernel
theorem dL_law_808 : decode cL_law 808 = .ok (.iadd, 1) := by decide +kernel
theorem dL_law_809 : decode cL_law 809 = .ok (.iaload, 1) := by decide +kernel
theorem dL_law_810 : decode cL_law 810 = .ok (.aload_n 0, 1) := by decide +kernel
theorem dL_law_811 : decode cL_law 811 = .ok (.iload 4, 2) := by decide +kernel
theorem dL_law_813 : decode cL_law 813 = .ok (.iconst 2, 1) := by decide +kernel
theorem dL_law_814 : decode cL_law 814 = .ok (.iadd, 1) := by decide +kernel
theorem dL_law_815 : decode cL_law 815 = .ok (.iaload, 1) := by decide +kernel
theorem dL_law_816 : decode cL_law 816 = .ok (.invokevirtual 106, 3) := by decide +kernel
theorem dL_law_819 : decode cL_law 819 = .ok (.aload_n 2, 1) := by decide +kernel
theorem dL_law_820 : decode cL_law 820 = .ok (.aload_n 0, 1) := by decide +kernel
theorem dL_law_821 : decode cL_law 821 = .ok (.iload 4, 2) := by decide +kernel
theorem dL_law_823 : decode cL_law 823 = .ok (.iconst 1, 1) := by decide +kernel
theorem dL_law_824 : decode cL_law 824 = .ok (.iadd, 1) := by decide +kernel
theorem dL_law_825 : decode cL_law 825 = .ok (.iaload, 1) := by decide +kernel
theorem dL_law_826 : decode cL_law 826 = .ok (.aload_n 0, 1) := by decide +kernel
theorem dL_law_827 : decode cL_law 827 = .ok (.iload 4, 2) := by decide +kernel
theorem dL_law_829 : decode cL_law 829 = .ok (.iconst 2, 1) := by decide +kernel
theorem dL_law_830 : decode cL_law 830 = .ok (.iadd, 1) := by decide +kernel
theorem dL_law_831 : decode cL_law 831 = .ok (.iaload, 1) := by decide +kernel
theorem dL_law_832 : decode cL_law 832 = .ok (.invokevirtual 109, 3) := by decide +kernel
theorem dL_law_835 : decode cL_law 835 = .ok (.if_icmp .eq 258, 3) := by decide +kernel
theorem dL_law_838 : decode cL_law 838 = .ok (.iconst 0, 1) := by decide +kernel
theorem dL_law_839 : decode cL_law 839 = .ok (.ireturn, 1) := by decide +kernel
theorem dL_law_840 : decode cL_law 840 = .ok (.aload_n 1, 1) := by decide +kernel
theorem dL_law_841 : decode cL_law 841 = .ok (.invokevirtual 110, 3) := by decide +kernel
theorem dL_law_844 : decode cL_law 844 = .ok (.aload_n 2, 1) := by decide +kernel
theorem dL_law_845 : decode cL_law 845 = .ok (.invokevirtual 113, 3) := by decide +kernel
theorem dL_law_848 : decode cL_law 848 = .ok (.if_icmp .eq 245, 3) := by decide +kernel
theorem dL_law_851 : decode cL_law 851 = .ok (.iconst 0, 1) := by decide +kernel
theorem dL_law_852 : decode cL_law 852 = .ok (.ireturn, 1) := by decide +kernel
theorem dL_law_853 : decode cL_law 853 = .ok (.aload_n 1, 1) := by decide +kernel
theorem dL_law_854 : decode cL_law 854 = .ok (.invokevirtual 114, 3) := by decide +kernel
theorem dL_law_857 : decode cL_law 857 = .ok (.aload_n 2, 1) := by decide +kernel
theorem dL_law_858 : decode cL_law 858 = .ok (.invokevirtual 117, 3) := by decide +kernel
theorem dL_law_861 : decode cL_law 861 = .ok (.if_icmp .eq 232, 3) := by decide +kernel
theorem dL_law_864 : decode cL_law 864 = .ok (.iconst 0, 1) := by decide +kernel
theorem dL_law_865 : decode cL_law 865 = .ok (.ireturn, 1) := by decide +kernel
theorem dL_law_866 : decode cL_law 866 = .ok (.aload_n 1, 1) := by decide +kernel
theorem dL_law_867 : decode cL_law 867 = .ok (.aload_n 0, 1) := by decide +kernel
theorem dL_law_868 : decode cL_law 868 = .ok (.iload 4, 2) := by decide +kernel
theorem dL_law_870 : decode cL_law 870 = .ok (.iconst 1, 1) := by decide +kernel
theorem dL_law_871 : decode cL_law 871 = .ok (.iadd, 1) := by decide +kernel
theorem dL_law_872 : decode cL_law 872 = .ok (.iaload, 1) := by decide +kernel
theorem dL_law_873 : decode cL_law 873 = .ok (.invokevirtual 118, 3) := by decide +kernel
theorem dL_law_876 : decode cL_law 876 = .ok (.aload_n 2, 1) := by decide +kernel
theorem dL_law_877 : decode cL_law 877 = .ok (.aload_n 0, 1) := by decide +kernel
theorem dL_law_878 : decode cL_law 878 = .ok (.iload 4, 2) := by decide +kernel
theorem dL_law_880 : decode cL_law 880 = .ok (.iconst 1, 1) := by decide +kernel
theorem dL_law_881 : decode cL_law 881 = .ok (.iadd, 1) := by decide +kernel
theorem dL_law_882 : decode cL_law 882 = .ok (.iaload, 1) := by decide +kernel
theorem dL_law_883 : decode cL_law 883 = .ok (.invokevirtual 121, 3) := by decide +kernel
theorem dL_law_886 : decode cL_law 886 = .ok (.if_icmp .eq 207, 3) := by decide +kernel
theorem dL_law_889 : decode cL_law 889 = .ok (.iconst 0, 1) := by decide +kernel
theorem dL_law_890 : decode cL_law 890 = .ok (.ireturn, 1) := by decide +kernel
theorem dL_law_891 : decode cL_law 891 = .ok (.aload_n 1, 1) := by decide +kernel
theorem dL_law_892 : decode cL_law 892 = .ok (.aload_n 0, 1) := by decide +kernel
theorem dL_law_893 : decode cL_law 893 = .ok (.iload 4, 2) := by decide +kernel
theorem dL_law_895 : decode cL_law 895 = .ok (.iconst 1, 1) := by decide +kernel
theorem dL_law_896 : decode cL_law 896 = .ok (.iadd, 1) := by decide +kernel
theorem dL_law_897 : decode cL_law 897 = .ok (.iaload, 1) := by decide +kernel
theorem dL_law_898 : decode cL_law 898 = .ok (.invokevirtual 122, 3) := by decide +kernel
theorem dL_law_901 : decode cL_law 901 = .ok (.aload_n 2, 1) := by decide +kernel
theorem dL_law_902 : decode cL_law 902 = .ok (.aload_n 0, 1) := by decide +kernel
theorem dL_law_903 : decode cL_law 903 = .ok (.iload 4, 2) := by decide +kernel
theorem dL_law_905 : decode cL_law 905 = .ok (.iconst 1, 1) := by decide +kernel
theorem dL_law_906 : decode cL_law 906 = .ok (.iadd, 1) := by decide +kernel
theorem dL_law_907 : decode cL_law 907 = .ok (.iaload, 1) := by decide +kernel
theorem dL_law_908 : decode cL_law 908 = .ok (.invokevirtual 125, 3) := by decide +kernel
theorem dL_law_911 : decode cL_law 911 = .ok (.if_icmp .eq 182, 3) := by decide +kernel
theorem dL_law_914 : decode cL_law 914 = .ok (.iconst 0, 1) := by decide +kernel
theorem dL_law_915 : decode cL_law 915 = .ok (.ireturn, 1) := by decide +kernel
theorem dL_law_916 : decode cL_law 916 = .ok (.aload_n 1, 1) := by decide +kernel
theorem dL_law_917 : decode cL_law 917 = .ok (.aload_n 0, 1) := by decide +kernel
theorem dL_law_918 : decode cL_law 918 = .ok (.iload 4, 2) := by decide +kernel
theorem dL_law_920 : decode cL_law 920 = .ok (.iconst 1, 1) := by decide +kernel
theorem dL_law_921 : decode cL_law 921 = .ok (.iadd, 1) := by decide +kernel
theorem dL_law_922 : decode cL_law 922 = .ok (.iaload, 1) := by decide +kernel
theorem dL_law_923 : decode cL_law 923 = .ok (.aload_n 0, 1) := by decide +kernel
theorem dL_law_924 : decode cL_law 924 = .ok (.iload 4, 2) := by decide +kernel
theorem dL_law_926 : decode cL_law 926 = .ok (.iconst 2, 1) := by decide +kernel
theorem dL_law_927 : decode cL_law 927 = .ok (.iadd, 1) := by decide +kernel
theorem dL_law_928 : decode cL_law 928 = .ok (.iaload, 1) := by decide +kernel
theorem dL_law_929 : decode cL_law 929 = .ok (.invokevirtual 126, 3) := by decide +kernel
theorem dL_law_932 : decode cL_law 932 = .ok (.aload_n 2, 1) := by decide +kernel
theorem dL_law_933 : decode cL_law 933 = .ok (.aload_n 0, 1) := by decide +kernel
theorem dL_law_934 : decode cL_law 934 = .ok (.iload 4, 2) := by decide +kernel
theorem dL_law_936 : decode cL_law 936 = .ok (.iconst 1, 1) := by decide +kernel
theorem dL_law_937 : decode cL_law 937 = .ok (.iadd, 1) := by decide +kernel
theorem dL_law_938 : decode cL_law 938 = .ok (.iaload, 1) := by decide +kernel
theorem dL_law_939 : decode cL_law 939 = .ok (.aload_n 0, 1) := by decide +kernel
theorem dL_law_940 : decode cL_law 940 = .ok (.iload 4, 2) := by decide +kernel
theorem dL_law_942 : decode cL_law 942 = .ok (.iconst 2, 1) := by decide +kernel
theorem dL_law_943 : decode cL_law 943 = .ok (.iadd, 1) := by decide +kernel
theorem dL_law_944 : decode cL_law 944 = .ok (.iaload, 1) := by decide +kernel
theorem dL_law_945 : decode cL_law 945 = .ok (.invokevirtual 129, 3) := by decide +kernel
theorem dL_law_948 : decode cL_law 948 = .ok (.if_icmp .eq 145, 3) := by decide +kernel
theorem dL_law_951 : decode cL_law 951 = .ok (.iconst 0, 1) := by decide +kernel
theorem dL_law_952 : decode cL_law 952 = .ok (.ireturn, 1) := by decide +kernel
theorem dL_law_953 : decode cL_law 953 = .ok (.aload_n 1, 1) := by decide +kernel
theorem dL_law_954 : decode cL_law 954 = .ok (.aload_n 0, 1) := by decide +kernel
theorem dL_law_955 : decode cL_law 955 = .ok (.iload 4, 2) := by decide +kernel
theorem dL_law_957 : decode cL_law 957 = .ok (.iconst 1, 1) := by decide +kernel
theorem dL_law_958 : decode cL_law 958 = .ok (.iadd, 1) := by decide +kernel
theorem dL_law_959 : decode cL_law 959 = .ok (.iaload, 1) := by decide +kernel
theorem dL_law_960 : decode cL_law 960 = .ok (.aload_n 0, 1) := by decide +kernel
theorem dL_law_961 : decode cL_law 961 = .ok (.iload 4, 2) := by decide +kernel
theorem dL_law_963 : decode cL_law 963 = .ok (.iconst 2, 1) := by decide +kernel
theorem dL_law_964 : decode cL_law 964 = .ok (.iadd, 1) := by decide +kernel
theorem dL_law_965 : decode cL_law 965 = .ok (.iaload, 1) := by decide +kernel
theorem dL_law_966 : decode cL_law 966 = .ok (.aload_n 0, 1) := by decide +kernel
theorem dL_law_967 : decode cL_law 967 = .ok (.iload 4, 2) := by decide +kernel
theorem dL_law_969 : decode cL_law 969 = .ok (.iconst 3, 1) := by decide +kernel
theorem dL_law_970 : decode cL_law 970 = .ok (.iadd, 1) := by decide +kernel
theorem dL_law_971 : decode cL_law 971 = .ok (.iaload, 1) := by decide +kernel
theorem dL_law_972 : decode cL_law 972 = .ok (.ifCond .eq 7, 3) := by decide +kernel
theorem dL_law_975 : decode cL_law 975 = .ok (.iconst 1, 1) := by decide +kernel
theorem dL_law_976 : decode cL_law 976 = .ok (.goto 4, 3) := by decide +kernel
theorem dL_law_979 : decode cL_law 979 = .ok (.iconst 0, 1) := by decide +kernel
theorem dL_law_980 : decode cL_law 980 = .ok (.invokevirtual 130, 3) := by decide +kernel
theorem dL_law_983 : decode cL_law 983 = .ok (.aload_n 2, 1) := by decide +kernel
theorem dL_law_984 : decode cL_law 984 = .ok (.aload_n 0, 1) := by decide +kernel
theorem dL_law_985 : decode cL_law 985 = .ok (.iload 4, 2) := by decide +kernel
theorem dL_law_987 : decode cL_law 987 = .ok (.iconst 1, 1) := by decide +kernel
theorem dL_law_988 : decode cL_law 988 = .ok (.iadd, 1) := by decide +kernel
theorem dL_law_989 : decode cL_law 989 = .ok (.iaload, 1) := by decide +kernel
theorem dL_law_990 : decode cL_law 990 = .ok (.aload_n 0, 1) := by decide +kernel
theorem dL_law_991 : decode cL_law 991 = .ok (.iload 4, 2) := by decide +kernel
theorem dL_law_993 : decode cL_law 993 = .ok (.iconst 2, 1) := by decide +kernel
theorem dL_law_994 : decode cL_law 994 = .ok (.iadd, 1) := by decide +kernel
theorem dL_law_995 : decode cL_law 995 = .ok (.iaload, 1) := by decide +kernel
theorem dL_law_996 : decode cL_law 996 = .ok (.aload_n 0, 1) := by decide +kernel
theorem dL_law_997 : decode cL_law 997 = .ok (.iload 4, 2) := by decide +kernel
theorem dL_law_999 : decode cL_law 999 = .ok (.iconst 3, 1) := by decide +kernel
theorem dL_law_1000 : decode cL_law 1000 = .ok (.iadd, 1) := by decide +kernel
theorem dL_law_1001 : decode cL_law 1001 = .ok (.iaload, 1) := by decide +kernel
theorem dL_law_1002 : decode cL_law 1002 = .ok (.ifCond .eq 7, 3) := by decide +kernel
theorem dL_law_1005 : decode cL_law 1005 = .ok (.iconst 1, 1) := by decide +kernel
theorem dL_law_1006 : decode cL_law 1006 = .ok (.goto 4, 3) := by decide +kernel
theorem dL_law_1009 : decode cL_law 1009 = .ok (.iconst 0, 1) := by decide +kernel
theorem dL_law_1010 : decode cL_law 1010 = .ok (.invokevirtual 134, 3) := by decide +kernel
theorem dL_law_1013 : decode cL_law 1013 = .ok (.if_icmp .eq 80, 3) := by decide +kernel
theorem dL_law_1016 : decode cL_law 1016 = .ok (.iconst 0, 1) := by decide +kernel
theorem dL_law_1017 : decode cL_law 1017 = .ok (.ireturn, 1) := by decide +kernel
theorem dL_law_1018 : decode cL_law 1018 = .ok (.aload_n 1, 1) := by decide +kernel
theorem dL_law_1019 : decode cL_law 1019 = .ok (.aload_n 0, 1) := by decide +kernel
theorem dL_law_1020 : decode cL_law 1020 = .ok (.iload 4, 2) := by decide +kernel
theorem dL_law_1022 : decode cL_law 1022 = .ok (.iconst 1, 1) := by decide +kernel
theorem dL_law_1023 : decode cL_law 1023 = .ok (.iadd, 1) := by decide +kernel
theorem dL_law_1024 : decode cL_law 1024 = .ok (.iaload, 1) := by decide +kernel
theorem dL_law_1025 : decode cL_law 1025 = .ok (.invokevirtual 135, 3) := by decide +kernel
theorem dL_law_1028 : decode cL_law 1028 = .ok (.aload_n 2, 1) := by decide +kernel
theorem dL_law_1029 : decode cL_law 1029 = .ok (.aload_n 0, 1) := by decide +kernel
theorem dL_law_1030 : decode cL_law 1030 = .ok (.iload 4, 2) := by decide +kernel
theorem dL_law_1032 : decode cL_law 1032 = .ok (.iconst 1, 1) := by decide +kernel
theorem dL_law_1033 : decode cL_law 1033 = .ok (.iadd, 1) := by decide +kernel
theorem dL_law_1034 : decode cL_law 1034 = .ok (.iaload, 1) := by decide +kernel
theorem dL_law_1035 : decode cL_law 1035 = .ok (.invokevirtual 138, 3) := by decide +kernel
theorem dL_law_1038 : decode cL_law 1038 = .ok (.if_icmp .eq 55, 3) := by decide +kernel
theorem dL_law_1041 : decode cL_law 1041 = .ok (.iconst 0, 1) := by decide +kernel
theorem dL_law_1042 : decode cL_law 1042 = .ok (.ireturn, 1) := by decide +kernel
theorem dL_law_1043 : decode cL_law 1043 = .ok (.aload_n 1, 1) := by decide +kernel
theorem dL_law_1044 : decode cL_law 1044 = .ok (.aload_n 0, 1) := by decide +kernel
theorem dL_law_1045 : decode cL_law 1045 = .ok (.iload 4, 2) := by decide +kernel
theorem dL_law_1047 : decode cL_law 1047 = .ok (.iconst 1, 1) := by decide +kernel
theorem dL_law_1048 : decode cL_law 1048 = .ok (.iadd, 1) := by decide +kernel
theorem dL_law_1049 : decode cL_law 1049 = .ok (.iaload, 1) := by decide +kernel
theorem dL_law_1050 : decode cL_law 1050 = .ok (.invokevirtual 139, 3) := by decide +kernel
theorem dL_law_1053 : decode cL_law 1053 = .ok (.aload_n 2, 1) := by decide +kernel
theorem dL_law_1054 : decode cL_law 1054 = .ok (.aload_n 0, 1) := by decide +kernel
theorem dL_law_1055 : decode cL_law 1055 = .ok (.iload 4, 2) := by decide +kernel
theorem dL_law_1057 : decode cL_law 1057 = .ok (.iconst 1, 1) := by decide +kernel
theorem dL_law_1058 : decode cL_law 1058 = .ok (.iadd, 1) := by decide +kernel
theorem dL_law_1059 : decode cL_law 1059 = .ok (.iaload, 1) := by decide +kernel
theorem dL_law_1060 : decode cL_law 1060 = .ok (.invokevirtual 142, 3) := by decide +kernel
theorem dL_law_1063 : decode cL_law 1063 = .ok (.if_icmp .eq 30, 3) := by decide +kernel
theorem dL_law_1066 : decode cL_law 1066 = .ok (.iconst 0, 1) := by decide +kernel
theorem dL_law_1067 : decode cL_law 1067 = .ok (.ireturn, 1) := by decide +kernel
theorem dL_law_1068 : decode cL_law 1068 = .ok (.aload_n 1, 1) := by decide +kernel
theorem dL_law_1069 : decode cL_law 1069 = .ok (.aload_n 0, 1) := by decide +kernel
theorem dL_law_1070 : decode cL_law 1070 = .ok (.iload 4, 2) := by decide +kernel
theorem dL_law_1072 : decode cL_law 1072 = .ok (.iconst 1, 1) := by decide +kernel
theorem dL_law_1073 : decode cL_law 1073 = .ok (.iadd, 1) := by decide +kernel
theorem dL_law_1074 : decode cL_law 1074 = .ok (.iaload, 1) := by decide +kernel
theorem dL_law_1075 : decode cL_law 1075 = .ok (.invokevirtual 143, 3) := by decide +kernel
theorem dL_law_1078 : decode cL_law 1078 = .ok (.aload_n 2, 1) := by decide +kernel
theorem dL_law_1079 : decode cL_law 1079 = .ok (.aload_n 0, 1) := by decide +kernel
theorem dL_law_1080 : decode cL_law 1080 = .ok (.iload 4, 2) := by decide +kernel
theorem dL_law_1082 : decode cL_law 1082 = .ok (.iconst 1, 1) := by decide +kernel
theorem dL_law_1083 : decode cL_law 1083 = .ok (.iadd, 1) := by decide +kernel
theorem dL_law_1084 : decode cL_law 1084 = .ok (.iaload, 1) := by decide +kernel
theorem dL_law_1085 : decode cL_law 1085 = .ok (.invokevirtual 146, 3) := by decide +kernel
theorem dL_law_1088 : decode cL_law 1088 = .ok (.if_icmp .eq 5, 3) := by decide +kernel
theorem dL_law_1091 : decode cL_law 1091 = .ok (.iconst 0, 1) := by decide +kernel
theorem dL_law_1092 : decode cL_law 1092 = .ok (.ireturn, 1) := by decide +kernel
theorem dL_law_1093 : decode cL_law 1093 = .ok (.iinc 4 4, 3) := by decide +kernel
theorem dL_law_1096 : decode cL_law 1096 = .ok (.goto (-1073), 3) := by decide +kernel
theorem dL_law_1099 : decode cL_law 1099 = .ok (.iconst 1, 1) := by decide +kernel
theorem dL_law_1100 : decode cL_law 1100 = .ok (.ireturn, 1) := by decide +kernel
end
