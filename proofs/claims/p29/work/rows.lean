section
-- ===== PART A: goes FIRST, ahead of the names: the tables' words, and 'selects' of the private methods out of them =====
/-- a private method of a class that the tables say can be made, by its rows of tables_1 -/
def lw_okq (q : MethodName × Nat) : Prop := (q.1.cls ≠ "java/lang/invoke/MethodHandle" ∧ q.1.cls ≠ "java/lang/invoke/VarHandle") ∧ Cond.instantiable q.1.cls q.2 ∈ tables_1 ∧ Cond.privateMethod q.1 ∈ tables_1 ∧ Cond.instanceMethod q.1 ∈ tables_1
theorem lw_p0 : lw_okq (⟨"RopeClock", "forget", "()V"⟩, 11) := ⟨⟨by decide +kernel, by decide +kernel⟩, List.mem_of_getElem? (i := 23) (by decide +kernel), List.mem_of_getElem? (i := 416) (by decide +kernel), List.mem_of_getElem? (i := 417) (by decide +kernel)⟩
theorem lw_p1 : lw_okq (⟨"RopeClock", "canBeSet", "(III)Z"⟩, 11) := ⟨⟨by decide +kernel, by decide +kernel⟩, List.mem_of_getElem? (i := 23) (by decide +kernel), List.mem_of_getElem? (i := 435) (by decide +kernel), List.mem_of_getElem? (i := 436) (by decide +kernel)⟩
theorem lw_p2 : lw_okq (⟨"RopeClock", "canAct", "(II)Z"⟩, 11) := ⟨⟨by decide +kernel, by decide +kernel⟩, List.mem_of_getElem? (i := 23) (by decide +kernel), List.mem_of_getElem? (i := 447) (by decide +kernel), List.mem_of_getElem? (i := 448) (by decide +kernel)⟩
theorem lw_p3 : lw_okq (⟨"RopeClock", "remembe\x72", "()V"⟩, 11) := ⟨⟨by decide +kernel, by decide +kernel⟩, List.mem_of_getElem? (i := 23) (by decide +kernel), List.mem_of_getElem? (i := 459) (by decide +kernel), List.mem_of_getElem? (i := 460) (by decide +kernel)⟩
theorem lw_p4 : lw_okq (⟨"RopeClock$World", "happen", "(II)V"⟩, 7) := ⟨⟨by decide +kernel, by decide +kernel⟩, List.mem_of_getElem? (i := 31) (by decide +kernel), List.mem_of_getElem? (i := 521) (by decide +kernel), List.mem_of_getElem? (i := 522) (by decide +kernel)⟩
theorem lw_p5 : lw_okq (⟨"RopeClock$World", "sailOut", "(IZ)V"⟩, 7) := ⟨⟨by decide +kernel, by decide +kernel⟩, List.mem_of_getElem? (i := 31) (by decide +kernel), List.mem_of_getElem? (i := 535) (by decide +kernel), List.mem_of_getElem? (i := 536) (by decide +kernel)⟩
theorem lw_p6 : lw_okq (⟨"RopeClock$World", "isWilling", "(IIZ)Z"⟩, 7) := ⟨⟨by decide +kernel, by decide +kernel⟩, List.mem_of_getElem? (i := 31) (by decide +kernel), List.mem_of_getElem? (i := 540) (by decide +kernel), List.mem_of_getElem? (i := 541) (by decide +kernel)⟩
theorem lw_p7 : lw_okq (⟨"RopeClock$World", "sailBack", "(IZ)V"⟩, 7) := ⟨⟨by decide +kernel, by decide +kernel⟩, List.mem_of_getElem? (i := 31) (by decide +kernel), List.mem_of_getElem? (i := 555) (by decide +kernel), List.mem_of_getElem? (i := 556) (by decide +kernel)⟩
theorem lw_p8 : lw_okq (⟨"RopeClock$World", "runClock", "()V"⟩, 7) := ⟨⟨by decide +kernel, by decide +kernel⟩, List.mem_of_getElem? (i := 31) (by decide +kernel), List.mem_of_getElem? (i := 560) (by decide +kernel), List.mem_of_getElem? (i := 561) (by decide +kernel)⟩
theorem lw_p9 : lw_okq (⟨"RopeClock$Tape", "wordAt", "(Ljava/lang/String;II)I"⟩, 10) := ⟨⟨by decide +kernel, by decide +kernel⟩, List.mem_of_getElem? (i := 300) (by decide +kernel), List.mem_of_getElem? (i := 599) (by decide +kernel), List.mem_of_getElem? (i := 600) (by decide +kernel)⟩
theorem lw_p10 : lw_okq (⟨"RopeClock$Tape", "isSame", "(Ljava/lang/String;III)Z"⟩, 10) := ⟨⟨by decide +kernel, by decide +kernel⟩, List.mem_of_getElem? (i := 300) (by decide +kernel), List.mem_of_getElem? (i := 651) (by decide +kernel), List.mem_of_getElem? (i := 652) (by decide +kernel)⟩
theorem lw_p11 : lw_okq (⟨"RopeClock$Tape", "putToken", "(II)V"⟩, 10) := ⟨⟨by decide +kernel, by decide +kernel⟩, List.mem_of_getElem? (i := 300) (by decide +kernel), List.mem_of_getElem? (i := 655) (by decide +kernel), List.mem_of_getElem? (i := 656) (by decide +kernel)⟩
theorem lw_p12 : lw_okq (⟨"RopeClock$Tape", "numberAt", "(II)I"⟩, 10) := ⟨⟨by decide +kernel, by decide +kernel⟩, List.mem_of_getElem? (i := 300) (by decide +kernel), List.mem_of_getElem? (i := 662) (by decide +kernel), List.mem_of_getElem? (i := 663) (by decide +kernel)⟩
theorem lw_p13 : lw_okq (⟨"RopeClock$TextReade\x72", "readLawLine", "(LRopeClock$Law;I)Z"⟩, 1) := ⟨⟨by decide +kernel, by decide +kernel⟩, List.mem_of_getElem? (i := 342) (by decide +kernel), List.mem_of_getElem? (i := 734) (by decide +kernel), List.mem_of_getElem? (i := 735) (by decide +kernel)⟩
theorem lw_p14 : lw_okq (⟨"RopeClock$TextReade\x72", "readSum", "(LRopeClock$Law;)Z"⟩, 1) := ⟨⟨by decide +kernel, by decide +kernel⟩, List.mem_of_getElem? (i := 342) (by decide +kernel), List.mem_of_getElem? (i := 742) (by decide +kernel), List.mem_of_getElem? (i := 743) (by decide +kernel)⟩
theorem lw_p15 : lw_okq (⟨"RopeClock$TextReade\x72", "readOperand", "(LRopeClock$Law;Z)Z"⟩, 1) := ⟨⟨by decide +kernel, by decide +kernel⟩, List.mem_of_getElem? (i := 342) (by decide +kernel), List.mem_of_getElem? (i := 746) (by decide +kernel), List.mem_of_getElem? (i := 747) (by decide +kernel)⟩
def lw_privs_1 : List (MethodName × Nat) := [(⟨"RopeClock", "forget", "()V"⟩, 11), (⟨"RopeClock", "canBeSet", "(III)Z"⟩, 11), (⟨"RopeClock", "canAct", "(II)Z"⟩, 11), (⟨"RopeClock", "remembe\x72", "()V"⟩, 11), (⟨"RopeClock$World", "happen", "(II)V"⟩, 7), (⟨"RopeClock$World", "sailOut", "(IZ)V"⟩, 7), (⟨"RopeClock$World", "isWilling", "(IIZ)Z"⟩, 7), (⟨"RopeClock$World", "sailBack", "(IZ)V"⟩, 7), (⟨"RopeClock$World", "runClock", "()V"⟩, 7), (⟨"RopeClock$Tape", "wordAt", "(Ljava/lang/String;II)I"⟩, 10), (⟨"RopeClock$Tape", "isSame", "(Ljava/lang/String;III)Z"⟩, 10), (⟨"RopeClock$Tape", "putToken", "(II)V"⟩, 10), (⟨"RopeClock$Tape", "numberAt", "(II)I"⟩, 10), (⟨"RopeClock$TextReade\x72", "readLawLine", "(LRopeClock$Law;I)Z"⟩, 1), (⟨"RopeClock$TextReade\x72", "readSum", "(LRopeClock$Law;)Z"⟩, 1), (⟨"RopeClock$TextReade\x72", "readOperand", "(LRopeClock$Law;Z)Z"⟩, 1)]
theorem lw_r1 : ∀ q ∈ lw_privs_1, lw_okq q := List.forall_mem_cons.mpr ⟨lw_p0, List.forall_mem_cons.mpr ⟨lw_p1, List.forall_mem_cons.mpr ⟨lw_p2, List.forall_mem_cons.mpr ⟨lw_p3, List.forall_mem_cons.mpr ⟨lw_p4, List.forall_mem_cons.mpr ⟨lw_p5, List.forall_mem_cons.mpr ⟨lw_p6, List.forall_mem_cons.mpr ⟨lw_p7, List.forall_mem_cons.mpr ⟨lw_p8, List.forall_mem_cons.mpr ⟨lw_p9, List.forall_mem_cons.mpr ⟨lw_p10, List.forall_mem_cons.mpr ⟨lw_p11, List.forall_mem_cons.mpr ⟨lw_p12, List.forall_mem_cons.mpr ⟨lw_p13, List.forall_mem_cons.mpr ⟨lw_p14, List.forall_mem_cons.mpr ⟨lw_p15, fun _ h => absurd h List.not_mem_nil⟩⟩⟩⟩⟩⟩⟩⟩⟩⟩⟩⟩⟩⟩⟩⟩
theorem lw_p16 : lw_okq (⟨"RopeClock$TextReade\x72", "readChoice", "(LRopeClock$Law;I)Z"⟩, 1) := ⟨⟨by decide +kernel, by decide +kernel⟩, List.mem_of_getElem? (i := 342) (by decide +kernel), List.mem_of_getElem? (i := 760) (by decide +kernel), List.mem_of_getElem? (i := 761) (by decide +kernel)⟩
theorem lw_p17 : lw_okq (⟨"RopeClock$TextReade\x72", "readSingle", "(LRopeClock$Law;I)Z"⟩, 1) := ⟨⟨by decide +kernel, by decide +kernel⟩, List.mem_of_getElem? (i := 342) (by decide +kernel), List.mem_of_getElem? (i := 764) (by decide +kernel), List.mem_of_getElem? (i := 765) (by decide +kernel)⟩
theorem lw_p18 : lw_okq (⟨"RopeClock$TextReade\x72", "readBoat", "(LRopeClock$Plan;I)Z"⟩, 1) := ⟨⟨by decide +kernel, by decide +kernel⟩, List.mem_of_getElem? (i := 342) (by decide +kernel), List.mem_of_getElem? (i := 783) (by decide +kernel), List.mem_of_getElem? (i := 784) (by decide +kernel)⟩
theorem lw_p19 : lw_okq (⟨"RopeClock$TextReade\x72", "readDay", "(LRopeClock$Plan;I)Z"⟩, 1) := ⟨⟨by decide +kernel, by decide +kernel⟩, List.mem_of_getElem? (i := 342) (by decide +kernel), List.mem_of_getElem? (i := 787) (by decide +kernel), List.mem_of_getElem? (i := 788) (by decide +kernel)⟩
theorem lw_p20 : lw_okq (⟨"RopeClock$TextReade\x72", "readDoing", "(LRopeClock$Plan;II)Z"⟩, 1) := ⟨⟨by decide +kernel, by decide +kernel⟩, List.mem_of_getElem? (i := 342) (by decide +kernel), List.mem_of_getElem? (i := 807) (by decide +kernel), List.mem_of_getElem? (i := 808) (by decide +kernel)⟩
theorem lw_p21 : lw_okq (⟨"RopeClock$TextReade\x72", "readAmount", "(II)Z"⟩, 1) := ⟨⟨by decide +kernel, by decide +kernel⟩, List.mem_of_getElem? (i := 342) (by decide +kernel), List.mem_of_getElem? (i := 811) (by decide +kernel), List.mem_of_getElem? (i := 812) (by decide +kernel)⟩
theorem lw_p22 : lw_okq (⟨"RopeClock$TextReade\x72", "readKinLine", "(LRopeClock$Kinship;I)Z"⟩, 1) := ⟨⟨by decide +kernel, by decide +kernel⟩, List.mem_of_getElem? (i := 342) (by decide +kernel), List.mem_of_getElem? (i := 827) (by decide +kernel), List.mem_of_getElem? (i := 828) (by decide +kernel)⟩
theorem lw_p23 : lw_okq (⟨"RopeClock", "fewestWinding", "(I)I"⟩, 11) := ⟨⟨by decide +kernel, by decide +kernel⟩, List.mem_of_getElem? (i := 23) (by decide +kernel), List.mem_of_getElem? (i := 886) (by decide +kernel), List.mem_of_getElem? (i := 887) (by decide +kernel)⟩
theorem lw_p24 : lw_okq (⟨"RopeClock", "addToSums", "(III)V"⟩, 11) := ⟨⟨by decide +kernel, by decide +kernel⟩, List.mem_of_getElem? (i := 23) (by decide +kernel), List.mem_of_getElem? (i := 899) (by decide +kernel), List.mem_of_getElem? (i := 900) (by decide +kernel)⟩
theorem lw_p25 : lw_okq (⟨"RopeClock$Thinke\x72", "turnInto", "(IIII)V"⟩, 5) := ⟨⟨by decide +kernel, by decide +kernel⟩, List.mem_of_getElem? (i := 352) (by decide +kernel), List.mem_of_getElem? (i := 977) (by decide +kernel), List.mem_of_getElem? (i := 978) (by decide +kernel)⟩
theorem lw_p26 : lw_okq (⟨"RopeClock$Thinke\x72", "ringInOrde\x72", "(I)V"⟩, 5) := ⟨⟨by decide +kernel, by decide +kernel⟩, List.mem_of_getElem? (i := 352) (by decide +kernel), List.mem_of_getElem? (i := 1016) (by decide +kernel), List.mem_of_getElem? (i := 1017) (by decide +kernel)⟩
theorem lw_p27 : lw_okq (⟨"RopeClock$Thinke\x72", "change", "(II)V"⟩, 5) := ⟨⟨by decide +kernel, by decide +kernel⟩, List.mem_of_getElem? (i := 352) (by decide +kernel), List.mem_of_getElem? (i := 1020) (by decide +kernel), List.mem_of_getElem? (i := 1021) (by decide +kernel)⟩
theorem lw_p28 : lw_okq (⟨"RopeClock$Thinke\x72", "isInOrde\x72", "(I)Z"⟩, 5) := ⟨⟨by decide +kernel, by decide +kernel⟩, List.mem_of_getElem? (i := 352) (by decide +kernel), List.mem_of_getElem? (i := 1024) (by decide +kernel), List.mem_of_getElem? (i := 1025) (by decide +kernel)⟩
theorem lw_p29 : lw_okq (⟨"RopeClock$Thinke\x72", "bestFrom", "(III)I"⟩, 5) := ⟨⟨by decide +kernel, by decide +kernel⟩, List.mem_of_getElem? (i := 352) (by decide +kernel), List.mem_of_getElem? (i := 1084) (by decide +kernel), List.mem_of_getElem? (i := 1085) (by decide +kernel)⟩
theorem lw_p30 : lw_okq (⟨"RopeClock$Thinke\x72", "worthOfStep", "(III)I"⟩, 5) := ⟨⟨by decide +kernel, by decide +kernel⟩, List.mem_of_getElem? (i := 352) (by decide +kernel), List.mem_of_getElem? (i := 1088) (by decide +kernel), List.mem_of_getElem? (i := 1089) (by decide +kernel)⟩
theorem lw_p31 : lw_okq (⟨"RopeClockModel", "isIn", "(III)Z"⟩, 62) := ⟨⟨by decide +kernel, by decide +kernel⟩, List.mem_of_getElem? (i := 1109) (by decide +kernel), List.mem_of_getElem? (i := 1315) (by decide +kernel), List.mem_of_getElem? (i := 1316) (by decide +kernel)⟩
def lw_privs_2 : List (MethodName × Nat) := [(⟨"RopeClock$TextReade\x72", "readChoice", "(LRopeClock$Law;I)Z"⟩, 1), (⟨"RopeClock$TextReade\x72", "readSingle", "(LRopeClock$Law;I)Z"⟩, 1), (⟨"RopeClock$TextReade\x72", "readBoat", "(LRopeClock$Plan;I)Z"⟩, 1), (⟨"RopeClock$TextReade\x72", "readDay", "(LRopeClock$Plan;I)Z"⟩, 1), (⟨"RopeClock$TextReade\x72", "readDoing", "(LRopeClock$Plan;II)Z"⟩, 1), (⟨"RopeClock$TextReade\x72", "readAmount", "(II)Z"⟩, 1), (⟨"RopeClock$TextReade\x72", "readKinLine", "(LRopeClock$Kinship;I)Z"⟩, 1), (⟨"RopeClock", "fewestWinding", "(I)I"⟩, 11), (⟨"RopeClock", "addToSums", "(III)V"⟩, 11), (⟨"RopeClock$Thinke\x72", "turnInto", "(IIII)V"⟩, 5), (⟨"RopeClock$Thinke\x72", "ringInOrde\x72", "(I)V"⟩, 5), (⟨"RopeClock$Thinke\x72", "change", "(II)V"⟩, 5), (⟨"RopeClock$Thinke\x72", "isInOrde\x72", "(I)Z"⟩, 5), (⟨"RopeClock$Thinke\x72", "bestFrom", "(III)I"⟩, 5), (⟨"RopeClock$Thinke\x72", "worthOfStep", "(III)I"⟩, 5), (⟨"RopeClockModel", "isIn", "(III)Z"⟩, 62)]
theorem lw_r2 : ∀ q ∈ lw_privs_2, lw_okq q := List.forall_mem_cons.mpr ⟨lw_p16, List.forall_mem_cons.mpr ⟨lw_p17, List.forall_mem_cons.mpr ⟨lw_p18, List.forall_mem_cons.mpr ⟨lw_p19, List.forall_mem_cons.mpr ⟨lw_p20, List.forall_mem_cons.mpr ⟨lw_p21, List.forall_mem_cons.mpr ⟨lw_p22, List.forall_mem_cons.mpr ⟨lw_p23, List.forall_mem_cons.mpr ⟨lw_p24, List.forall_mem_cons.mpr ⟨lw_p25, List.forall_mem_cons.mpr ⟨lw_p26, List.forall_mem_cons.mpr ⟨lw_p27, List.forall_mem_cons.mpr ⟨lw_p28, List.forall_mem_cons.mpr ⟨lw_p29, List.forall_mem_cons.mpr ⟨lw_p30, List.forall_mem_cons.mpr ⟨lw_p31, fun _ h => absurd h List.not_mem_nil⟩⟩⟩⟩⟩⟩⟩⟩⟩⟩⟩⟩⟩⟩⟩⟩
theorem lw_p32 : lw_okq (⟨"RopeClockModel", "canSet", "(III)Z"⟩, 62) := ⟨⟨by decide +kernel, by decide +kernel⟩, List.mem_of_getElem? (i := 1109) (by decide +kernel), List.mem_of_getElem? (i := 1323) (by decide +kernel), List.mem_of_getElem? (i := 1324) (by decide +kernel)⟩
theorem lw_p33 : lw_okq (⟨"RopeClockModel", "isIslande\x72", "(I)Z"⟩, 62) := ⟨⟨by decide +kernel, by decide +kernel⟩, List.mem_of_getElem? (i := 1109) (by decide +kernel), List.mem_of_getElem? (i := 1327) (by decide +kernel), List.mem_of_getElem? (i := 1328) (by decide +kernel)⟩
theorem lw_p34 : lw_okq (⟨"RopeClockModel", "types", "(I)V"⟩, 62) := ⟨⟨by decide +kernel, by decide +kernel⟩, List.mem_of_getElem? (i := 1109) (by decide +kernel), List.mem_of_getElem? (i := 1335) (by decide +kernel), List.mem_of_getElem? (i := 1336) (by decide +kernel)⟩
theorem lw_p35 : lw_okq (⟨"RopeClockModel", "readsText", "(I)I"⟩, 62) := ⟨⟨by decide +kernel, by decide +kernel⟩, List.mem_of_getElem? (i := 1109) (by decide +kernel), List.mem_of_getElem? (i := 1347) (by decide +kernel), List.mem_of_getElem? (i := 1348) (by decide +kernel)⟩
theorem lw_p36 : lw_okq (⟨"RopeClockModel", "reads", "()V"⟩, 62) := ⟨⟨by decide +kernel, by decide +kernel⟩, List.mem_of_getElem? (i := 1109) (by decide +kernel), List.mem_of_getElem? (i := 1351) (by decide +kernel), List.mem_of_getElem? (i := 1352) (by decide +kernel)⟩
theorem lw_p37 : lw_okq (⟨"RopeClockModel", "raw", "(I)I"⟩, 62) := ⟨⟨by decide +kernel, by decide +kernel⟩, List.mem_of_getElem? (i := 1109) (by decide +kernel), List.mem_of_getElem? (i := 1355) (by decide +kernel), List.mem_of_getElem? (i := 1356) (by decide +kernel)⟩
theorem lw_p38 : lw_okq (⟨"RopeClockModel", "isLette\x72", "(I)Z"⟩, 62) := ⟨⟨by decide +kernel, by decide +kernel⟩, List.mem_of_getElem? (i := 1109) (by decide +kernel), List.mem_of_getElem? (i := 1359) (by decide +kernel), List.mem_of_getElem? (i := 1360) (by decide +kernel)⟩
theorem lw_p39 : lw_okq (⟨"RopeClockModel", "wordAt", "(II)I"⟩, 62) := ⟨⟨by decide +kernel, by decide +kernel⟩, List.mem_of_getElem? (i := 1109) (by decide +kernel), List.mem_of_getElem? (i := 1363) (by decide +kernel), List.mem_of_getElem? (i := 1364) (by decide +kernel)⟩
theorem lw_p40 : lw_okq (⟨"RopeClockModel", "isDigit", "(I)Z"⟩, 62) := ⟨⟨by decide +kernel, by decide +kernel⟩, List.mem_of_getElem? (i := 1109) (by decide +kernel), List.mem_of_getElem? (i := 1367) (by decide +kernel), List.mem_of_getElem? (i := 1368) (by decide +kernel)⟩
theorem lw_p41 : lw_okq (⟨"RopeClockModel", "isMarkSign", "(I)Z"⟩, 62) := ⟨⟨by decide +kernel, by decide +kernel⟩, List.mem_of_getElem? (i := 1109) (by decide +kernel), List.mem_of_getElem? (i := 1371) (by decide +kernel), List.mem_of_getElem? (i := 1372) (by decide +kernel)⟩
theorem lw_p42 : lw_okq (⟨"RopeClockModel", "readBoats", "()I"⟩, 62) := ⟨⟨by decide +kernel, by decide +kernel⟩, List.mem_of_getElem? (i := 1109) (by decide +kernel), List.mem_of_getElem? (i := 1375) (by decide +kernel), List.mem_of_getElem? (i := 1376) (by decide +kernel)⟩
theorem lw_p43 : lw_okq (⟨"RopeClockModel", "isWord", "(I)Z"⟩, 62) := ⟨⟨by decide +kernel, by decide +kernel⟩, List.mem_of_getElem? (i := 1109) (by decide +kernel), List.mem_of_getElem? (i := 1379) (by decide +kernel), List.mem_of_getElem? (i := 1380) (by decide +kernel)⟩
theorem lw_p44 : lw_okq (⟨"RopeClockModel", "errs", "(I)I"⟩, 62) := ⟨⟨by decide +kernel, by decide +kernel⟩, List.mem_of_getElem? (i := 1109) (by decide +kernel), List.mem_of_getElem? (i := 1383) (by decide +kernel), List.mem_of_getElem? (i := 1384) (by decide +kernel)⟩
theorem lw_p45 : lw_okq (⟨"RopeClockModel", "readBoat", "(I)I"⟩, 62) := ⟨⟨by decide +kernel, by decide +kernel⟩, List.mem_of_getElem? (i := 1109) (by decide +kernel), List.mem_of_getElem? (i := 1387) (by decide +kernel), List.mem_of_getElem? (i := 1388) (by decide +kernel)⟩
theorem lw_p46 : lw_okq (⟨"RopeClockModel", "readTold", "(III)I"⟩, 62) := ⟨⟨by decide +kernel, by decide +kernel⟩, List.mem_of_getElem? (i := 1109) (by decide +kernel), List.mem_of_getElem? (i := 1391) (by decide +kernel), List.mem_of_getElem? (i := 1392) (by decide +kernel)⟩
theorem lw_p47 : lw_okq (⟨"RopeClockModel", "readNumbe\x72", "(II)I"⟩, 62) := ⟨⟨by decide +kernel, by decide +kernel⟩, List.mem_of_getElem? (i := 1109) (by decide +kernel), List.mem_of_getElem? (i := 1395) (by decide +kernel), List.mem_of_getElem? (i := 1396) (by decide +kernel)⟩
def lw_privs_3 : List (MethodName × Nat) := [(⟨"RopeClockModel", "canSet", "(III)Z"⟩, 62), (⟨"RopeClockModel", "isIslande\x72", "(I)Z"⟩, 62), (⟨"RopeClockModel", "types", "(I)V"⟩, 62), (⟨"RopeClockModel", "readsText", "(I)I"⟩, 62), (⟨"RopeClockModel", "reads", "()V"⟩, 62), (⟨"RopeClockModel", "raw", "(I)I"⟩, 62), (⟨"RopeClockModel", "isLette\x72", "(I)Z"⟩, 62), (⟨"RopeClockModel", "wordAt", "(II)I"⟩, 62), (⟨"RopeClockModel", "isDigit", "(I)Z"⟩, 62), (⟨"RopeClockModel", "isMarkSign", "(I)Z"⟩, 62), (⟨"RopeClockModel", "readBoats", "()I"⟩, 62), (⟨"RopeClockModel", "isWord", "(I)Z"⟩, 62), (⟨"RopeClockModel", "errs", "(I)I"⟩, 62), (⟨"RopeClockModel", "readBoat", "(I)I"⟩, 62), (⟨"RopeClockModel", "readTold", "(III)I"⟩, 62), (⟨"RopeClockModel", "readNumbe\x72", "(II)I"⟩, 62)]
theorem lw_r3 : ∀ q ∈ lw_privs_3, lw_okq q := List.forall_mem_cons.mpr ⟨lw_p32, List.forall_mem_cons.mpr ⟨lw_p33, List.forall_mem_cons.mpr ⟨lw_p34, List.forall_mem_cons.mpr ⟨lw_p35, List.forall_mem_cons.mpr ⟨lw_p36, List.forall_mem_cons.mpr ⟨lw_p37, List.forall_mem_cons.mpr ⟨lw_p38, List.forall_mem_cons.mpr ⟨lw_p39, List.forall_mem_cons.mpr ⟨lw_p40, List.forall_mem_cons.mpr ⟨lw_p41, List.forall_mem_cons.mpr ⟨lw_p42, List.forall_mem_cons.mpr ⟨lw_p43, List.forall_mem_cons.mpr ⟨lw_p44, List.forall_mem_cons.mpr ⟨lw_p45, List.forall_mem_cons.mpr ⟨lw_p46, List.forall_mem_cons.mpr ⟨lw_p47, fun _ h => absurd h List.not_mem_nil⟩⟩⟩⟩⟩⟩⟩⟩⟩⟩⟩⟩⟩⟩⟩⟩
theorem lw_p48 : lw_okq (⟨"RopeClockModel", "readMark", "(I)I"⟩, 62) := ⟨⟨by decide +kernel, by decide +kernel⟩, List.mem_of_getElem? (i := 1109) (by decide +kernel), List.mem_of_getElem? (i := 1399) (by decide +kernel), List.mem_of_getElem? (i := 1400) (by decide +kernel)⟩
theorem lw_p49 : lw_okq (⟨"RopeClockModel", "isSign", "(I)Z"⟩, 62) := ⟨⟨by decide +kernel, by decide +kernel⟩, List.mem_of_getElem? (i := 1109) (by decide +kernel), List.mem_of_getElem? (i := 1403) (by decide +kernel), List.mem_of_getElem? (i := 1404) (by decide +kernel)⟩
theorem lw_p50 : lw_okq (⟨"RopeClockModel", "readTown", "()I"⟩, 62) := ⟨⟨by decide +kernel, by decide +kernel⟩, List.mem_of_getElem? (i := 1109) (by decide +kernel), List.mem_of_getElem? (i := 1407) (by decide +kernel), List.mem_of_getElem? (i := 1408) (by decide +kernel)⟩
theorem lw_p51 : lw_okq (⟨"RopeClockModel", "readDeed", "(I)I"⟩, 62) := ⟨⟨by decide +kernel, by decide +kernel⟩, List.mem_of_getElem? (i := 1109) (by decide +kernel), List.mem_of_getElem? (i := 1411) (by decide +kernel), List.mem_of_getElem? (i := 1412) (by decide +kernel)⟩
theorem lw_p52 : lw_okq (⟨"RopeClockModel", "kindOfDeed", "()I"⟩, 62) := ⟨⟨by decide +kernel, by decide +kernel⟩, List.mem_of_getElem? (i := 1109) (by decide +kernel), List.mem_of_getElem? (i := 1415) (by decide +kernel), List.mem_of_getElem? (i := 1416) (by decide +kernel)⟩
theorem lw_p53 : lw_okq (⟨"RopeClockModel", "readAllKin", "()I"⟩, 62) := ⟨⟨by decide +kernel, by decide +kernel⟩, List.mem_of_getElem? (i := 1109) (by decide +kernel), List.mem_of_getElem? (i := 1419) (by decide +kernel), List.mem_of_getElem? (i := 1420) (by decide +kernel)⟩
theorem lw_p54 : lw_okq (⟨"RopeClockModel", "readKin", "()I"⟩, 62) := ⟨⟨by decide +kernel, by decide +kernel⟩, List.mem_of_getElem? (i := 1109) (by decide +kernel), List.mem_of_getElem? (i := 1423) (by decide +kernel), List.mem_of_getElem? (i := 1424) (by decide +kernel)⟩
theorem lw_p55 : lw_okq (⟨"RopeClockModel", "readLaw", "()I"⟩, 62) := ⟨⟨by decide +kernel, by decide +kernel⟩, List.mem_of_getElem? (i := 1109) (by decide +kernel), List.mem_of_getElem? (i := 1427) (by decide +kernel), List.mem_of_getElem? (i := 1428) (by decide +kernel)⟩
theorem lw_p56 : lw_okq (⟨"RopeClockModel", "isLineWord", "()Z"⟩, 62) := ⟨⟨by decide +kernel, by decide +kernel⟩, List.mem_of_getElem? (i := 1109) (by decide +kernel), List.mem_of_getElem? (i := 1431) (by decide +kernel), List.mem_of_getElem? (i := 1432) (by decide +kernel)⟩
theorem lw_p57 : lw_okq (⟨"RopeClockModel", "readSum", "()I"⟩, 62) := ⟨⟨by decide +kernel, by decide +kernel⟩, List.mem_of_getElem? (i := 1109) (by decide +kernel), List.mem_of_getElem? (i := 1435) (by decide +kernel), List.mem_of_getElem? (i := 1436) (by decide +kernel)⟩
theorem lw_p58 : lw_okq (⟨"RopeClockModel", "readProduct", "()I"⟩, 62) := ⟨⟨by decide +kernel, by decide +kernel⟩, List.mem_of_getElem? (i := 1109) (by decide +kernel), List.mem_of_getElem? (i := 1439) (by decide +kernel), List.mem_of_getElem? (i := 1440) (by decide +kernel)⟩
theorem lw_p59 : lw_okq (⟨"RopeClockModel", "readUnit", "()I"⟩, 62) := ⟨⟨by decide +kernel, by decide +kernel⟩, List.mem_of_getElem? (i := 1109) (by decide +kernel), List.mem_of_getElem? (i := 1443) (by decide +kernel), List.mem_of_getElem? (i := 1444) (by decide +kernel)⟩
theorem lw_p60 : lw_okq (⟨"RopeClockModel", "canAsk", "(I)Z"⟩, 62) := ⟨⟨by decide +kernel, by decide +kernel⟩, List.mem_of_getElem? (i := 1109) (by decide +kernel), List.mem_of_getElem? (i := 1447) (by decide +kernel), List.mem_of_getElem? (i := 1448) (by decide +kernel)⟩
theorem lw_p61 : lw_okq (⟨"RopeClockModel", "emits", "(II)V"⟩, 62) := ⟨⟨by decide +kernel, by decide +kernel⟩, List.mem_of_getElem? (i := 1109) (by decide +kernel), List.mem_of_getElem? (i := 1451) (by decide +kernel), List.mem_of_getElem? (i := 1452) (by decide +kernel)⟩
theorem lw_p62 : lw_okq (⟨"RopeClockModel", "readAny", "()I"⟩, 62) := ⟨⟨by decide +kernel, by decide +kernel⟩, List.mem_of_getElem? (i := 1109) (by decide +kernel), List.mem_of_getElem? (i := 1455) (by decide +kernel), List.mem_of_getElem? (i := 1456) (by decide +kernel)⟩
theorem lw_p63 : lw_okq (⟨"RopeClockModel", "waits", "(I)V"⟩, 62) := ⟨⟨by decide +kernel, by decide +kernel⟩, List.mem_of_getElem? (i := 1109) (by decide +kernel), List.mem_of_getElem? (i := 1459) (by decide +kernel), List.mem_of_getElem? (i := 1460) (by decide +kernel)⟩
def lw_privs_4 : List (MethodName × Nat) := [(⟨"RopeClockModel", "readMark", "(I)I"⟩, 62), (⟨"RopeClockModel", "isSign", "(I)Z"⟩, 62), (⟨"RopeClockModel", "readTown", "()I"⟩, 62), (⟨"RopeClockModel", "readDeed", "(I)I"⟩, 62), (⟨"RopeClockModel", "kindOfDeed", "()I"⟩, 62), (⟨"RopeClockModel", "readAllKin", "()I"⟩, 62), (⟨"RopeClockModel", "readKin", "()I"⟩, 62), (⟨"RopeClockModel", "readLaw", "()I"⟩, 62), (⟨"RopeClockModel", "isLineWord", "()Z"⟩, 62), (⟨"RopeClockModel", "readSum", "()I"⟩, 62), (⟨"RopeClockModel", "readProduct", "()I"⟩, 62), (⟨"RopeClockModel", "readUnit", "()I"⟩, 62), (⟨"RopeClockModel", "canAsk", "(I)Z"⟩, 62), (⟨"RopeClockModel", "emits", "(II)V"⟩, 62), (⟨"RopeClockModel", "readAny", "()I"⟩, 62), (⟨"RopeClockModel", "waits", "(I)V"⟩, 62)]
theorem lw_r4 : ∀ q ∈ lw_privs_4, lw_okq q := List.forall_mem_cons.mpr ⟨lw_p48, List.forall_mem_cons.mpr ⟨lw_p49, List.forall_mem_cons.mpr ⟨lw_p50, List.forall_mem_cons.mpr ⟨lw_p51, List.forall_mem_cons.mpr ⟨lw_p52, List.forall_mem_cons.mpr ⟨lw_p53, List.forall_mem_cons.mpr ⟨lw_p54, List.forall_mem_cons.mpr ⟨lw_p55, List.forall_mem_cons.mpr ⟨lw_p56, List.forall_mem_cons.mpr ⟨lw_p57, List.forall_mem_cons.mpr ⟨lw_p58, List.forall_mem_cons.mpr ⟨lw_p59, List.forall_mem_cons.mpr ⟨lw_p60, List.forall_mem_cons.mpr ⟨lw_p61, List.forall_mem_cons.mpr ⟨lw_p62, List.forall_mem_cons.mpr ⟨lw_p63, fun _ h => absurd h List.not_mem_nil⟩⟩⟩⟩⟩⟩⟩⟩⟩⟩⟩⟩⟩⟩⟩⟩
theorem lw_p64 : lw_okq (⟨"RopeClockModel", "readCompared", "()I"⟩, 62) := ⟨⟨by decide +kernel, by decide +kernel⟩, List.mem_of_getElem? (i := 1109) (by decide +kernel), List.mem_of_getElem? (i := 1463) (by decide +kernel), List.mem_of_getElem? (i := 1464) (by decide +kernel)⟩
theorem lw_p65 : lw_okq (⟨"RopeClockModel", "settles", "(I)V"⟩, 62) := ⟨⟨by decide +kernel, by decide +kernel⟩, List.mem_of_getElem? (i := 1109) (by decide +kernel), List.mem_of_getElem? (i := 1467) (by decide +kernel), List.mem_of_getElem? (i := 1468) (by decide +kernel)⟩
theorem lw_p66 : lw_okq (⟨"RopeClockModel", "takesLaw", "(I)V"⟩, 62) := ⟨⟨by decide +kernel, by decide +kernel⟩, List.mem_of_getElem? (i := 1109) (by decide +kernel), List.mem_of_getElem? (i := 1471) (by decide +kernel), List.mem_of_getElem? (i := 1472) (by decide +kernel)⟩
theorem lw_p67 : lw_okq (⟨"RopeClockModel", "takesOthe\x72", "(II)V"⟩, 62) := ⟨⟨by decide +kernel, by decide +kernel⟩, List.mem_of_getElem? (i := 1109) (by decide +kernel), List.mem_of_getElem? (i := 1475) (by decide +kernel), List.mem_of_getElem? (i := 1476) (by decide +kernel)⟩
theorem lw_p68 : lw_okq (⟨"RopeClockModel", "canAct", "(II)Z"⟩, 62) := ⟨⟨by decide +kernel, by decide +kernel⟩, List.mem_of_getElem? (i := 1109) (by decide +kernel), List.mem_of_getElem? (i := 1487) (by decide +kernel), List.mem_of_getElem? (i := 1488) (by decide +kernel)⟩
theorem lw_p69 : lw_okq (⟨"RopeClockModel", "isHere", "(I)Z"⟩, 62) := ⟨⟨by decide +kernel, by decide +kernel⟩, List.mem_of_getElem? (i := 1109) (by decide +kernel), List.mem_of_getElem? (i := 1491) (by decide +kernel), List.mem_of_getElem? (i := 1492) (by decide +kernel)⟩
theorem lw_p70 : lw_okq (⟨"RopeClockModel", "keepsAhead", "()V"⟩, 62) := ⟨⟨by decide +kernel, by decide +kernel⟩, List.mem_of_getElem? (i := 1109) (by decide +kernel), List.mem_of_getElem? (i := 1495) (by decide +kernel), List.mem_of_getElem? (i := 1496) (by decide +kernel)⟩
theorem lw_p71 : lw_okq (⟨"RopeClockModel", "goesAboard", "(I)V"⟩, 62) := ⟨⟨by decide +kernel, by decide +kernel⟩, List.mem_of_getElem? (i := 1109) (by decide +kernel), List.mem_of_getElem? (i := 1499) (by decide +kernel), List.mem_of_getElem? (i := 1500) (by decide +kernel)⟩
theorem lw_p72 : lw_okq (⟨"RopeClockModel", "windsOf", "(I)I"⟩, 62) := ⟨⟨by decide +kernel, by decide +kernel⟩, List.mem_of_getElem? (i := 1109) (by decide +kernel), List.mem_of_getElem? (i := 1503) (by decide +kernel), List.mem_of_getElem? (i := 1504) (by decide +kernel)⟩
theorem lw_p73 : lw_okq (⟨"RopeClockModel", "asks", "(I)V"⟩, 62) := ⟨⟨by decide +kernel, by decide +kernel⟩, List.mem_of_getElem? (i := 1109) (by decide +kernel), List.mem_of_getElem? (i := 1507) (by decide +kernel), List.mem_of_getElem? (i := 1508) (by decide +kernel)⟩
theorem lw_p74 : lw_okq (⟨"RopeClockModel", "hereSet", "()I"⟩, 62) := ⟨⟨by decide +kernel, by decide +kernel⟩, List.mem_of_getElem? (i := 1109) (by decide +kernel), List.mem_of_getElem? (i := 1511) (by decide +kernel), List.mem_of_getElem? (i := 1512) (by decide +kernel)⟩
theorem lw_p75 : lw_okq (⟨"RopeClockModel", "onesOf", "(I)I"⟩, 62) := ⟨⟨by decide +kernel, by decide +kernel⟩, List.mem_of_getElem? (i := 1109) (by decide +kernel), List.mem_of_getElem? (i := 1515) (by decide +kernel), List.mem_of_getElem? (i := 1516) (by decide +kernel)⟩
theorem lw_p76 : lw_okq (⟨"RopeClockModel", "held", "(III)I"⟩, 62) := ⟨⟨by decide +kernel, by decide +kernel⟩, List.mem_of_getElem? (i := 1109) (by decide +kernel), List.mem_of_getElem? (i := 1519) (by decide +kernel), List.mem_of_getElem? (i := 1520) (by decide +kernel)⟩
theorem lw_p77 : lw_okq (⟨"RopeClockModel", "kinApart", "(I)I"⟩, 62) := ⟨⟨by decide +kernel, by decide +kernel⟩, List.mem_of_getElem? (i := 1109) (by decide +kernel), List.mem_of_getElem? (i := 1523) (by decide +kernel), List.mem_of_getElem? (i := 1524) (by decide +kernel)⟩
theorem lw_p78 : lw_okq (⟨"RopeClockModel", "has", "(II)Z"⟩, 62) := ⟨⟨by decide +kernel, by decide +kernel⟩, List.mem_of_getElem? (i := 1109) (by decide +kernel), List.mem_of_getElem? (i := 1527) (by decide +kernel), List.mem_of_getElem? (i := 1528) (by decide +kernel)⟩
theorem lw_p79 : lw_okq (⟨"RopeClockModel", "lawTells", "(III)I"⟩, 62) := ⟨⟨by decide +kernel, by decide +kernel⟩, List.mem_of_getElem? (i := 1109) (by decide +kernel), List.mem_of_getElem? (i := 1531) (by decide +kernel), List.mem_of_getElem? (i := 1532) (by decide +kernel)⟩
def lw_privs_5 : List (MethodName × Nat) := [(⟨"RopeClockModel", "readCompared", "()I"⟩, 62), (⟨"RopeClockModel", "settles", "(I)V"⟩, 62), (⟨"RopeClockModel", "takesLaw", "(I)V"⟩, 62), (⟨"RopeClockModel", "takesOthe\x72", "(II)V"⟩, 62), (⟨"RopeClockModel", "canAct", "(II)Z"⟩, 62), (⟨"RopeClockModel", "isHere", "(I)Z"⟩, 62), (⟨"RopeClockModel", "keepsAhead", "()V"⟩, 62), (⟨"RopeClockModel", "goesAboard", "(I)V"⟩, 62), (⟨"RopeClockModel", "windsOf", "(I)I"⟩, 62), (⟨"RopeClockModel", "asks", "(I)V"⟩, 62), (⟨"RopeClockModel", "hereSet", "()I"⟩, 62), (⟨"RopeClockModel", "onesOf", "(I)I"⟩, 62), (⟨"RopeClockModel", "held", "(III)I"⟩, 62), (⟨"RopeClockModel", "kinApart", "(I)I"⟩, 62), (⟨"RopeClockModel", "has", "(II)Z"⟩, 62), (⟨"RopeClockModel", "lawTells", "(III)I"⟩, 62)]
theorem lw_r5 : ∀ q ∈ lw_privs_5, lw_okq q := List.forall_mem_cons.mpr ⟨lw_p64, List.forall_mem_cons.mpr ⟨lw_p65, List.forall_mem_cons.mpr ⟨lw_p66, List.forall_mem_cons.mpr ⟨lw_p67, List.forall_mem_cons.mpr ⟨lw_p68, List.forall_mem_cons.mpr ⟨lw_p69, List.forall_mem_cons.mpr ⟨lw_p70, List.forall_mem_cons.mpr ⟨lw_p71, List.forall_mem_cons.mpr ⟨lw_p72, List.forall_mem_cons.mpr ⟨lw_p73, List.forall_mem_cons.mpr ⟨lw_p74, List.forall_mem_cons.mpr ⟨lw_p75, List.forall_mem_cons.mpr ⟨lw_p76, List.forall_mem_cons.mpr ⟨lw_p77, List.forall_mem_cons.mpr ⟨lw_p78, List.forall_mem_cons.mpr ⟨lw_p79, fun _ h => absurd h List.not_mem_nil⟩⟩⟩⟩⟩⟩⟩⟩⟩⟩⟩⟩⟩⟩⟩⟩
theorem lw_p80 : lw_okq (⟨"RopeClockModel", "lineOf", "(I)I"⟩, 62) := ⟨⟨by decide +kernel, by decide +kernel⟩, List.mem_of_getElem? (i := 1109) (by decide +kernel), List.mem_of_getElem? (i := 1535) (by decide +kernel), List.mem_of_getElem? (i := 1536) (by decide +kernel)⟩
theorem lw_p81 : lw_okq (⟨"RopeClockModel", "runs", "(III)I"⟩, 62) := ⟨⟨by decide +kernel, by decide +kernel⟩, List.mem_of_getElem? (i := 1109) (by decide +kernel), List.mem_of_getElem? (i := 1539) (by decide +kernel), List.mem_of_getElem? (i := 1540) (by decide +kernel)⟩
theorem lw_p82 : lw_okq (⟨"RopeClockModel", "twoOf", "(III)I"⟩, 62) := ⟨⟨by decide +kernel, by decide +kernel⟩, List.mem_of_getElem? (i := 1109) (by decide +kernel), List.mem_of_getElem? (i := 1543) (by decide +kernel), List.mem_of_getElem? (i := 1544) (by decide +kernel)⟩
theorem lw_p83 : lw_okq (⟨"RopeClockModel", "notes", "(III)V"⟩, 62) := ⟨⟨by decide +kernel, by decide +kernel⟩, List.mem_of_getElem? (i := 1109) (by decide +kernel), List.mem_of_getElem? (i := 1547) (by decide +kernel), List.mem_of_getElem? (i := 1548) (by decide +kernel)⟩
theorem lw_p84 : lw_okq (⟨"RopeClockModel", "comesBack", "(I)V"⟩, 62) := ⟨⟨by decide +kernel, by decide +kernel⟩, List.mem_of_getElem? (i := 1109) (by decide +kernel), List.mem_of_getElem? (i := 1551) (by decide +kernel), List.mem_of_getElem? (i := 1552) (by decide +kernel)⟩
theorem lw_p85 : lw_okq (⟨"RopeClockModel", "goesBy", "()I"⟩, 62) := ⟨⟨by decide +kernel, by decide +kernel⟩, List.mem_of_getElem? (i := 1109) (by decide +kernel), List.mem_of_getElem? (i := 1559) (by decide +kernel), List.mem_of_getElem? (i := 1560) (by decide +kernel)⟩
theorem lw_p86 : lw_okq (⟨"RopeClockModel", "does", "(I)V"⟩, 62) := ⟨⟨by decide +kernel, by decide +kernel⟩, List.mem_of_getElem? (i := 1109) (by decide +kernel), List.mem_of_getElem? (i := 1563) (by decide +kernel), List.mem_of_getElem? (i := 1564) (by decide +kernel)⟩
theorem lw_p87 : lw_okq (⟨"RopeClockModel", "isPushed", "(I)V"⟩, 62) := ⟨⟨by decide +kernel, by decide +kernel⟩, List.mem_of_getElem? (i := 1109) (by decide +kernel), List.mem_of_getElem? (i := 1567) (by decide +kernel), List.mem_of_getElem? (i := 1568) (by decide +kernel)⟩
theorem lw_p88 : lw_okq (⟨"RopeClockModel", "goesOut", "(I)V"⟩, 62) := ⟨⟨by decide +kernel, by decide +kernel⟩, List.mem_of_getElem? (i := 1109) (by decide +kernel), List.mem_of_getElem? (i := 1571) (by decide +kernel), List.mem_of_getElem? (i := 1572) (by decide +kernel)⟩
theorem lw_p89 : lw_okq (⟨"RopeClockModel", "leavesOf", "(I)I"⟩, 62) := ⟨⟨by decide +kernel, by decide +kernel⟩, List.mem_of_getElem? (i := 1109) (by decide +kernel), List.mem_of_getElem? (i := 1575) (by decide +kernel), List.mem_of_getElem? (i := 1576) (by decide +kernel)⟩
theorem lw_p90 : lw_okq (⟨"RopeClockModel", "happens", "(I)Z"⟩, 62) := ⟨⟨by decide +kernel, by decide +kernel⟩, List.mem_of_getElem? (i := 1109) (by decide +kernel), List.mem_of_getElem? (i := 1579) (by decide +kernel), List.mem_of_getElem? (i := 1580) (by decide +kernel)⟩
theorem lw_p91 : lw_okq (⟨"RopeClockModel", "draw", "(I)I"⟩, 62) := ⟨⟨by decide +kernel, by decide +kernel⟩, List.mem_of_getElem? (i := 1109) (by decide +kernel), List.mem_of_getElem? (i := 1583) (by decide +kernel), List.mem_of_getElem? (i := 1584) (by decide +kernel)⟩
theorem lw_p92 : lw_okq (⟨"RopeClockModel", "bringsBack", "(I)V"⟩, 62) := ⟨⟨by decide +kernel, by decide +kernel⟩, List.mem_of_getElem? (i := 1109) (by decide +kernel), List.mem_of_getElem? (i := 1589) (by decide +kernel), List.mem_of_getElem? (i := 1590) (by decide +kernel)⟩
theorem lw_p93 : lw_okq (⟨"RopeClockModel", "returnsOf", "(I)I"⟩, 62) := ⟨⟨by decide +kernel, by decide +kernel⟩, List.mem_of_getElem? (i := 1109) (by decide +kernel), List.mem_of_getElem? (i := 1593) (by decide +kernel), List.mem_of_getElem? (i := 1594) (by decide +kernel)⟩
theorem lw_p94 : lw_okq (⟨"RopeClockModel", "clockRuns", "()I"⟩, 62) := ⟨⟨by decide +kernel, by decide +kernel⟩, List.mem_of_getElem? (i := 1109) (by decide +kernel), List.mem_of_getElem? (i := 1597) (by decide +kernel), List.mem_of_getElem? (i := 1598) (by decide +kernel)⟩
theorem lw_p95 : lw_okq (⟨"RopeClockModel", "plain", "(I)I"⟩, 62) := ⟨⟨by decide +kernel, by decide +kernel⟩, List.mem_of_getElem? (i := 1109) (by decide +kernel), List.mem_of_getElem? (i := 1601) (by decide +kernel), List.mem_of_getElem? (i := 1602) (by decide +kernel)⟩
def lw_privs_6 : List (MethodName × Nat) := [(⟨"RopeClockModel", "lineOf", "(I)I"⟩, 62), (⟨"RopeClockModel", "runs", "(III)I"⟩, 62), (⟨"RopeClockModel", "twoOf", "(III)I"⟩, 62), (⟨"RopeClockModel", "notes", "(III)V"⟩, 62), (⟨"RopeClockModel", "comesBack", "(I)V"⟩, 62), (⟨"RopeClockModel", "goesBy", "()I"⟩, 62), (⟨"RopeClockModel", "does", "(I)V"⟩, 62), (⟨"RopeClockModel", "isPushed", "(I)V"⟩, 62), (⟨"RopeClockModel", "goesOut", "(I)V"⟩, 62), (⟨"RopeClockModel", "leavesOf", "(I)I"⟩, 62), (⟨"RopeClockModel", "happens", "(I)Z"⟩, 62), (⟨"RopeClockModel", "draw", "(I)I"⟩, 62), (⟨"RopeClockModel", "bringsBack", "(I)V"⟩, 62), (⟨"RopeClockModel", "returnsOf", "(I)I"⟩, 62), (⟨"RopeClockModel", "clockRuns", "()I"⟩, 62), (⟨"RopeClockModel", "plain", "(I)I"⟩, 62)]
theorem lw_r6 : ∀ q ∈ lw_privs_6, lw_okq q := List.forall_mem_cons.mpr ⟨lw_p80, List.forall_mem_cons.mpr ⟨lw_p81, List.forall_mem_cons.mpr ⟨lw_p82, List.forall_mem_cons.mpr ⟨lw_p83, List.forall_mem_cons.mpr ⟨lw_p84, List.forall_mem_cons.mpr ⟨lw_p85, List.forall_mem_cons.mpr ⟨lw_p86, List.forall_mem_cons.mpr ⟨lw_p87, List.forall_mem_cons.mpr ⟨lw_p88, List.forall_mem_cons.mpr ⟨lw_p89, List.forall_mem_cons.mpr ⟨lw_p90, List.forall_mem_cons.mpr ⟨lw_p91, List.forall_mem_cons.mpr ⟨lw_p92, List.forall_mem_cons.mpr ⟨lw_p93, List.forall_mem_cons.mpr ⟨lw_p94, List.forall_mem_cons.mpr ⟨lw_p95, fun _ h => absurd h List.not_mem_nil⟩⟩⟩⟩⟩⟩⟩⟩⟩⟩⟩⟩⟩⟩⟩⟩
theorem lw_p96 : lw_okq (⟨"RopeClockModel", "lesse\x72", "(II)I"⟩, 62) := ⟨⟨by decide +kernel, by decide +kernel⟩, List.mem_of_getElem? (i := 1109) (by decide +kernel), List.mem_of_getElem? (i := 1605) (by decide +kernel), List.mem_of_getElem? (i := 1606) (by decide +kernel)⟩
theorem lw_p97 : lw_okq (⟨"RopeClockModel", "strokesAt", "(I)I"⟩, 62) := ⟨⟨by decide +kernel, by decide +kernel⟩, List.mem_of_getElem? (i := 1109) (by decide +kernel), List.mem_of_getElem? (i := 1609) (by decide +kernel), List.mem_of_getElem? (i := 1610) (by decide +kernel)⟩
theorem lw_p98 : lw_okq (⟨"RopeClockModel", "thinks", "()V"⟩, 62) := ⟨⟨by decide +kernel, by decide +kernel⟩, List.mem_of_getElem? (i := 1109) (by decide +kernel), List.mem_of_getElem? (i := 1625) (by decide +kernel), List.mem_of_getElem? (i := 1626) (by decide +kernel)⟩
theorem lw_p99 : lw_okq (⟨"RopeClockModel", "endsThought", "()V"⟩, 62) := ⟨⟨by decide +kernel, by decide +kernel⟩, List.mem_of_getElem? (i := 1109) (by decide +kernel), List.mem_of_getElem? (i := 1629) (by decide +kernel), List.mem_of_getElem? (i := 1630) (by decide +kernel)⟩
theorem lw_p100 : lw_okq (⟨"RopeClockModel", "handsAt", "(I)I"⟩, 62) := ⟨⟨by decide +kernel, by decide +kernel⟩, List.mem_of_getElem? (i := 1109) (by decide +kernel), List.mem_of_getElem? (i := 1649) (by decide +kernel), List.mem_of_getElem? (i := 1650) (by decide +kernel)⟩
theorem lw_p101 : lw_okq (⟨"RopeClockModel", "common", "(II)I"⟩, 62) := ⟨⟨by decide +kernel, by decide +kernel⟩, List.mem_of_getElem? (i := 1109) (by decide +kernel), List.mem_of_getElem? (i := 1662) (by decide +kernel), List.mem_of_getElem? (i := 1663) (by decide +kernel)⟩
theorem lw_p102 : lw_okq (⟨"RopeClockModel", "isPeace", "(I)Z"⟩, 62) := ⟨⟨by decide +kernel, by decide +kernel⟩, List.mem_of_getElem? (i := 1109) (by decide +kernel), List.mem_of_getElem? (i := 1675) (by decide +kernel), List.mem_of_getElem? (i := 1676) (by decide +kernel)⟩
theorem lw_p103 : lw_okq (⟨"RopeClockModel", "glassAt", "(III)I"⟩, 62) := ⟨⟨by decide +kernel, by decide +kernel⟩, List.mem_of_getElem? (i := 1109) (by decide +kernel), List.mem_of_getElem? (i := 1683) (by decide +kernel), List.mem_of_getElem? (i := 1684) (by decide +kernel)⟩
theorem lw_p104 : lw_okq (⟨"RopeClockModel", "greate\x72", "(II)I"⟩, 62) := ⟨⟨by decide +kernel, by decide +kernel⟩, List.mem_of_getElem? (i := 1109) (by decide +kernel), List.mem_of_getElem? (i := 1687) (by decide +kernel), List.mem_of_getElem? (i := 1688) (by decide +kernel)⟩
theorem lw_p105 : lw_okq (⟨"RopeClockModel", "turns", "(IIII)V"⟩, 62) := ⟨⟨by decide +kernel, by decide +kernel⟩, List.mem_of_getElem? (i := 1109) (by decide +kernel), List.mem_of_getElem? (i := 1691) (by decide +kernel), List.mem_of_getElem? (i := 1692) (by decide +kernel)⟩
theorem lw_p106 : lw_okq (⟨"RopeClockModel", "isLevel", "(I)Z"⟩, 62) := ⟨⟨by decide +kernel, by decide +kernel⟩, List.mem_of_getElem? (i := 1109) (by decide +kernel), List.mem_of_getElem? (i := 1703) (by decide +kernel), List.mem_of_getElem? (i := 1704) (by decide +kernel)⟩
theorem lw_p107 : lw_okq (⟨"RopeClockModel", "findsQuotients", "(II)I"⟩, 62) := ⟨⟨by decide +kernel, by decide +kernel⟩, List.mem_of_getElem? (i := 1109) (by decide +kernel), List.mem_of_getElem? (i := 1711) (by decide +kernel), List.mem_of_getElem? (i := 1712) (by decide +kernel)⟩
theorem lw_p108 : lw_okq (⟨"RopeClockModel", "againAt", "(I)I"⟩, 62) := ⟨⟨by decide +kernel, by decide +kernel⟩, List.mem_of_getElem? (i := 1109) (by decide +kernel), List.mem_of_getElem? (i := 1719) (by decide +kernel), List.mem_of_getElem? (i := 1720) (by decide +kernel)⟩
theorem lw_p109 : lw_okq (⟨"RopeClockModel", "changes", "(II)V"⟩, 62) := ⟨⟨by decide +kernel, by decide +kernel⟩, List.mem_of_getElem? (i := 1109) (by decide +kernel), List.mem_of_getElem? (i := 1723) (by decide +kernel), List.mem_of_getElem? (i := 1724) (by decide +kernel)⟩
theorem lw_p110 : lw_okq (⟨"RopeClockModel", "areInOrde\x72", "(I)Z"⟩, 62) := ⟨⟨by decide +kernel, by decide +kernel⟩, List.mem_of_getElem? (i := 1109) (by decide +kernel), List.mem_of_getElem? (i := 1727) (by decide +kernel), List.mem_of_getElem? (i := 1728) (by decide +kernel)⟩
theorem lw_p111 : lw_okq (⟨"RopeClockModel", "goesToNextOrde\x72", "()Z"⟩, 62) := ⟨⟨by decide +kernel, by decide +kernel⟩, List.mem_of_getElem? (i := 1109) (by decide +kernel), List.mem_of_getElem? (i := 1757) (by decide +kernel), List.mem_of_getElem? (i := 1758) (by decide +kernel)⟩
def lw_privs_7 : List (MethodName × Nat) := [(⟨"RopeClockModel", "lesse\x72", "(II)I"⟩, 62), (⟨"RopeClockModel", "strokesAt", "(I)I"⟩, 62), (⟨"RopeClockModel", "thinks", "()V"⟩, 62), (⟨"RopeClockModel", "endsThought", "()V"⟩, 62), (⟨"RopeClockModel", "handsAt", "(I)I"⟩, 62), (⟨"RopeClockModel", "common", "(II)I"⟩, 62), (⟨"RopeClockModel", "isPeace", "(I)Z"⟩, 62), (⟨"RopeClockModel", "glassAt", "(III)I"⟩, 62), (⟨"RopeClockModel", "greate\x72", "(II)I"⟩, 62), (⟨"RopeClockModel", "turns", "(IIII)V"⟩, 62), (⟨"RopeClockModel", "isLevel", "(I)Z"⟩, 62), (⟨"RopeClockModel", "findsQuotients", "(II)I"⟩, 62), (⟨"RopeClockModel", "againAt", "(I)I"⟩, 62), (⟨"RopeClockModel", "changes", "(II)V"⟩, 62), (⟨"RopeClockModel", "areInOrde\x72", "(I)Z"⟩, 62), (⟨"RopeClockModel", "goesToNextOrde\x72", "()Z"⟩, 62)]
theorem lw_r7 : ∀ q ∈ lw_privs_7, lw_okq q := List.forall_mem_cons.mpr ⟨lw_p96, List.forall_mem_cons.mpr ⟨lw_p97, List.forall_mem_cons.mpr ⟨lw_p98, List.forall_mem_cons.mpr ⟨lw_p99, List.forall_mem_cons.mpr ⟨lw_p100, List.forall_mem_cons.mpr ⟨lw_p101, List.forall_mem_cons.mpr ⟨lw_p102, List.forall_mem_cons.mpr ⟨lw_p103, List.forall_mem_cons.mpr ⟨lw_p104, List.forall_mem_cons.mpr ⟨lw_p105, List.forall_mem_cons.mpr ⟨lw_p106, List.forall_mem_cons.mpr ⟨lw_p107, List.forall_mem_cons.mpr ⟨lw_p108, List.forall_mem_cons.mpr ⟨lw_p109, List.forall_mem_cons.mpr ⟨lw_p110, List.forall_mem_cons.mpr ⟨lw_p111, fun _ h => absurd h List.not_mem_nil⟩⟩⟩⟩⟩⟩⟩⟩⟩⟩⟩⟩⟩⟩⟩⟩
theorem lw_p112 : lw_okq (⟨"RopeClockModel", "endOf", "(III)I"⟩, 62) := ⟨⟨by decide +kernel, by decide +kernel⟩, List.mem_of_getElem? (i := 1109) (by decide +kernel), List.mem_of_getElem? (i := 1765) (by decide +kernel), List.mem_of_getElem? (i := 1766) (by decide +kernel)⟩
theorem lw_p113 : lw_okq (⟨"RopeClockModel", "leadsTo", "(III)I"⟩, 62) := ⟨⟨by decide +kernel, by decide +kernel⟩, List.mem_of_getElem? (i := 1109) (by decide +kernel), List.mem_of_getElem? (i := 1769) (by decide +kernel), List.mem_of_getElem? (i := 1770) (by decide +kernel)⟩
theorem lw_p114 : lw_okq (⟨"RopeClockModel", "keepsSo", "(IIII)Z"⟩, 62) := ⟨⟨by decide +kernel, by decide +kernel⟩, List.mem_of_getElem? (i := 1109) (by decide +kernel), List.mem_of_getElem? (i := 1773) (by decide +kernel), List.mem_of_getElem? (i := 1774) (by decide +kernel)⟩
theorem lw_p115 : lw_okq (⟨"RopeClockModel", "keeps", "(I)I"⟩, 62) := ⟨⟨by decide +kernel, by decide +kernel⟩, List.mem_of_getElem? (i := 1109) (by decide +kernel), List.mem_of_getElem? (i := 1781) (by decide +kernel), List.mem_of_getElem? (i := 1782) (by decide +kernel)⟩
theorem lw_p116 : lw_okq (⟨"RopeClockModel", "keepsTold", "()V"⟩, 62) := ⟨⟨by decide +kernel, by decide +kernel⟩, List.mem_of_getElem? (i := 1109) (by decide +kernel), List.mem_of_getElem? (i := 1785) (by decide +kernel), List.mem_of_getElem? (i := 1786) (by decide +kernel)⟩
theorem lw_p117 : lw_okq (⟨"RopeClockModel", "keepsLaw", "()V"⟩, 62) := ⟨⟨by decide +kernel, by decide +kernel⟩, List.mem_of_getElem? (i := 1109) (by decide +kernel), List.mem_of_getElem? (i := 1789) (by decide +kernel), List.mem_of_getElem? (i := 1790) (by decide +kernel)⟩
def lw_privs_8 : List (MethodName × Nat) := [(⟨"RopeClockModel", "endOf", "(III)I"⟩, 62), (⟨"RopeClockModel", "leadsTo", "(III)I"⟩, 62), (⟨"RopeClockModel", "keepsSo", "(IIII)Z"⟩, 62), (⟨"RopeClockModel", "keeps", "(I)I"⟩, 62), (⟨"RopeClockModel", "keepsTold", "()V"⟩, 62), (⟨"RopeClockModel", "keepsLaw", "()V"⟩, 62)]
theorem lw_r8 : ∀ q ∈ lw_privs_8, lw_okq q := List.forall_mem_cons.mpr ⟨lw_p112, List.forall_mem_cons.mpr ⟨lw_p113, List.forall_mem_cons.mpr ⟨lw_p114, List.forall_mem_cons.mpr ⟨lw_p115, List.forall_mem_cons.mpr ⟨lw_p116, List.forall_mem_cons.mpr ⟨lw_p117, fun _ h => absurd h List.not_mem_nil⟩⟩⟩⟩⟩⟩
def lw_privs : List (MethodName × Nat) := lw_privs_1 ++ (lw_privs_2 ++ (lw_privs_3 ++ (lw_privs_4 ++ (lw_privs_5 ++ (lw_privs_6 ++ (lw_privs_7 ++ (lw_privs_8)))))))
def lw_tbl : List Cond := k2_sels lw_privs ++ tables_1
theorem lw_privs_ok : ∀ q ∈ lw_privs, lw_okq q := by
  show ∀ q ∈ lw_privs_1 ++ (lw_privs_2 ++ (lw_privs_3 ++ (lw_privs_4 ++ (lw_privs_5 ++ (lw_privs_6 ++ (lw_privs_7 ++ (lw_privs_8))))))), lw_okq q
  exact List.forall_mem_append.mpr ⟨lw_r1, List.forall_mem_append.mpr ⟨lw_r2, List.forall_mem_append.mpr ⟨lw_r3, List.forall_mem_append.mpr ⟨lw_r4, List.forall_mem_append.mpr ⟨lw_r5, List.forall_mem_append.mpr ⟨lw_r6, List.forall_mem_append.mpr ⟨lw_r7, lw_r8⟩⟩⟩⟩⟩⟩⟩

def RX0 : String := "RopeClock$Book"
def TX0 : u_T := fun k => match k with
  | 0 => ("RopeClock$Book", "day", "[I", true)
  | 1 => ("RopeClock$Book", "kind", "[I", true)
  | 2 => ("RopeClock$Book", "who", "[I", true)
  | 3 => ("RopeClock$Book", "much", "[I", true)
  | _ => ("RopeClock$Book", "lines", "I", false)
def tyX0 : Nat → FieldType := fun k => match k with
  | 0 => .array .int
  | 1 => .array .int
  | 2 => .array .int
  | 3 => .array .int
  | _ => .int
theorem nmX0 : ∀ a, a < 5 → ∀ b, b < 5 → a ≠ b → (TX0 a).2.1 ≠ (TX0 b).2.1 := by decide +kernel
theorem tyX0_ok : ∀ k, k < 5 → parseFieldDescriptor (TX0 k).2.2.1 = some (tyX0 k) := by decide +kernel
abbrev cX0_init : ByteArray := prog_2_method_1_code
def yX0_init : MethodName := ⟨RX0, "<init>", "()V"⟩
abbrev cX0_copyFrom : ByteArray := prog_2_method_2_code
def yX0_copyFrom : MethodName := ⟨RX0, "copyFrom", "(LRopeClock$Book;)V"⟩
abbrev cX0_write : ByteArray := prog_2_method_3_code
def yX0_write : MethodName := ⟨RX0, "write", "(IIII)V"⟩
def RX1 : String := "RopeClock$Island"
def TX1 : u_T := fun k => match k with
  | 0 => ("RopeClock$Island", "weight", "[I", true)
  | 1 => ("RopeClock$Island", "longs", "[I", true)
  | 2 => ("RopeClock$Island", "left", "[I", true)
  | 3 => ("RopeClock$Island", "people", "I", false)
  | 4 => ("RopeClock$Island", "here", "I", false)
  | 5 => ("RopeClock$Island", "stays", "I", false)
  | 6 => ("RopeClock$Island", "time", "I", false)
  | 7 => ("RopeClock$Island", "wound", "I", false)
  | 8 => ("RopeClock$Island", "struck", "I", false)
  | 9 => ("RopeClock$Island", "turns", "I", false)
  | 10 => ("RopeClock$Island", "school", "I", false)
  | 11 => ("RopeClock$Island", "due", "I", false)
  | 12 => ("RopeClock$Island", "day", "I", false)
  | _ => ("RopeClock$Island", "draws", "I", false)
def tyX1 : Nat → FieldType := fun k => match k with
  | 0 => .array .int
  | 1 => .array .int
  | 2 => .array .int
  | 3 => .int
  | 4 => .int
  | 5 => .int
  | 6 => .int
  | 7 => .int
  | 8 => .int
  | 9 => .int
  | 10 => .int
  | 11 => .int
  | 12 => .int
  | _ => .int
theorem nmX1 : ∀ a, a < 14 → ∀ b, b < 14 → a ≠ b → (TX1 a).2.1 ≠ (TX1 b).2.1 := by decide +kernel
theorem tyX1_ok : ∀ k, k < 14 → parseFieldDescriptor (TX1 k).2.2.1 = some (tyX1 k) := by decide +kernel
abbrev cX1_init : ByteArray := prog_3_method_1_code
def yX1_init : MethodName := ⟨RX1, "<init>", "()V"⟩
abbrev cX1_copyFrom : ByteArray := prog_3_method_2_code
def yX1_copyFrom : MethodName := ⟨RX1, "copyFrom", "(LRopeClock$Island;)V"⟩
abbrev cX1_comes : ByteArray := prog_3_method_3_code
def yX1_comes : MethodName := ⟨RX1, "comes", "(II)I"⟩
abbrev cX1_knows : ByteArray := prog_3_method_4_code
def yX1_knows : MethodName := ⟨RX1, "knows", "(I)Z"⟩
abbrev cX1_isHere : ByteArray := prog_3_method_5_code
def yX1_isHere : MethodName := ⟨RX1, "isHere", "(I)Z"⟩
abbrev cX1_isBegged : ByteArray := prog_3_method_6_code
def yX1_isBegged : MethodName := ⟨RX1, "isBegged", "(I)Z"⟩
abbrev cX1_drawOfThousand : ByteArray := prog_3_method_7_code
def yX1_drawOfThousand : MethodName := ⟨RX1, "drawOfThousand", "()I"⟩
abbrev cX1_moveHands : ByteArray := prog_3_method_8_code
def yX1_moveHands : MethodName := ⟨RX1, "moveHands", "(I)V"⟩
def RX2 : String := "RopeClock$Kinship"
def TX2 : u_T := fun k => match k with
  | 0 => ("RopeClock$Kinship", "sets", "[I", true)
  | _ => ("RopeClock$Kinship", "lines", "I", false)
def tyX2 : Nat → FieldType := fun k => match k with
  | 0 => .array .int
  | _ => .int
theorem nmX2 : ∀ a, a < 2 → ∀ b, b < 2 → a ≠ b → (TX2 a).2.1 ≠ (TX2 b).2.1 := by decide +kernel
theorem tyX2_ok : ∀ k, k < 2 → parseFieldDescriptor (TX2 k).2.2.1 = some (tyX2 k) := by decide +kernel
abbrev cX2_init : ByteArray := prog_4_method_1_code
def yX2_init : MethodName := ⟨RX2, "<init>", "()V"⟩
abbrev cX2_copyFrom : ByteArray := prog_4_method_2_code
def yX2_copyFrom : MethodName := ⟨RX2, "copyFrom", "(LRopeClock$Kinship;)V"⟩
abbrev cX2_clear : ByteArray := prog_4_method_3_code
def yX2_clear : MethodName := ⟨RX2, "clea\x72", "()V"⟩
abbrev cX2_join : ByteArray := prog_4_method_4_code
def yX2_join : MethodName := ⟨RX2, "join", "(II)V"⟩
abbrev cX2_areKin : ByteArray := prog_4_method_5_code
def yX2_areKin : MethodName := ⟨RX2, "areKin", "(II)Z"⟩
def RX3 : String := "RopeClock$Law"
def TX3 : u_T := fun k => match k with
  | 0 => ("RopeClock$Law", "word", "[I", true)
  | 1 => ("RopeClock$Law", "start", "[I", true)
  | 2 => ("RopeClock$Law", "when", "[I", true)
  | 3 => ("RopeClock$Law", "stop", "[I", true)
  | 4 => ("RopeClock$Law", "code", "[I", true)
  | 5 => ("RopeClock$Law", "stack", "[I", true)
  | 6 => ("RopeClock$Law", "lines", "I", false)
  | _ => ("RopeClock$Law", "length", "I", false)
def tyX3 : Nat → FieldType := fun k => match k with
  | 0 => .array .int
  | 1 => .array .int
  | 2 => .array .int
  | 3 => .array .int
  | 4 => .array .int
  | 5 => .array .int
  | 6 => .int
  | _ => .int
theorem nmX3 : ∀ a, a < 8 → ∀ b, b < 8 → a ≠ b → (TX3 a).2.1 ≠ (TX3 b).2.1 := by decide +kernel
theorem tyX3_ok : ∀ k, k < 8 → parseFieldDescriptor (TX3 k).2.2.1 = some (tyX3 k) := by decide +kernel
abbrev cX3_init : ByteArray := prog_5_method_1_code
def yX3_init : MethodName := ⟨RX3, "<init>", "()V"⟩
abbrev cX3_copyFrom : ByteArray := prog_5_method_2_code
def yX3_copyFrom : MethodName := ⟨RX3, "copyFrom", "(LRopeClock$Law;)V"⟩
abbrev cX3_put : ByteArray := prog_5_method_3_code
def yX3_put : MethodName := ⟨RX3, "put", "(I)V"⟩
abbrev cX3_run : ByteArray := prog_5_method_4_code
def yX3_run : MethodName := ⟨RX3, "run", "(IILRopeClock$World;I)I"⟩
abbrev cX3_joined : ByteArray := prog_5_method_5_code
def yX3_joined : MethodName := ⟨RX3, "joined", "(III)I"⟩
def RX4 : String := "RopeClock$Plan"
def TX4 : u_T := fun k => match k with
  | 0 => ("RopeClock$Plan", "day", "[I", true)
  | 1 => ("RopeClock$Plan", "what", "[I", true)
  | 2 => ("RopeClock$Plan", "numbe\x72", "[I", true)
  | _ => ("RopeClock$Plan", "lines", "I", false)
def tyX4 : Nat → FieldType := fun k => match k with
  | 0 => .array .int
  | 1 => .array .int
  | 2 => .array .int
  | _ => .int
theorem nmX4 : ∀ a, a < 4 → ∀ b, b < 4 → a ≠ b → (TX4 a).2.1 ≠ (TX4 b).2.1 := by decide +kernel
theorem tyX4_ok : ∀ k, k < 4 → parseFieldDescriptor (TX4 k).2.2.1 = some (tyX4 k) := by decide +kernel
abbrev cX4_init : ByteArray := prog_6_method_1_code
def yX4_init : MethodName := ⟨RX4, "<init>", "()V"⟩
abbrev cX4_copyFrom : ByteArray := prog_6_method_2_code
def yX4_copyFrom : MethodName := ⟨RX4, "copyFrom", "(LRopeClock$Plan;)V"⟩
def RX5 : String := "RopeClock$Puzzles"
def TX5 : u_T := fun k => match k with
  | 0 => ("RopeClock$Puzzles", "teeth", "[I", true)
  | 1 => ("RopeClock$Puzzles", "onAxle", "[Z", true)
  | 2 => ("RopeClock$Puzzles", "wheels", "I", false)
  | 3 => ("RopeClock$Puzzles", "pai\x72", "[I", true)
  | 4 => ("RopeClock$Puzzles", "couples", "I", false)
  | 5 => ("RopeClock$Puzzles", "sitte\x72", "[I", true)
  | 6 => ("RopeClock$Puzzles", "sitters", "I", false)
  | 7 => ("RopeClock$Puzzles", "fa\x72", "[I", true)
  | 8 => ("RopeClock$Puzzles", "load", "[I", true)
  | _ => ("RopeClock$Puzzles", "arms", "I", false)
def tyX5 : Nat → FieldType := fun k => match k with
  | 0 => .array .int
  | 1 => .array .boolean
  | 2 => .int
  | 3 => .array .int
  | 4 => .int
  | 5 => .array .int
  | 6 => .int
  | 7 => .array .int
  | 8 => .array .int
  | _ => .int
theorem nmX5 : ∀ a, a < 10 → ∀ b, b < 10 → a ≠ b → (TX5 a).2.1 ≠ (TX5 b).2.1 := by decide +kernel
theorem tyX5_ok : ∀ k, k < 10 → parseFieldDescriptor (TX5 k).2.2.1 = some (tyX5 k) := by decide +kernel
abbrev cX5_init : ByteArray := prog_7_method_1_code
def yX5_init : MethodName := ⟨RX5, "<init>", "()V"⟩
abbrev cX5_copyFrom : ByteArray := prog_7_method_2_code
def yX5_copyFrom : MethodName := ⟨RX5, "copyFrom", "(LRopeClock$Puzzles;)V"⟩
abbrev cX5_tellWheel : ByteArray := prog_7_method_3_code
def yX5_tellWheel : MethodName := ⟨RX5, "tellWheel", "(IZ)I"⟩
abbrev cX5_tellCouple : ByteArray := prog_7_method_4_code
def yX5_tellCouple : MethodName := ⟨RX5, "tellCouple", "(II)I"⟩
abbrev cX5_tellSeat : ByteArray := prog_7_method_5_code
def yX5_tellSeat : MethodName := ⟨RX5, "tellSeat", "(I)I"⟩
abbrev cX5_tellArm : ByteArray := prog_7_method_6_code
def yX5_tellArm : MethodName := ⟨RX5, "tellArm", "(II)I"⟩
abbrev cX5_isSafe : ByteArray := prog_7_method_7_code
def yX5_isSafe : MethodName := ⟨RX5, "isSafe", "(I)Z"⟩
abbrev cX5_turnOf : ByteArray := prog_7_method_8_code
def yX5_turnOf : MethodName := ⟨RX5, "turnOf", "(I)I"⟩
def RX6 : String := "RopeClock$Tape"
def TX6 : u_T := fun k => match k with
  | 0 => ("RopeClock$Tape", "bytes", "[I", true)
  | 1 => ("RopeClock$Tape", "tokens", "[I", true)
  | 2 => ("RopeClock$Tape", "places", "[I", true)
  | 3 => ("RopeClock$Tape", "length", "I", false)
  | 4 => ("RopeClock$Tape", "count", "I", false)
  | 5 => ("RopeClock$Tape", "at", "I", false)
  | 6 => ("RopeClock$Tape", "token", "I", false)
  | 7 => ("RopeClock$Tape", "fault", "I", false)
  | 8 => ("RopeClock$Tape", "place", "I", false)
  | _ => ("RopeClock$Tape", "value", "I", false)
def tyX6 : Nat → FieldType := fun k => match k with
  | 0 => .array .int
  | 1 => .array .int
  | 2 => .array .int
  | 3 => .int
  | 4 => .int
  | 5 => .int
  | 6 => .int
  | 7 => .int
  | 8 => .int
  | _ => .int
theorem nmX6 : ∀ a, a < 10 → ∀ b, b < 10 → a ≠ b → (TX6 a).2.1 ≠ (TX6 b).2.1 := by decide +kernel
theorem tyX6_ok : ∀ k, k < 10 → parseFieldDescriptor (TX6 k).2.2.1 = some (tyX6 k) := by decide +kernel
abbrev cX6_init : ByteArray := prog_8_method_1_code
def yX6_init : MethodName := ⟨RX6, "<init>", "()V"⟩
abbrev cX6_putFour : ByteArray := prog_8_method_2_code
def yX6_putFour : MethodName := ⟨RX6, "putFou\x72", "(I)V"⟩
abbrev cX6_rewind : ByteArray := prog_8_method_3_code
def yX6_rewind : MethodName := ⟨RX6, "rewind", "()V"⟩
abbrev cX6_cut : ByteArray := prog_8_method_4_code
def yX6_cut : MethodName := ⟨RX6, "cut", "(Ljava/lang/String;)V"⟩
abbrev cX6_putToken : ByteArray := prog_8_method_5_code
def yX6_putToken : MethodName := ⟨RX6, "putToken", "(II)V"⟩
abbrev cX6_isLetter : ByteArray := prog_8_method_6_code
def yX6_isLetter : MethodName := ⟨RX6, "isLette\x72", "(I)Z"⟩
abbrev cX6_isDigit : ByteArray := prog_8_method_7_code
def yX6_isDigit : MethodName := ⟨RX6, "isDigit", "(I)Z"⟩
abbrev cX6_numberAt : ByteArray := prog_8_method_8_code
def yX6_numberAt : MethodName := ⟨RX6, "numberAt", "(II)I"⟩
abbrev cX6_wordAt : ByteArray := prog_8_method_9_code
def yX6_wordAt : MethodName := ⟨RX6, "wordAt", "(Ljava/lang/String;II)I"⟩
abbrev cX6_isSame : ByteArray := prog_8_method_10_code
def yX6_isSame : MethodName := ⟨RX6, "isSame", "(Ljava/lang/String;III)Z"⟩
abbrev cX6_pass : ByteArray := prog_8_method_11_code
def yX6_pass : MethodName := ⟨RX6, "pass", "()V"⟩
abbrev cX6_isNumber : ByteArray := prog_8_method_12_code
def yX6_isNumber : MethodName := ⟨RX6, "isNumbe\x72", "()Z"⟩
abbrev cX6_isWord : ByteArray := prog_8_method_13_code
def yX6_isWord : MethodName := ⟨RX6, "isWord", "(II)Z"⟩
abbrev cX6_refuse : ByteArray := prog_8_method_14_code
def yX6_refuse : MethodName := ⟨RX6, "refuse", "(I)Z"⟩
abbrev cX6_takes : ByteArray := prog_8_method_15_code
def yX6_takes : MethodName := ⟨RX6, "takes", "(I)Z"⟩
abbrev cX6_takesNumber : ByteArray := prog_8_method_16_code
def yX6_takesNumber : MethodName := ⟨RX6, "takesNumbe\x72", "(II)Z"⟩
abbrev cX6_opensLine : ByteArray := prog_8_method_17_code
def yX6_opensLine : MethodName := ⟨RX6, "opensLine", "(III)Z"⟩
def RX7 : String := "RopeClock$TextReade\x72"
def TX7 : u_T := fun k => match k with
  | _ => ("RopeClock$TextReade\x72", "tape", "LRopeClock$Tape;", true)
def tyX7 : Nat → FieldType := fun k => match k with
  | _ => .object "RopeClock$Tape"
theorem nmX7 : ∀ a, a < 1 → ∀ b, b < 1 → a ≠ b → (TX7 a).2.1 ≠ (TX7 b).2.1 := by decide +kernel
theorem tyX7_ok : ∀ k, k < 1 → parseFieldDescriptor (TX7 k).2.2.1 = some (tyX7 k) := by decide +kernel
abbrev cX7_init : ByteArray := prog_9_method_1_code
def yX7_init : MethodName := ⟨RX7, "<init>", "(LRopeClock$Tape;)V"⟩
abbrev cX7_readLaw : ByteArray := prog_9_method_2_code
def yX7_readLaw : MethodName := ⟨RX7, "readLaw", "(LRopeClock$Law;)Z"⟩
abbrev cX7_readLawLine : ByteArray := prog_9_method_3_code
def yX7_readLawLine : MethodName := ⟨RX7, "readLawLine", "(LRopeClock$Law;I)Z"⟩
abbrev cX7_readChoice : ByteArray := prog_9_method_4_code
def yX7_readChoice : MethodName := ⟨RX7, "readChoice", "(LRopeClock$Law;I)Z"⟩
abbrev cX7_readSingle : ByteArray := prog_9_method_5_code
def yX7_readSingle : MethodName := ⟨RX7, "readSingle", "(LRopeClock$Law;I)Z"⟩
abbrev cX7_readSum : ByteArray := prog_9_method_6_code
def yX7_readSum : MethodName := ⟨RX7, "readSum", "(LRopeClock$Law;)Z"⟩
abbrev cX7_readOperand : ByteArray := prog_9_method_7_code
def yX7_readOperand : MethodName := ⟨RX7, "readOperand", "(LRopeClock$Law;Z)Z"⟩
abbrev cX7_readBoats : ByteArray := prog_9_method_8_code
def yX7_readBoats : MethodName := ⟨RX7, "readBoats", "(LRopeClock$Plan;)Z"⟩
abbrev cX7_readBoat : ByteArray := prog_9_method_9_code
def yX7_readBoat : MethodName := ⟨RX7, "readBoat", "(LRopeClock$Plan;I)Z"⟩
abbrev cX7_readDay : ByteArray := prog_9_method_10_code
def yX7_readDay : MethodName := ⟨RX7, "readDay", "(LRopeClock$Plan;I)Z"⟩
abbrev cX7_readTown : ByteArray := prog_9_method_11_code
def yX7_readTown : MethodName := ⟨RX7, "readTown", "(LRopeClock$Plan;I)Z"⟩
abbrev cX7_readDoing : ByteArray := prog_9_method_12_code
def yX7_readDoing : MethodName := ⟨RX7, "readDoing", "(LRopeClock$Plan;II)Z"⟩
abbrev cX7_readAmount : ByteArray := prog_9_method_13_code
def yX7_readAmount : MethodName := ⟨RX7, "readAmount", "(II)Z"⟩
abbrev cX7_readKin : ByteArray := prog_9_method_14_code
def yX7_readKin : MethodName := ⟨RX7, "readKin", "(LRopeClock$Kinship;I)Z"⟩
abbrev cX7_readKinLine : ByteArray := prog_9_method_15_code
def yX7_readKinLine : MethodName := ⟨RX7, "readKinLine", "(LRopeClock$Kinship;I)Z"⟩
def RX8 : String := "RopeClock$Thinke\x72"
def TX8 : u_T := fun k => match k with
  | 0 => ("RopeClock$Thinke\x72", "worth", "[I", true)
  | 1 => ("RopeClock$Thinke\x72", "bell", "[I", true)
  | 2 => ("RopeClock$Thinke\x72", "crossings", "[I", true)
  | 3 => ("RopeClock$Thinke\x72", "queue", "[I", true)
  | _ => ("RopeClock$Thinke\x72", "turnings", "[I", true)
def tyX8 : Nat → FieldType := fun k => match k with
  | 0 => .array .int
  | 1 => .array .int
  | 2 => .array .int
  | 3 => .array .int
  | _ => .array .int
theorem nmX8 : ∀ a, a < 5 → ∀ b, b < 5 → a ≠ b → (TX8 a).2.1 ≠ (TX8 b).2.1 := by decide +kernel
theorem tyX8_ok : ∀ k, k < 5 → parseFieldDescriptor (TX8 k).2.2.1 = some (tyX8 k) := by decide +kernel
abbrev cX8_init : ByteArray := prog_10_method_1_code
def yX8_init : MethodName := ⟨RX8, "<init>", "()V"⟩
abbrev cX8_strokesOver : ByteArray := prog_10_method_2_code
def yX8_strokesOver : MethodName := ⟨RX8, "strokesOve\x72", "(II)I"⟩
abbrev cX8_handsApart : ByteArray := prog_10_method_3_code
def yX8_handsApart : MethodName := ⟨RX8, "handsApart", "(I)I"⟩
abbrev cX8_minutesApartBy : ByteArray := prog_10_method_4_code
def yX8_minutesApartBy : MethodName := ⟨RX8, "minutesApartBy", "(I)I"⟩
abbrev cX8_commonPart : ByteArray := prog_10_method_5_code
def yX8_commonPart : MethodName := ⟨RX8, "commonPart", "(II)I"⟩
abbrev cX8_fewestCrossings : ByteArray := prog_10_method_6_code
def yX8_fewestCrossings : MethodName := ⟨RX8, "fewestCrossings", "(LRopeClock$Puzzles;II)I"⟩
abbrev cX8_fewestTurnings : ByteArray := prog_10_method_7_code
def yX8_fewestTurnings : MethodName := ⟨RX8, "fewestTurnings", "(III)I"⟩
abbrev cX8_turnInto : ByteArray := prog_10_method_8_code
def yX8_turnInto : MethodName := ⟨RX8, "turnInto", "(IIII)V"⟩
abbrev cX8_waysToSit : ByteArray := prog_10_method_9_code
def yX8_waysToSit : MethodName := ⟨RX8, "waysToSit", "(LRopeClock$Puzzles;III)I"⟩
abbrev cX8_leastLean : ByteArray := prog_10_method_10_code
def yX8_leastLean : MethodName := ⟨RX8, "leastLean", "(LRopeClock$Puzzles;IIII)I"⟩
abbrev cX8_quotients : ByteArray := prog_10_method_11_code
def yX8_quotients : MethodName := ⟨RX8, "quotients", "(II)I"⟩
abbrev cX8_partOf : ByteArray := prog_10_method_12_code
def yX8_partOf : MethodName := ⟨RX8, "partOf", "(IIII)I"⟩
abbrev cX8_ringInOrder : ByteArray := prog_10_method_13_code
def yX8_ringInOrder : MethodName := ⟨RX8, "ringInOrde\x72", "(I)V"⟩
abbrev cX8_change : ByteArray := prog_10_method_14_code
def yX8_change : MethodName := ⟨RX8, "change", "(II)V"⟩
abbrev cX8_isInOrder : ByteArray := prog_10_method_15_code
def yX8_isInOrder : MethodName := ⟨RX8, "isInOrde\x72", "(I)Z"⟩
abbrev cX8_changesTillInOrder : ByteArray := prog_10_method_16_code
def yX8_changesTillInOrder : MethodName := ⟨RX8, "changesTillInOrde\x72", "(I)I"⟩
abbrev cX8_bellAt : ByteArray := prog_10_method_17_code
def yX8_bellAt : MethodName := ⟨RX8, "bellAt", "(III)I"⟩
abbrev cX8_opponent : ByteArray := prog_10_method_18_code
def yX8_opponent : MethodName := ⟨RX8, "opponent", "(III)I"⟩
abbrev cX8_meetsLast : ByteArray := prog_10_method_19_code
def yX8_meetsLast : MethodName := ⟨RX8, "meetsLast", "(II)I"⟩
abbrev cX8_firstMeeting : ByteArray := prog_10_method_20_code
def yX8_firstMeeting : MethodName := ⟨RX8, "firstMeeting", "(IIII)I"⟩
abbrev cX8_judgeHours : ByteArray := prog_10_method_21_code
def yX8_judgeHours : MethodName := ⟨RX8, "judgeHours", "(II)V"⟩
abbrev cX8_bestFrom : ByteArray := prog_10_method_22_code
def yX8_bestFrom : MethodName := ⟨RX8, "bestFrom", "(III)I"⟩
abbrev cX8_worthOfStep : ByteArray := prog_10_method_23_code
def yX8_worthOfStep : MethodName := ⟨RX8, "worthOfStep", "(III)I"⟩
abbrev cX8_stepThatKeeps : ByteArray := prog_10_method_24_code
def yX8_stepThatKeeps : MethodName := ⟨RX8, "stepThatKeeps", "(III)I"⟩
def RX9 : String := "RopeClock$World"
def TX9 : u_T := fun k => match k with
  | 0 => ("RopeClock$World", "island", "LRopeClock$Island;", true)
  | 1 => ("RopeClock$World", "law", "LRopeClock$Law;", true)
  | 2 => ("RopeClock$World", "boats", "LRopeClock$Plan;", true)
  | 3 => ("RopeClock$World", "town", "LRopeClock$Plan;", true)
  | 4 => ("RopeClock$World", "kin", "LRopeClock$Kinship;", true)
  | 5 => ("RopeClock$World", "book", "LRopeClock$Book;", true)
  | _ => ("RopeClock$World", "puzzles", "LRopeClock$Puzzles;", true)
def tyX9 : Nat → FieldType := fun k => match k with
  | 0 => .object "RopeClock$Island"
  | 1 => .object "RopeClock$Law"
  | 2 => .object "RopeClock$Plan"
  | 3 => .object "RopeClock$Plan"
  | 4 => .object "RopeClock$Kinship"
  | 5 => .object "RopeClock$Book"
  | _ => .object "RopeClock$Puzzles"
theorem nmX9 : ∀ a, a < 7 → ∀ b, b < 7 → a ≠ b → (TX9 a).2.1 ≠ (TX9 b).2.1 := by decide +kernel
theorem tyX9_ok : ∀ k, k < 7 → parseFieldDescriptor (TX9 k).2.2.1 = some (tyX9 k) := by decide +kernel
abbrev cX9_init : ByteArray := prog_11_method_1_code
def yX9_init : MethodName := ⟨RX9, "<init>", "()V"⟩
abbrev cX9_copyFrom : ByteArray := prog_11_method_2_code
def yX9_copyFrom : MethodName := ⟨RX9, "copyFrom", "(LRopeClock$World;)V"⟩
abbrev cX9_passDay : ByteArray := prog_11_method_3_code
def yX9_passDay : MethodName := ⟨RX9, "passDay", "(Z)V"⟩
abbrev cX9_happen : ByteArray := prog_11_method_4_code
def yX9_happen : MethodName := ⟨RX9, "happen", "(II)V"⟩
abbrev cX9_sailOut : ByteArray := prog_11_method_5_code
def yX9_sailOut : MethodName := ⟨RX9, "sailOut", "(IZ)V"⟩
abbrev cX9_sailBack : ByteArray := prog_11_method_6_code
def yX9_sailBack : MethodName := ⟨RX9, "sailBack", "(IZ)V"⟩
abbrev cX9_isWilling : ByteArray := prog_11_method_7_code
def yX9_isWilling : MethodName := ⟨RX9, "isWilling", "(IIZ)Z"⟩
abbrev cX9_goAboard : ByteArray := prog_11_method_8_code
def yX9_goAboard : MethodName := ⟨RX9, "goAboard", "(I)V"⟩
abbrev cX9_comeBack : ByteArray := prog_11_method_9_code
def yX9_comeBack : MethodName := ⟨RX9, "comeBack", "(I)V"⟩
abbrev cX9_runClock : ByteArray := prog_11_method_10_code
def yX9_runClock : MethodName := ⟨RX9, "runClock", "()V"⟩
abbrev cX9_tells : ByteArray := prog_11_method_11_code
def yX9_tells : MethodName := ⟨RX9, "tells", "(II)I"⟩
abbrev cX9_held : ByteArray := prog_11_method_12_code
def yX9_held : MethodName := ⟨RX9, "held", "(II)I"⟩
abbrev cX9_valueOf : ByteArray := prog_11_method_13_code
def yX9_valueOf : MethodName := ⟨RX9, "valueOf", "(II)I"⟩
def RX10 : String := "RopeClock"
def TX10 : u_T := fun k => match k with
  | 0 => ("RopeClock", "now", "LRopeClock$World;", true)
  | 1 => ("RopeClock", "pictured", "LRopeClock$World;", true)
  | 2 => ("RopeClock", "scratch", "LRopeClock$World;", true)
  | 3 => ("RopeClock", "tape", "LRopeClock$Tape;", true)
  | 4 => ("RopeClock", "reade\x72", "LRopeClock$TextReader;", true)
  | 5 => ("RopeClock", "thinke\x72", "LRopeClock$Thinker;", true)
  | 6 => ("RopeClock", "past", "[LRopeClock$Island;", true)
  | 7 => ("RopeClock", "pastLines", "[I", true)
  | 8 => ("RopeClock", "undoable", "I", false)
  | 9 => ("RopeClock", "hasImage", "Z", false)
  | _ => ("RopeClock", "sums", "[I", false)
def tyX10 : Nat → FieldType := fun k => match k with
  | 0 => .object "RopeClock$World"
  | 1 => .object "RopeClock$World"
  | 2 => .object "RopeClock$World"
  | 3 => .object "RopeClock$Tape"
  | 4 => .object "RopeClock$TextReade\x72"
  | 5 => .object "RopeClock$Thinke\x72"
  | 6 => .array (.object "RopeClock$Island")
  | 7 => .array .int
  | 8 => .int
  | 9 => .boolean
  | _ => .array .int
theorem nmX10 : ∀ a, a < 11 → ∀ b, b < 11 → a ≠ b → (TX10 a).2.1 ≠ (TX10 b).2.1 := by decide +kernel
theorem tyX10_ok : ∀ k, k < 11 → parseFieldDescriptor (TX10 k).2.2.1 = some (tyX10 k) := by decide +kernel
abbrev cX10_init : ByteArray := prog_1_method_1_code
def yX10_init : MethodName := ⟨RX10, "<init>", "()V"⟩
abbrev cX10_state : ByteArray := prog_1_method_2_code
def yX10_state : MethodName := ⟨RX10, "state", "(I)I"⟩
abbrev cX10_islander : ByteArray := prog_1_method_3_code
def yX10_islander : MethodName := ⟨RX10, "islande\x72", "(II)I"⟩
abbrev cX10_set : ByteArray := prog_1_method_4_code
def yX10_set : MethodName := ⟨RX10, "set", "(III)Z"⟩
abbrev cX10_act : ByteArray := prog_1_method_5_code
def yX10_act : MethodName := ⟨RX10, "act", "(II)Z"⟩
abbrev cX10_days : ByteArray := prog_1_method_6_code
def yX10_days : MethodName := ⟨RX10, "days", "(I)I"⟩
abbrev cX10_feed : ByteArray := prog_1_method_7_code
def yX10_feed : MethodName := ⟨RX10, "feed", "(IIIII)I"⟩
abbrev cX10_end : ByteArray := prog_1_method_8_code
def yX10_end : MethodName := ⟨RX10, "end", "(I)Z"⟩
abbrev cX10_text : ByteArray := prog_1_method_9_code
def yX10_text : MethodName := ⟨RX10, "text", "(I)I"⟩
abbrev cX10_fault : ByteArray := prog_1_method_10_code
def yX10_fault : MethodName := ⟨RX10, "fault", "(I)I"⟩
abbrev cX10_of : ByteArray := prog_1_method_11_code
def yX10_of : MethodName := ⟨RX10, "of", "(II)I"⟩
abbrev cX10_book : ByteArray := prog_1_method_12_code
def yX10_book : MethodName := ⟨RX10, "book", "(II)I"⟩
abbrev cX10_goes : ByteArray := prog_1_method_13_code
def yX10_goes : MethodName := ⟨RX10, "goes", "(II)I"⟩
abbrev cX10_lonely : ByteArray := prog_1_method_14_code
def yX10_lonely : MethodName := ⟨RX10, "lonely", "()I"⟩
abbrev cX10_must : ByteArray := prog_1_method_15_code
def yX10_must : MethodName := ⟨RX10, "must", "(II)I"⟩
abbrev cX10_strokes : ByteArray := prog_1_method_16_code
def yX10_strokes : MethodName := ⟨RX10, "strokes", "(II)I"⟩
abbrev cX10_hands : ByteArray := prog_1_method_17_code
def yX10_hands : MethodName := ⟨RX10, "hands", "(II)I"⟩
abbrev cX10_wheel : ByteArray := prog_1_method_18_code
def yX10_wheel : MethodName := ⟨RX10, "wheel", "(IZ)I"⟩
abbrev cX10_wheels : ByteArray := prog_1_method_19_code
def yX10_wheels : MethodName := ⟨RX10, "wheels", "(I)I"⟩
abbrev cX10_couple : ByteArray := prog_1_method_20_code
def yX10_couple : MethodName := ⟨RX10, "couple", "(II)I"⟩
abbrev cX10_ferry : ByteArray := prog_1_method_21_code
def yX10_ferry : MethodName := ⟨RX10, "ferry", "(II)I"⟩
abbrev cX10_glasses : ByteArray := prog_1_method_22_code
def yX10_glasses : MethodName := ⟨RX10, "glasses", "(III)I"⟩
abbrev cX10_seat : ByteArray := prog_1_method_23_code
def yX10_seat : MethodName := ⟨RX10, "seat", "(I)I"⟩
abbrev cX10_level : ByteArray := prog_1_method_24_code
def yX10_level : MethodName := ⟨RX10, "level", "()I"⟩
abbrev cX10_part : ByteArray := prog_1_method_25_code
def yX10_part : MethodName := ⟨RX10, "part", "(III)I"⟩
abbrev cX10_bells : ByteArray := prog_1_method_26_code
def yX10_bells : MethodName := ⟨RX10, "bells", "(III)I"⟩
abbrev cX10_against : ByteArray := prog_1_method_27_code
def yX10_against : MethodName := ⟨RX10, "against", "(III)I"⟩
abbrev cX10_calendar : ByteArray := prog_1_method_28_code
def yX10_calendar : MethodName := ⟨RX10, "calenda\x72", "(III)I"⟩
abbrev cX10_rope : ByteArray := prog_1_method_29_code
def yX10_rope : MethodName := ⟨RX10, "rope", "(III)I"⟩
abbrev cX10_meets : ByteArray := prog_1_method_30_code
def yX10_meets : MethodName := ⟨RX10, "meets", "(IIII)I"⟩
abbrev cX10_arm : ByteArray := prog_1_method_31_code
def yX10_arm : MethodName := ⟨RX10, "arm", "(II)I"⟩
abbrev cX10_hung : ByteArray := prog_1_method_32_code
def yX10_hung : MethodName := ⟨RX10, "hung", "(I)I"⟩
abbrev cX10_game : ByteArray := prog_1_method_33_code
def yX10_game : MethodName := ⟨RX10, "game", "(IIII)I"⟩
abbrev cX10_undo : ByteArray := prog_1_method_34_code
def yX10_undo : MethodName := ⟨RX10, "undo", "()Z"⟩
abbrev cX10_image : ByteArray := prog_1_method_35_code
def yX10_image : MethodName := ⟨RX10, "image", "(Z)Z"⟩
abbrev cX10_look : ByteArray := prog_1_method_36_code
def yX10_look : MethodName := ⟨RX10, "look", "(I)I"⟩
abbrev cX10_within : ByteArray := prog_1_method_37_code
def yX10_within : MethodName := ⟨RX10, "within", "(III)Z"⟩
abbrev cX10_canBeSet : ByteArray := prog_1_method_38_code
def yX10_canBeSet : MethodName := ⟨RX10, "canBeSet", "(III)Z"⟩
abbrev cX10_canAct : ByteArray := prog_1_method_39_code
def yX10_canAct : MethodName := ⟨RX10, "canAct", "(II)Z"⟩
abbrev cX10_forget : ByteArray := prog_1_method_40_code
def yX10_forget : MethodName := ⟨RX10, "forget", "()V"⟩
abbrev cX10_remember : ByteArray := prog_1_method_41_code
def yX10_remember : MethodName := ⟨RX10, "remembe\x72", "()V"⟩
abbrev cX10_fewestWinding : ByteArray := prog_1_method_42_code
def yX10_fewestWinding : MethodName := ⟨RX10, "fewestWinding", "(I)I"⟩
abbrev cX10_addToSums : ByteArray := prog_1_method_43_code
def yX10_addToSums : MethodName := ⟨RX10, "addToSums", "(III)V"⟩
def RX11 : String := "RopeClockModel"
def TX11 : u_T := fun k => match k with
  | 0 => ("RopeClockModel", "told", "I", false)
  | 1 => ("RopeClockModel", "now", "[I", true)
  | 2 => ("RopeClockModel", "rows", "[I", true)
  | 3 => ("RopeClockModel", "undoable", "I", false)
  | 4 => ("RopeClockModel", "waiting", "[I", true)
  | 5 => ("RopeClockModel", "isThought", "Z", false)
  | 6 => ("RopeClockModel", "islanders", "I", false)
  | 7 => ("RopeClockModel", "weight", "[I", true)
  | 8 => ("RopeClockModel", "longing", "[I", true)
  | 9 => ("RopeClockModel", "book", "[I", true)
  | 10 => ("RopeClockModel", "tape", "[I", true)
  | 11 => ("RopeClockModel", "taped", "I", false)
  | 12 => ("RopeClockModel", "spot", "I", false)
  | 13 => ("RopeClockModel", "from", "I", false)
  | 14 => ("RopeClockModel", "token", "I", false)
  | 15 => ("RopeClockModel", "value", "I", false)
  | 16 => ("RopeClockModel", "words", "[I", true)
  | 17 => ("RopeClockModel", "lineMany", "[I", true)
  | 18 => ("RopeClockModel", "lineWord", "[I", true)
  | 19 => ("RopeClockModel", "lineFrom", "[I", true)
  | 20 => ("RopeClockModel", "lineWhen", "[I", true)
  | 21 => ("RopeClockModel", "lineTo", "[I", true)
  | 22 => ("RopeClockModel", "op", "[I", true)
  | 23 => ("RopeClockModel", "arg", "[I", true)
  | 24 => ("RopeClockModel", "which", "I", false)
  | 25 => ("RopeClockModel", "codes", "I", false)
  | 26 => ("RopeClockModel", "open", "I", false)
  | 27 => ("RopeClockModel", "pending", "[I", true)
  | 28 => ("RopeClockModel", "pendings", "I", false)
  | 29 => ("RopeClockModel", "readFault", "I", false)
  | 30 => ("RopeClockModel", "readPlace", "I", false)
  | 31 => ("RopeClockModel", "faultKind", "I", false)
  | 32 => ("RopeClockModel", "faultPlace", "I", false)
  | 33 => ("RopeClockModel", "boatMany", "I", false)
  | 34 => ("RopeClockModel", "boats", "[I", true)
  | 35 => ("RopeClockModel", "deedMany", "I", false)
  | 36 => ("RopeClockModel", "deeds", "[I", true)
  | 37 => ("RopeClockModel", "kinMany", "I", false)
  | 38 => ("RopeClockModel", "kinOf", "[I", true)
  | 39 => ("RopeClockModel", "asked", "[I", true)
  | 40 => ("RopeClockModel", "stack", "[I", true)
  | 41 => ("RopeClockModel", "windsBy", "[I", true)
  | 42 => ("RopeClockModel", "wheelMany", "I", false)
  | 43 => ("RopeClockModel", "teeth", "[I", true)
  | 44 => ("RopeClockModel", "isOnAxle", "[I", true)
  | 45 => ("RopeClockModel", "coupleMany", "I", false)
  | 46 => ("RopeClockModel", "notAlone", "[I", true)
  | 47 => ("RopeClockModel", "crossedBy", "[I", true)
  | 48 => ("RopeClockModel", "turnedBy", "[I", true)
  | 49 => ("RopeClockModel", "seatMany", "I", false)
  | 50 => ("RopeClockModel", "seated", "[I", true)
  | 51 => ("RopeClockModel", "quotients", "[I", true)
  | 52 => ("RopeClockModel", "rung", "[I", true)
  | 53 => ("RopeClockModel", "armMany", "I", false)
  | 54 => ("RopeClockModel", "arms", "[I", true)
  | 55 => ("RopeClockModel", "hungWeight", "[I", true)
  | 56 => ("RopeClockModel", "orde\x72", "[I", true)
  | 57 => ("RopeClockModel", "endsAs", "[I", true)
  | 58 => ("RopeClockModel", "isTaking", "Z", false)
  | 59 => ("RopeClockModel", "hasImage", "Z", false)
  | 60 => ("RopeClockModel", "keptAt", "I", false)
  | _ => ("RopeClockModel", "images", "[I", true)
def tyX11 : Nat → FieldType := fun k => match k with
  | 0 => .int
  | 1 => .array .int
  | 2 => .array .int
  | 3 => .int
  | 4 => .array .int
  | 5 => .boolean
  | 6 => .int
  | 7 => .array .int
  | 8 => .array .int
  | 9 => .array .int
  | 10 => .array .int
  | 11 => .int
  | 12 => .int
  | 13 => .int
  | 14 => .int
  | 15 => .int
  | 16 => .array .int
  | 17 => .array .int
  | 18 => .array .int
  | 19 => .array .int
  | 20 => .array .int
  | 21 => .array .int
  | 22 => .array .int
  | 23 => .array .int
  | 24 => .int
  | 25 => .int
  | 26 => .int
  | 27 => .array .int
  | 28 => .int
  | 29 => .int
  | 30 => .int
  | 31 => .int
  | 32 => .int
  | 33 => .int
  | 34 => .array .int
  | 35 => .int
  | 36 => .array .int
  | 37 => .int
  | 38 => .array .int
  | 39 => .array .int
  | 40 => .array .int
  | 41 => .array .int
  | 42 => .int
  | 43 => .array .int
  | 44 => .array .int
  | 45 => .int
  | 46 => .array .int
  | 47 => .array .int
  | 48 => .array .int
  | 49 => .int
  | 50 => .array .int
  | 51 => .array .int
  | 52 => .array .int
  | 53 => .int
  | 54 => .array .int
  | 55 => .array .int
  | 56 => .array .int
  | 57 => .array .int
  | 58 => .boolean
  | 59 => .boolean
  | 60 => .int
  | _ => .array .int
theorem nmX11 : ∀ a, a < 62 → ∀ b, b < 62 → a ≠ b → (TX11 a).2.1 ≠ (TX11 b).2.1 := by decide +kernel
theorem tyX11_ok : ∀ k, k < 62 → parseFieldDescriptor (TX11 k).2.2.1 = some (tyX11 k) := by decide +kernel
abbrev cX11_init : ByteArray := prog_13_method_1_code
def yX11_init : MethodName := ⟨RX11, "<init>", "()V"⟩
abbrev cX11_isIn : ByteArray := prog_13_method_3_code
def yX11_isIn : MethodName := ⟨RX11, "isIn", "(III)Z"⟩
abbrev cX11_held : ByteArray := prog_13_method_4_code
def yX11_held : MethodName := ⟨RX11, "held", "(III)I"⟩
abbrev cX11_greater : ByteArray := prog_13_method_5_code
def yX11_greater : MethodName := ⟨RX11, "greate\x72", "(II)I"⟩
abbrev cX11_lesser : ByteArray := prog_13_method_6_code
def yX11_lesser : MethodName := ⟨RX11, "lesse\x72", "(II)I"⟩
abbrev cX11_plain : ByteArray := prog_13_method_7_code
def yX11_plain : MethodName := ⟨RX11, "plain", "(I)I"⟩
abbrev cX11_common : ByteArray := prog_13_method_8_code
def yX11_common : MethodName := ⟨RX11, "common", "(II)I"⟩
abbrev cX11_onesOf : ByteArray := prog_13_method_9_code
def yX11_onesOf : MethodName := ⟨RX11, "onesOf", "(I)I"⟩
abbrev cX11_has : ByteArray := prog_13_method_10_code
def yX11_has : MethodName := ⟨RX11, "has", "(II)Z"⟩
abbrev cX11_keepsAhead : ByteArray := prog_13_method_11_code
def yX11_keepsAhead : MethodName := ⟨RX11, "keepsAhead", "()V"⟩
abbrev cX11_undo : ByteArray := prog_13_method_12_code
def yX11_undo : MethodName := ⟨RX11, "undo", "()Z"⟩
abbrev cX11_thinks : ByteArray := prog_13_method_13_code
def yX11_thinks : MethodName := ⟨RX11, "thinks", "()V"⟩
abbrev cX11_endsThought : ByteArray := prog_13_method_14_code
def yX11_endsThought : MethodName := ⟨RX11, "endsThought", "()V"⟩
abbrev cX11_state : ByteArray := prog_13_method_15_code
def yX11_state : MethodName := ⟨RX11, "state", "(I)I"⟩
abbrev cX11_draw : ByteArray := prog_13_method_16_code
def yX11_draw : MethodName := ⟨RX11, "draw", "(I)I"⟩
abbrev cX11_isIslander : ByteArray := prog_13_method_17_code
def yX11_isIslander : MethodName := ⟨RX11, "isIslande\x72", "(I)Z"⟩
abbrev cX11_isHere : ByteArray := prog_13_method_18_code
def yX11_isHere : MethodName := ⟨RX11, "isHere", "(I)Z"⟩
abbrev cX11_hereSet : ByteArray := prog_13_method_19_code
def yX11_hereSet : MethodName := ⟨RX11, "hereSet", "()I"⟩
abbrev cX11_islander : ByteArray := prog_13_method_20_code
def yX11_islander : MethodName := ⟨RX11, "islande\x72", "(II)I"⟩
abbrev cX11_canSet : ByteArray := prog_13_method_21_code
def yX11_canSet : MethodName := ⟨RX11, "canSet", "(III)Z"⟩
abbrev cX11_set : ByteArray := prog_13_method_22_code
def yX11_set : MethodName := ⟨RX11, "set", "(III)Z"⟩
abbrev cX11_types : ByteArray := prog_13_method_23_code
def yX11_types : MethodName := ⟨RX11, "types", "(I)V"⟩
abbrev cX11_feed : ByteArray := prog_13_method_24_code
def yX11_feed : MethodName := ⟨RX11, "feed", "(IIIII)I"⟩
abbrev cX11_end : ByteArray := prog_13_method_25_code
def yX11_end : MethodName := ⟨RX11, "end", "(I)Z"⟩
abbrev cX11_raw : ByteArray := prog_13_method_26_code
def yX11_raw : MethodName := ⟨RX11, "raw", "(I)I"⟩
abbrev cX11_isLetter : ByteArray := prog_13_method_27_code
def yX11_isLetter : MethodName := ⟨RX11, "isLette\x72", "(I)Z"⟩
abbrev cX11_isDigit : ByteArray := prog_13_method_28_code
def yX11_isDigit : MethodName := ⟨RX11, "isDigit", "(I)Z"⟩
abbrev cX11_isMarkSign : ByteArray := prog_13_method_29_code
def yX11_isMarkSign : MethodName := ⟨RX11, "isMarkSign", "(I)Z"⟩
abbrev cX11_wordAt : ByteArray := prog_13_method_30_code
def yX11_wordAt : MethodName := ⟨RX11, "wordAt", "(II)I"⟩
abbrev cX11_reads : ByteArray := prog_13_method_31_code
def yX11_reads : MethodName := ⟨RX11, "reads", "()V"⟩
abbrev cX11_errs : ByteArray := prog_13_method_32_code
def yX11_errs : MethodName := ⟨RX11, "errs", "(I)I"⟩
abbrev cX11_isWord : ByteArray := prog_13_method_33_code
def yX11_isWord : MethodName := ⟨RX11, "isWord", "(I)Z"⟩
abbrev cX11_isSign : ByteArray := prog_13_method_34_code
def yX11_isSign : MethodName := ⟨RX11, "isSign", "(I)Z"⟩
abbrev cX11_emits : ByteArray := prog_13_method_35_code
def yX11_emits : MethodName := ⟨RX11, "emits", "(II)V"⟩
abbrev cX11_canAsk : ByteArray := prog_13_method_36_code
def yX11_canAsk : MethodName := ⟨RX11, "canAsk", "(I)Z"⟩
abbrev cX11_readUnit : ByteArray := prog_13_method_37_code
def yX11_readUnit : MethodName := ⟨RX11, "readUnit", "()I"⟩
abbrev cX11_readProduct : ByteArray := prog_13_method_38_code
def yX11_readProduct : MethodName := ⟨RX11, "readProduct", "()I"⟩
abbrev cX11_readSum : ByteArray := prog_13_method_39_code
def yX11_readSum : MethodName := ⟨RX11, "readSum", "()I"⟩
abbrev cX11_readCompared : ByteArray := prog_13_method_40_code
def yX11_readCompared : MethodName := ⟨RX11, "readCompared", "()I"⟩
abbrev cX11_waits : ByteArray := prog_13_method_41_code
def yX11_waits : MethodName := ⟨RX11, "waits", "(I)V"⟩
abbrev cX11_settles : ByteArray := prog_13_method_42_code
def yX11_settles : MethodName := ⟨RX11, "settles", "(I)V"⟩
abbrev cX11_readAny : ByteArray := prog_13_method_43_code
def yX11_readAny : MethodName := ⟨RX11, "readAny", "()I"⟩
abbrev cX11_isLineWord : ByteArray := prog_13_method_44_code
def yX11_isLineWord : MethodName := ⟨RX11, "isLineWord", "()Z"⟩
abbrev cX11_readLaw : ByteArray := prog_13_method_45_code
def yX11_readLaw : MethodName := ⟨RX11, "readLaw", "()I"⟩
abbrev cX11_takesLaw : ByteArray := prog_13_method_46_code
def yX11_takesLaw : MethodName := ⟨RX11, "takesLaw", "(I)V"⟩
abbrev cX11_readNumber : ByteArray := prog_13_method_47_code
def yX11_readNumber : MethodName := ⟨RX11, "readNumbe\x72", "(II)I"⟩
abbrev cX11_readMark : ByteArray := prog_13_method_48_code
def yX11_readMark : MethodName := ⟨RX11, "readMark", "(I)I"⟩
abbrev cX11_readTold : ByteArray := prog_13_method_49_code
def yX11_readTold : MethodName := ⟨RX11, "readTold", "(III)I"⟩
abbrev cX11_readBoat : ByteArray := prog_13_method_50_code
def yX11_readBoat : MethodName := ⟨RX11, "readBoat", "(I)I"⟩
abbrev cX11_readBoats : ByteArray := prog_13_method_51_code
def yX11_readBoats : MethodName := ⟨RX11, "readBoats", "()I"⟩
abbrev cX11_kindOfDeed : ByteArray := prog_13_method_52_code
def yX11_kindOfDeed : MethodName := ⟨RX11, "kindOfDeed", "()I"⟩
abbrev cX11_readDeed : ByteArray := prog_13_method_53_code
def yX11_readDeed : MethodName := ⟨RX11, "readDeed", "(I)I"⟩
abbrev cX11_readTown : ByteArray := prog_13_method_54_code
def yX11_readTown : MethodName := ⟨RX11, "readTown", "()I"⟩
abbrev cX11_readKin : ByteArray := prog_13_method_55_code
def yX11_readKin : MethodName := ⟨RX11, "readKin", "()I"⟩
abbrev cX11_readAllKin : ByteArray := prog_13_method_56_code
def yX11_readAllKin : MethodName := ⟨RX11, "readAllKin", "()I"⟩
abbrev cX11_readsText : ByteArray := prog_13_method_57_code
def yX11_readsText : MethodName := ⟨RX11, "readsText", "(I)I"⟩
abbrev cX11_takesOther : ByteArray := prog_13_method_58_code
def yX11_takesOther : MethodName := ⟨RX11, "takesOthe\x72", "(II)V"⟩
abbrev cX11_text : ByteArray := prog_13_method_59_code
def yX11_text : MethodName := ⟨RX11, "text", "(I)I"⟩
abbrev cX11_fault : ByteArray := prog_13_method_60_code
def yX11_fault : MethodName := ⟨RX11, "fault", "(I)I"⟩
abbrev cX11_twoOf : ByteArray := prog_13_method_61_code
def yX11_twoOf : MethodName := ⟨RX11, "twoOf", "(III)I"⟩
abbrev cX11_runs : ByteArray := prog_13_method_62_code
def yX11_runs : MethodName := ⟨RX11, "runs", "(III)I"⟩
abbrev cX11_lineOf : ByteArray := prog_13_method_63_code
def yX11_lineOf : MethodName := ⟨RX11, "lineOf", "(I)I"⟩
abbrev cX11_kinApart : ByteArray := prog_13_method_64_code
def yX11_kinApart : MethodName := ⟨RX11, "kinApart", "(I)I"⟩
abbrev cX11_asks : ByteArray := prog_13_method_65_code
def yX11_asks : MethodName := ⟨RX11, "asks", "(I)V"⟩
abbrev cX11_lawTells : ByteArray := prog_13_method_66_code
def yX11_lawTells : MethodName := ⟨RX11, "lawTells", "(III)I"⟩
abbrev cX11_leavesOf : ByteArray := prog_13_method_67_code
def yX11_leavesOf : MethodName := ⟨RX11, "leavesOf", "(I)I"⟩
abbrev cX11_windsOf : ByteArray := prog_13_method_68_code
def yX11_windsOf : MethodName := ⟨RX11, "windsOf", "(I)I"⟩
abbrev cX11_returnsOf : ByteArray := prog_13_method_69_code
def yX11_returnsOf : MethodName := ⟨RX11, "returnsOf", "(I)I"⟩
abbrev cX11_notes : ByteArray := prog_13_method_70_code
def yX11_notes : MethodName := ⟨RX11, "notes", "(III)V"⟩
abbrev cX11_goesAboard : ByteArray := prog_13_method_71_code
def yX11_goesAboard : MethodName := ⟨RX11, "goesAboard", "(I)V"⟩
abbrev cX11_comesBack : ByteArray := prog_13_method_72_code
def yX11_comesBack : MethodName := ⟨RX11, "comesBack", "(I)V"⟩
abbrev cX11_canAct : ByteArray := prog_13_method_73_code
def yX11_canAct : MethodName := ⟨RX11, "canAct", "(II)Z"⟩
abbrev cX11_act : ByteArray := prog_13_method_74_code
def yX11_act : MethodName := ⟨RX11, "act", "(II)Z"⟩
abbrev cX11_happens : ByteArray := prog_13_method_75_code
def yX11_happens : MethodName := ⟨RX11, "happens", "(I)Z"⟩
abbrev cX11_isPushed : ByteArray := prog_13_method_76_code
def yX11_isPushed : MethodName := ⟨RX11, "isPushed", "(I)V"⟩
abbrev cX11_does : ByteArray := prog_13_method_77_code
def yX11_does : MethodName := ⟨RX11, "does", "(I)V"⟩
abbrev cX11_goesOut : ByteArray := prog_13_method_78_code
def yX11_goesOut : MethodName := ⟨RX11, "goesOut", "(I)V"⟩
abbrev cX11_bringsBack : ByteArray := prog_13_method_79_code
def yX11_bringsBack : MethodName := ⟨RX11, "bringsBack", "(I)V"⟩
abbrev cX11_strokesAt : ByteArray := prog_13_method_80_code
def yX11_strokesAt : MethodName := ⟨RX11, "strokesAt", "(I)I"⟩
abbrev cX11_clockRuns : ByteArray := prog_13_method_81_code
def yX11_clockRuns : MethodName := ⟨RX11, "clockRuns", "()I"⟩
abbrev cX11_goesBy : ByteArray := prog_13_method_82_code
def yX11_goesBy : MethodName := ⟨RX11, "goesBy", "()I"⟩
abbrev cX11_days : ByteArray := prog_13_method_83_code
def yX11_days : MethodName := ⟨RX11, "days", "(I)I"⟩
abbrev cX11_of : ByteArray := prog_13_method_84_code
def yX11_of : MethodName := ⟨RX11, "of", "(II)I"⟩
abbrev cX11_book : ByteArray := prog_13_method_85_code
def yX11_book : MethodName := ⟨RX11, "book", "(II)I"⟩
abbrev cX11_goes : ByteArray := prog_13_method_86_code
def yX11_goes : MethodName := ⟨RX11, "goes", "(II)I"⟩
abbrev cX11_lonely : ByteArray := prog_13_method_87_code
def yX11_lonely : MethodName := ⟨RX11, "lonely", "()I"⟩
abbrev cX11_must : ByteArray := prog_13_method_88_code
def yX11_must : MethodName := ⟨RX11, "must", "(II)I"⟩
abbrev cX11_strokes : ByteArray := prog_13_method_89_code
def yX11_strokes : MethodName := ⟨RX11, "strokes", "(II)I"⟩
abbrev cX11_handsAt : ByteArray := prog_13_method_90_code
def yX11_handsAt : MethodName := ⟨RX11, "handsAt", "(I)I"⟩
abbrev cX11_hands : ByteArray := prog_13_method_91_code
def yX11_hands : MethodName := ⟨RX11, "hands", "(II)I"⟩
abbrev cX11_wheel : ByteArray := prog_13_method_92_code
def yX11_wheel : MethodName := ⟨RX11, "wheel", "(IZ)I"⟩
abbrev cX11_wheels : ByteArray := prog_13_method_93_code
def yX11_wheels : MethodName := ⟨RX11, "wheels", "(I)I"⟩
abbrev cX11_couple : ByteArray := prog_13_method_94_code
def yX11_couple : MethodName := ⟨RX11, "couple", "(II)I"⟩
abbrev cX11_isPeace : ByteArray := prog_13_method_95_code
def yX11_isPeace : MethodName := ⟨RX11, "isPeace", "(I)Z"⟩
abbrev cX11_ferry : ByteArray := prog_13_method_96_code
def yX11_ferry : MethodName := ⟨RX11, "ferry", "(II)I"⟩
abbrev cX11_glassAt : ByteArray := prog_13_method_97_code
def yX11_glassAt : MethodName := ⟨RX11, "glassAt", "(III)I"⟩
abbrev cX11_turns : ByteArray := prog_13_method_98_code
def yX11_turns : MethodName := ⟨RX11, "turns", "(IIII)V"⟩
abbrev cX11_glasses : ByteArray := prog_13_method_99_code
def yX11_glasses : MethodName := ⟨RX11, "glasses", "(III)I"⟩
abbrev cX11_seat : ByteArray := prog_13_method_100_code
def yX11_seat : MethodName := ⟨RX11, "seat", "(I)I"⟩
abbrev cX11_isLevel : ByteArray := prog_13_method_101_code
def yX11_isLevel : MethodName := ⟨RX11, "isLevel", "(I)Z"⟩
abbrev cX11_level : ByteArray := prog_13_method_102_code
def yX11_level : MethodName := ⟨RX11, "level", "()I"⟩
abbrev cX11_findsQuotients : ByteArray := prog_13_method_103_code
def yX11_findsQuotients : MethodName := ⟨RX11, "findsQuotients", "(II)I"⟩
abbrev cX11_part : ByteArray := prog_13_method_104_code
def yX11_part : MethodName := ⟨RX11, "part", "(III)I"⟩
abbrev cX11_changes : ByteArray := prog_13_method_105_code
def yX11_changes : MethodName := ⟨RX11, "changes", "(II)V"⟩
abbrev cX11_areInOrder : ByteArray := prog_13_method_106_code
def yX11_areInOrder : MethodName := ⟨RX11, "areInOrde\x72", "(I)Z"⟩
abbrev cX11_againAt : ByteArray := prog_13_method_107_code
def yX11_againAt : MethodName := ⟨RX11, "againAt", "(I)I"⟩
abbrev cX11_bells : ByteArray := prog_13_method_108_code
def yX11_bells : MethodName := ⟨RX11, "bells", "(III)I"⟩
abbrev cX11_against : ByteArray := prog_13_method_109_code
def yX11_against : MethodName := ⟨RX11, "against", "(III)I"⟩
abbrev cX11_calendar : ByteArray := prog_13_method_110_code
def yX11_calendar : MethodName := ⟨RX11, "calenda\x72", "(III)I"⟩
abbrev cX11_rope : ByteArray := prog_13_method_111_code
def yX11_rope : MethodName := ⟨RX11, "rope", "(III)I"⟩
abbrev cX11_meets : ByteArray := prog_13_method_112_code
def yX11_meets : MethodName := ⟨RX11, "meets", "(IIII)I"⟩
abbrev cX11_arm : ByteArray := prog_13_method_113_code
def yX11_arm : MethodName := ⟨RX11, "arm", "(II)I"⟩
abbrev cX11_goesToNextOrder : ByteArray := prog_13_method_114_code
def yX11_goesToNextOrder : MethodName := ⟨RX11, "goesToNextOrde\x72", "()Z"⟩
abbrev cX11_hung : ByteArray := prog_13_method_115_code
def yX11_hung : MethodName := ⟨RX11, "hung", "(I)I"⟩
abbrev cX11_leadsTo : ByteArray := prog_13_method_116_code
def yX11_leadsTo : MethodName := ⟨RX11, "leadsTo", "(III)I"⟩
abbrev cX11_endOf : ByteArray := prog_13_method_117_code
def yX11_endOf : MethodName := ⟨RX11, "endOf", "(III)I"⟩
abbrev cX11_keepsSo : ByteArray := prog_13_method_118_code
def yX11_keepsSo : MethodName := ⟨RX11, "keepsSo", "(IIII)Z"⟩
abbrev cX11_game : ByteArray := prog_13_method_119_code
def yX11_game : MethodName := ⟨RX11, "game", "(IIII)I"⟩
abbrev cX11_keeps : ByteArray := prog_13_method_120_code
def yX11_keeps : MethodName := ⟨RX11, "keeps", "(I)I"⟩
abbrev cX11_keepsLaw : ByteArray := prog_13_method_121_code
def yX11_keepsLaw : MethodName := ⟨RX11, "keepsLaw", "()V"⟩
abbrev cX11_keepsTold : ByteArray := prog_13_method_122_code
def yX11_keepsTold : MethodName := ⟨RX11, "keepsTold", "()V"⟩
abbrev cX11_image : ByteArray := prog_13_method_123_code
def yX11_image : MethodName := ⟨RX11, "image", "(Z)Z"⟩
abbrev cX11_look : ByteArray := prog_13_method_124_code
def yX11_look : MethodName := ⟨RX11, "look", "(I)I"⟩
def RJx145de : String := "java/io/Serializable"
def RJx9f9b0 : String := "java/lang/CharSequence"
def RJ11 : String := "java/lang/Characte\x72"
abbrev cJ11_isValidCodePoint_9a6ad : ByteArray := prog_14_method_11_code
def yJ11_isValidCodePoint_9a6ad : MethodName := ⟨RJ11, "isValidCodePoint", "(I)Z"⟩
abbrev cJ11_highSurrogate_5068e : ByteArray := prog_14_method_28_code
def yJ11_highSurrogate_5068e : MethodName := ⟨RJ11, "highSurrogate", "(I)C"⟩
abbrev cJ11_lowSurrogate_5068e : ByteArray := prog_14_method_29_code
def yJ11_lowSurrogate_5068e : MethodName := ⟨RJ11, "lowSurrogate", "(I)C"⟩
def RJxb160c : String := "java/lang/Comparable"
def RJ6 : String := "java/lang/Intege\x72"
abbrev cJ6_bitCount_0f7a4 : ByteArray := prog_15_method_49_code
def yJ6_bitCount_0f7a4 : MethodName := ⟨RJ6, "bitCount", "(I)I"⟩
def RJ9 : String := "java/lang/Math"
abbrev cJ9_floorDiv_7cf53 : ByteArray := prog_16_method_47_code
def yJ9_floorDiv_7cf53 : MethodName := ⟨RJ9, "floorDiv", "(II)I"⟩
abbrev cJ9_floorMod_7cf53 : ByteArray := prog_16_method_50_code
def yJ9_floorMod_7cf53 : MethodName := ⟨RJ9, "floorMod", "(II)I"⟩
abbrev cJ9_abs_0f7a4 : ByteArray := prog_16_method_59_code
def yJ9_abs_0f7a4 : MethodName := ⟨RJ9, "abs", "(I)I"⟩
abbrev cJ9_max_7cf53 : ByteArray := prog_16_method_65_code
def yJ9_max_7cf53 : MethodName := ⟨RJ9, "max", "(II)I"⟩
abbrev cJ9_min_7cf53 : ByteArray := prog_16_method_69_code
def yJ9_min_7cf53 : MethodName := ⟨RJ9, "min", "(II)I"⟩
def RJ0 : String := "java/lang/String"
abbrev cJ0_length_8abf5 : ByteArray := prog_17_method_54_code
def yJ0_length_8abf5 : MethodName := ⟨RJ0, "length", "()I"⟩
abbrev cJ0_charAt_5068e : ByteArray := prog_17_method_56_code
def yJ0_charAt_5068e : MethodName := ⟨RJ0, "charAt", "(I)C"⟩
abbrev cJ0_indexOf_0f7a4 : ByteArray := prog_17_method_79_code
def yJ0_indexOf_0f7a4 : MethodName := ⟨RJ0, "indexOf", "(I)I"⟩
abbrev cJ0_indexOf_7cf53 : ByteArray := prog_17_method_80_code
def yJ0_indexOf_7cf53 : MethodName := ⟨RJ0, "indexOf", "(II)I"⟩
abbrev cJ0_coder_7d493 : ByteArray := prog_17_method_152_code
def yJ0_coder_7d493 : MethodName := ⟨RJ0, "code\x72", "()B"⟩
abbrev cJ0_isLatin1_aae02 : ByteArray := prog_17_method_154_code
def yJ0_isLatin1_aae02 : MethodName := ⟨RJ0, "isLatin1", "()Z"⟩
abbrev cJ0_checkIndex_df160 : ByteArray := prog_17_method_155_code
def yJ0_checkIndex_df160 : MethodName := ⟨RJ0, "checkIndex", "(II)V"⟩
abbrev cJ0_checkBoundsBeginEnd_23922 : ByteArray := prog_17_method_158_code
def yJ0_checkBoundsBeginEnd_23922 : MethodName := ⟨RJ0, "checkBoundsBeginEnd", "(III)V"⟩
def RJ1 : String := "java/lang/StringLatin1"
abbrev cJ1_charAt_3b067 : ByteArray := prog_18_method_2_code
def yJ1_charAt_3b067 : MethodName := ⟨RJ1, "charAt", "([BI)C"⟩
abbrev cJ1_canEncode_9a6ad : ByteArray := prog_18_method_4_code
def yJ1_canEncode_9a6ad : MethodName := ⟨RJ1, "canEncode", "(I)Z"⟩
abbrev cJ1_indexOf_4cfef : ByteArray := prog_18_method_22_code
def yJ1_indexOf_4cfef : MethodName := ⟨RJ1, "indexOf", "([BIII)I"⟩
abbrev cJ1_indexOfChar_4cfef : ByteArray := prog_18_method_23_code
def yJ1_indexOfChar_4cfef : MethodName := ⟨RJ1, "indexOfCha\x72", "([BIII)I"⟩
def RJ2 : String := "java/lang/StringUTF16"
abbrev cJ2_getChar_3b067 : ByteArray := prog_19_method_5_code
def yJ2_getChar_3b067 : MethodName := ⟨RJ2, "getCha\x72", "([BI)C"⟩
abbrev cJ2_length_9d52b : ByteArray := prog_19_method_6_code
def yJ2_length_9d52b : MethodName := ⟨RJ2, "length", "([B)I"⟩
abbrev cJ2_indexOf_4cfef : ByteArray := prog_19_method_40_code
def yJ2_indexOf_4cfef : MethodName := ⟨RJ2, "indexOf", "([BIII)I"⟩
abbrev cJ2_indexOfChar_4cfef : ByteArray := prog_19_method_47_code
def yJ2_indexOfChar_4cfef : MethodName := ⟨RJ2, "indexOfCha\x72", "([BIII)I"⟩
abbrev cJ2_indexOfCharUnsafe_4cfef : ByteArray := prog_19_method_48_code
def yJ2_indexOfCharUnsafe_4cfef : MethodName := ⟨RJ2, "indexOfCharUnsafe", "([BIII)I"⟩
abbrev cJ2_indexOfSupplementary_4cfef : ByteArray := prog_19_method_49_code
def yJ2_indexOfSupplementary_4cfef : MethodName := ⟨RJ2, "indexOfSupplementary", "([BIII)I"⟩
abbrev cJ2_charAt_3b067 : ByteArray := prog_19_method_83_code
def yJ2_charAt_3b067 : MethodName := ⟨RJ2, "charAt", "([BI)C"⟩
abbrev cJ2_checkIndex_2214a : ByteArray := prog_19_method_91_code
def yJ2_checkIndex_2214a : MethodName := ⟨RJ2, "checkIndex", "(I[B)V"⟩
abbrev cJ2_checkBoundsBeginEnd_d044e : ByteArray := prog_19_method_93_code
def yJ2_checkBoundsBeginEnd_d044e : MethodName := ⟨RJ2, "checkBoundsBeginEnd", "(II[B)V"⟩
def RJ10 : String := "java/lang/System"
def RJxfd54e : String := "java/lang/constant/Constable"
def RJx3cf43 : String := "java/lang/constant/ConstantDesc"
def RJ7 : String := "java/util/Arrays"
abbrev cJ7_rangeCheck_23922 : ByteArray := prog_21_method_30_code
def yJ7_rangeCheck_23922 : MethodName := ⟨RJ7, "rangeCheck", "(III)V"⟩
abbrev cJ7_fill_53178 : ByteArray := prog_21_method_103_code
def yJ7_fill_53178 : MethodName := ⟨RJ7, "fill", "([II)V"⟩
abbrev cJ7_fill_fda19 : ByteArray := prog_21_method_104_code
def yJ7_fill_fda19 : MethodName := ⟨RJ7, "fill", "([IIII)V"⟩
def RJ3 : String := "jdk/internal/util/Preconditions"
abbrev cJ3_checkIndex_8e157 : ByteArray := prog_22_method_11_code
def yJ3_checkIndex_8e157 : MethodName := ⟨RJ3, "checkIndex", "(IILjava/util/function/BiFunction;)I"⟩
abbrev cJ3_checkFromToIndex_8c36e : ByteArray := prog_22_method_12_code
def yJ3_checkFromToIndex_8c36e : MethodName := ⟨RJ3, "checkFromToIndex", "(IIILjava/util/function/BiFunction;)I"⟩
def RL : String := "RopeClockLaw"
abbrev cL_law : ByteArray := code
def yL_law : MethodName := ⟨RL, "law", "([I)Z"⟩
abbrev vwCl : List vw_C := [(RX0, TX0, 5), (RX1, TX1, 14), (RX2, TX2, 2), (RX3, TX3, 8), (RX4, TX4, 4), (RX5, TX5, 10), (RX6, TX6, 10), (RX7, TX7, 1), (RX8, TX8, 5), (RX9, TX9, 7), (RX10, TX10, 11), (RX11, TX11, 62)]
def zfkL : List (List Nat) := [[2, 2, 2, 2, 0], [2, 2, 2, 0, 0, 0, 0, 0, 0, 0, 0, 0, 0, 0], [2, 0], [2, 2, 2, 2, 2, 2, 0, 0], [2, 2, 2, 0], [2, 2, 0, 2, 0, 2, 0, 2, 2, 0], [2, 2, 2, 0, 0, 0, 0, 0, 0, 0], [2], [2, 2, 2, 2, 2], [2, 2, 2, 2, 2, 2, 2], [2, 2, 2, 2, 2, 2, 2, 2, 0, 1, 2], [0, 2, 2, 0, 2, 1, 0, 2, 2, 2, 2, 0, 0, 0, 0, 0, 2, 2, 2, 2, 2, 2, 2, 2, 0, 0, 0, 2, 0, 0, 0, 0, 0, 0, 2, 0, 2, 0, 2, 2, 2, 2, 0, 2, 2, 0, 2, 2, 2, 0, 2, 2, 2, 0, 2, 2, 2, 2, 1, 1, 0, 2]]
def zlen : List Nat := [92, 10, 17, 41, 13]
def zbyt : List (List Int32) := [[108, 101, 97, 118, 101, 115, 32, 119, 105, 110, 100, 115, 32, 114, 101, 116, 117, 114, 110, 115, 32, 119, 104, 101, 110, 32, 111, 114, 32, 97, 110, 100, 32, 110, 111, 116, 32, 119, 101, 105, 103, 104, 116, 32, 108, 111, 110, 103, 32, 108, 101, 102, 116, 32, 104, 101, 114, 101, 32, 112, 101, 111, 112, 108, 101, 32, 119, 111, 117, 110, 100, 32, 116, 105, 109, 101, 32, 115, 99, 104, 111, 111, 108, 32, 107, 105, 110, 32, 100, 97, 121, 32], [59, 43, 45, 42, 47, 40, 41, 60, 61, 62], [111, 110, 32, 98, 111, 97, 116, 32, 111, 117, 116, 32, 98, 97, 99, 107, 32], [111, 110, 32, 98, 101, 103, 32, 102, 114, 101, 101, 32, 115, 99, 104, 111, 111, 108, 32, 104, 111, 108, 105, 100, 97, 121, 32, 105, 110, 116, 101, 114, 101, 115, 116, 32, 112, 117, 115, 104, 32], [105, 115, 108, 97, 110, 100, 101, 114, 32, 107, 105, 110, 32]]
def zsc : List (String × Nat × String × Nat) := [("RopeClock$TextReade\x72", 17, "leaves winds returns when or and not weight long left here people wound time school kin day ", 0), ("RopeClock$Tape", 62, ";+-*/()<=>", 1), ("RopeClock$TextReade\x72", 94, "on boat out back ", 2), ("RopeClock$TextReade\x72", 119, "on beg free school holiday interest push ", 3), ("RopeClock$TextReade\x72", 130, "islander kin ", 4)]
end
section
/-! ===== the simple machine: ints as Int, cells by number, one memory ===== -/
abbrev zV : Type := Int ⊕ Int
abbrev zM : Type := Nat × (Int → Int → Int)
abbrev zSh : Type := Int → Nat ⊕ (Nat × Nat)
abbrev zG : Type := (Int → Nat) × ClassId × ClassId × ClassId
abbrev zin (x : Int) : Prop := -2147483648 ≤ x ∧ x ≤ 2147483647
def zwr (h : zM) (c k v : Int) : zM := (h.1, fun a b => if a = c ∧ b = k then v else h.2 a b)
theorem zwr_1 (h : zM) (c k v : Int) : (zwr h c k v).1 = h.1 := rfl
theorem zwr_s (h : zM) (c k v : Int) : (zwr h c k v).2 c k = v := by simp [zwr]
theorem zwr_n {h : zM} {c k v a b : Int} (e : ¬ (a = c ∧ b = k)) : (zwr h c k v).2 a b = h.2 a b := by simp [zwr, e]
def zv (ad : Int → Nat) : zV → Value
  | .inl n => .int (Int32.ofInt n)
  | .inr r => if r = -1 then .null else .ref (ad r)
def zo (ad : Int → Nat) (r : Int) : Option Nat := if r = -1 then none else some (ad r)
theorem zo_rf (ad : Int → Nat) (r : Int) : va_rf (zo ad r) = zv ad (.inr r) := by
  show va_rf (if r = -1 then none else some (ad r)) = (if r = -1 then .null else .ref (ad r))
  split <;> rfl
theorem zv_ref (ad : Int → Nat) {r : Int} (h : ¬ r = -1) : zv ad (.inr r) = .ref (ad r) := if_neg h
theorem zv_cat (ad : Int → Nat) (v : zV) : (zv ad v).category = 1 := by
  unfold zv
  split
  · rfl
  · split <;> rfl
def zfk (ci k : Nat) : Nat := (zfkL.getD ci []).getD k 0
def znf (ci : Nat) : Nat := (zfkL.getD ci []).length
def zfv (ad : Int → Nat) (ci k : Nat) (v : Int) : Value := if zfk ci k = 2 then zv ad (.inr v) else .int (Int32.ofInt v)
def zc (sh : zSh) (g : zG) (h : zM) (c : Int) : va_E := match sh c with
  | .inl ci => .inr (ci, (List.range (znf ci)).map fun (k : Nat) => zfv g.1 ci k (h.2 c k))
  | .inr (0, n) => .inl (g.2.1, n, .inl fun (j : Nat) => Int32.ofInt (h.2 c j))
  | .inr (1, n) => .inl (g.2.2.1, n, .inl fun (j : Nat) => Int32.ofInt (h.2 c j))
  | .inr (_ + 2, n) => .inl (g.2.2.2, n, .inr (.inr (.inr (.inr fun (j : Nat) => zo g.1 (h.2 c j)))))
def zw (sh : zSh) (g : zG) (h : zM) : va_W := (List.range h.1).map fun (c : Nat) => (g.1 (c : Int), zc sh g h (c : Int))
theorem zc_cong {sh : zSh} {g : zG} {h h' : zM} {c : Int} (e : ∀ k : Int, h'.2 c k = h.2 c k) : zc sh g h' c = zc sh g h c := by
  have e2 : h'.2 c = h.2 c := funext e
  unfold zc
  rw [e2]
theorem zw_at (sh : zSh) (g : zG) (h : zM) {c : Nat} (hc : c < h.1) : (zw sh g h)[c]? = some (g.1 (c : Int), zc sh g h (c : Int)) := by
  unfold zw
  rw [List.getElem?_map, List.getElem?_range hc]
  rfl
theorem zw_out (sh : zSh) (g : zG) (h : zM) {c : Nat} (hc : h.1 ≤ c) : (zw sh g h)[c]? = none := by
  unfold zw
  rw [List.getElem?_map, List.getElem?_eq_none (by simpa using hc)]
  rfl
theorem zw_len (sh : zSh) (g : zG) (h : zM) : (zw sh g h).length = h.1 := by simp [zw]
theorem zw_set {sh : zSh} {g : zG} {h h' : zM} {c : Nat} {x : va_E} (hc : c < h.1) (h1 : h'.1 = h.1) (ho : ∀ a k : Int, a ≠ c → h'.2 a k = h.2 a k) (hx : zc sh g h' (c : Int) = x) : (zw sh g h).set c (g.1 (c : Int), x) = zw sh g h' := by
  apply List.ext_getElem?
  intro i
  by_cases hi : i = c
  · subst hi
    rw [List.getElem?_set_self (by rw [zw_len]; exact hc), zw_at sh g h' (by rw [h1]; exact hc), hx]
  · rw [List.getElem?_set_ne (Ne.symm hi)]
    by_cases hl : i < h.1
    · rw [zw_at sh g h hl, zw_at sh g h' (by rw [h1]; exact hl), zc_cong (h := h) (h' := h') (fun k => ho _ k (by omega))]
    · rw [zw_out sh g h (by omega), zw_out sh g h' (by rw [h1]; omega)]
theorem zw_push {sh : zSh} {g : zG} {h h' : zM} {a : Nat} {x : va_E} (h1 : h'.1 = h.1 + 1) (ho : ∀ a k : Int, a ≠ h.1 → h'.2 a k = h.2 a k) (ha : g.1 (h.1 : Int) = a) (hx : zc sh g h' (h.1 : Int) = x) : zw sh g h ++ [(a, x)] = zw sh g h' := by
  apply List.ext_getElem?
  intro i
  by_cases hi : i < h.1
  · rw [List.getElem?_append_left (by rw [zw_len]; exact hi), zw_at sh g h hi, zw_at sh g h' (by omega), zc_cong (h := h) (h' := h') (fun k => ho _ k (by omega))]
  · rw [List.getElem?_append_right (by rw [zw_len]; omega), zw_len]
    by_cases hl : i = h.1
    · subst hl
      rw [Nat.sub_self, zw_at sh g h' (by omega), hx, ha]
      rfl
    · rw [zw_out sh g h' (by omega)]
      simp
      omega
/-- objects, arrays: what a cell is, by its shape -/
theorem zc_obj {sh : zSh} {g : zG} {h : zM} {c : Int} {ci : Nat} (e : sh c = .inl ci) : zc sh g h c = .inr (ci, (List.range (znf ci)).map fun (k : Nat) => zfv g.1 ci k (h.2 c k)) := by unfold zc; rw [e]
theorem zc_ia {sh : zSh} {g : zG} {h : zM} {c : Int} {n : Nat} (e : sh c = .inr (0, n)) : zc sh g h c = .inl (g.2.1, n, .inl fun (j : Nat) => Int32.ofInt (h.2 c j)) := by unfold zc; rw [e]
theorem zc_za {sh : zSh} {g : zG} {h : zM} {c : Int} {n : Nat} (e : sh c = .inr (1, n)) : zc sh g h c = .inl (g.2.2.1, n, .inl fun (j : Nat) => Int32.ofInt (h.2 c j)) := by unfold zc; rw [e]
theorem zc_ra {sh : zSh} {g : zG} {h : zM} {c : Int} {n : Nat} (e : sh c = .inr (2, n)) : zc sh g h c = .inl (g.2.2.2, n, .inr (.inr (.inr (.inr fun (j : Nat) => zo g.1 (h.2 c j))))) := by unfold zc; rw [e]
/-- the words that every method may use -/
def zt : List Cond := lw_tbl.filter goodWord
theorem zt_in {w : Cond} (h : w ∈ lw_tbl) (hg : goodWord w = true) : w ∈ zt := List.mem_filter.mpr ⟨h, hg⟩
theorem zt_of {args : Array Value} {s : State} (h : ∀ w ∈ lw_tbl, w.before args s = true) : ∀ w ∈ zt, w.before args s = true := fun w hw => h w (List.mem_filter.mp hw).1
theorem zt_good : GoodIn zt zt := fun w hw => ⟨hw, good_of_word (List.mem_filter.mp hw).2⟩
def zws (y : MethodName) (cc : ByteArray) (nL : Nat) (ret : Option FieldType) : List Cond := Cond.code y cc nL ret :: zt
theorem zws_good {y : MethodName} {cc : ByteArray} {nL : Nat} {ret : Option FieldType} (h : Cond.code y cc nL ret ∈ zt) : GoodIn zt (zws y cc nL ret) := fun w hw => (List.mem_cons.mp hw).elim (fun e => by rw [e]; exact zt_good _ h) (zt_good w)
def ztys (g : zG) : List (ClassId × FieldType) := [(g.2.1, .int), (g.2.2.1, .boolean), (g.2.2.2, .object RX1)]
/-- the strings of the claim, as cells -2 - i, their bytes as cells -10 - i -/
def zStr (g : zG) (A : Nat → Prop) (U : State) : Prop :=
  vk_S 5 zlen zbyt (fun i => g.1 (-2 - (i : Int))) (fun i => g.1 (-10 - (i : Int))) A U U.heap ∧ va_Z "java/lang/String" "COMPACT_STRINGS" "Z" (.int 1) A U U.heap ∧ ∀ q ∈ zsc, vk_R q.1 q.2.1 q.2.2.1 (g.1 (-2 - (q.2.2.2 : Int))) U
def zX (y : MethodName) (cc : ByteArray) (nL : Nat) (ret : Option FieldType) (D : va_G) (g : zG) (p : Program) (s : State) (m : MethodId) (args : Array Value) (meth : Method) (c : Code) (A : Nat → Prop) : Prop :=
  p.tables.exec = Jvm.exec ∧ c.code = cc ∧ c.maxLocals = nL ∧ meth.sig.returnType = ret ∧ s.vm.findClass y.cls = some m.cls ∧ (∀ w ∈ zt, w.before args s = true) ∧ meth.locks = false ∧ va_K D vwCl (ztys g) s ∧ meth.name = y.name ∧ (∀ q, s.heap.size ≤ q → A q) ∧ zStr g A s
def zI (sh : zSh) (D : va_G) (g : zG) (A : Nat → Prop) (H0 : Heap) (h : zM) (H : Heap) (locs : List Loc) : Prop :=
  va_P D vwCl (zw sh g h) H ∧ va_D A (zw sh g h) ∧ va_S A H0 H locs ∧ ∀ c : Nat, h.1 ≤ c → g.1 (c : Int) = H.size + (c - h.1)
def zl (ad : Int → Nat) (L : List (Option zV)) : List (Nat × Value) := (List.range L.length).filterMap fun k => (L.getD k none).map fun v => (k, zv ad v)
def zL (ad : Int → Nat) (nL : Nat) (L : List (Option zV)) (ls : Array Slot) : Prop := L.length = nL ∧ lv_has ls nL (zl ad L)
theorem zl_mem {ad : Int → Nat} {L : List (Option zV)} {q : Nat × Value} : q ∈ zl ad L ↔ ∃ v, L[q.1]? = some (some v) ∧ q.2 = zv ad v := by
  unfold zl
  rw [List.mem_filterMap]
  constructor
  · rintro ⟨k, hk, he⟩
    have hk' := List.mem_range.mp hk
    cases hg : L.getD k none with
    | none => rw [hg] at he; cases he
    | some v =>
      rw [hg] at he
      have he : some (k, zv ad v) = some q := he
      cases he
      refine ⟨v, ?_, rfl⟩
      rw [List.getD_eq_getElem?_getD] at hg
      show L[k]? = _
      rw [List.getElem?_eq_getElem hk'] at hg ⊢
      exact congrArg some hg
  · rintro ⟨v, h1, h2⟩
    refine ⟨q.1, List.mem_range.mpr (List.getElem?_eq_some_iff.mp h1).1, ?_⟩
    rw [List.getD_eq_getElem?_getD, h1]
    show some (q.1, zv ad v) = some q
    rw [← h2]
theorem zL_at {ad : Int → Nat} {nL : Nat} {L : List (Option zV)} {ls : Array Slot} (Z : zL ad nL L ls) {k : Nat} {v : zV} (h : L[k]? = some (some v)) : ls[k]? = some (.val (zv ad v)) := Z.2.2.2 (k, zv ad v) (zl_mem.mpr ⟨v, h, rfl⟩)
theorem zL_set {ad : Int → Nat} {nL : Nat} {L L' : List (Option zV)} {ls ls' : Array Slot} {i : Nat} {v : zV} (Z : zL ad nL L ls) (hi : i < nL) (hL : L.set i (some v) = L') (h : lv_has ls' nL ((i, zv ad v) :: (zl ad L).filter (fun q => !(q.1 == i) && !(q.1 + 1 == i && q.2.category == 2)))) : zL ad nL L' ls' := by
  subst hL
  refine ⟨by rw [List.length_set]; exact Z.1, h.1, h.2.1, fun q hq => ?_⟩
  obtain ⟨w, h1, h2⟩ := zl_mem.mp hq
  by_cases hqi : q.1 = i
  · rw [hqi, List.getElem?_set_self (by rw [Z.1]; exact hi)] at h1
    have hw : v = w := Option.some.inj (Option.some.inj h1)
    have h3 := h.2.2 (i, zv ad v) List.mem_cons_self
    rw [hqi, h2, ← hw]
    exact h3
  · rw [List.getElem?_set_ne (Ne.symm hqi)] at h1
    refine h.2.2 q (List.mem_cons_of_mem _ (List.mem_filter.mpr ⟨zl_mem.mpr ⟨w, h1, h2⟩, ?_⟩))
    rw [h2, zv_cat]
    simp [hqi]
def zQ (sh : zSh) (D : va_G) (g : zG) (A : Nat → Prop) (Q : Option zV → zM → Prop) : Array Value → State → Outcome → State → Prop := fun _ st oc t =>
  (∃ (r : Option zV) (h' : zM), oc = .returned (r.map (zv g.1)) ∧ Q r h' ∧ va_P D vwCl (zw sh g h') t.heap ∧ va_D A (zw sh g h') ∧ ∀ c : Nat, h'.1 ≤ c → g.1 (c : Int) = t.heap.size + (c - h'.1)) ∧ va_F A st t
def zJ (sh : zSh) (l : Launch) (y : MethodName) (cc : ByteArray) (nL : Nat) (ret : Option FieldType) (R : Room) (mc ms : Nat) (Q : Option zV → zM → Prop) (u1 u2 pc : Nat) (L : List (Option zV)) (st : List zV) (h : zM) : Prop :=
  ∀ (D : va_G) (g : zG) (p : Program) (e : Env) (s : State) (m : MethodId) (args : Array Value) (below : List Frame) (meth : Method) (c : Code) (A : Nat → Prop) (H : Heap) (locs : List Loc) (ls : Array Slot),
    zX y cc nL ret D g p s m args meth c A → zI sh D g A s.heap h H locs → zL g.1 nL L ls →
    W p l e R s m args below meth c H locs u1 u2 (MQ below (zQ sh D g A Q) args s mc ms A) (F0 m pc ls (st.map (zv g.1)))
def zT (sh : zSh) (l : Launch) (y : MethodName) (cc : ByteArray) (nL : Nat) (ret : Option FieldType) (rm : Room) (mc ms : Nat) (av : List zV) (h : zM) (Q : Option zV → zM → Prop) : Prop :=
  ∀ (D : va_G) (g : zG) (sz : Nat), Met l y (zws y cc nL ret) rm
    (fun v U => v = (av.map (zv g.1)).toArray ∧ U.heap.size = sz ∧ va_P D vwCl (zw sh g h) U.heap ∧ va_D (fun _ => True) (zw sh g h) ∧ (∀ c : Nat, h.1 ≤ c → g.1 (c : Int) = sz + (c - h.1)) ∧ va_K D vwCl (ztys g) U ∧ zStr g (va_A (zw sh g h) sz) U)
    (zQ sh D g (va_A (zw sh g h) sz) Q) mc ms (va_A (zw sh g h) sz)
def zd (cc : ByteArray) (pc : Nat) (i : Instr) (len n : Nat) : Prop := decode cc pc = .ok (i, len) ∧ pc + len = n
theorem zD_weak {A B : Nat → Prop} {ws : va_W} (h : va_D A ws) (hAB : ∀ q, A q → B q) : va_D B ws := h.weaken fun _ q _ => hAB q.1

section Z0
variable {p : Program} {l : Launch} {e : Env} {R : Room} {s : State} {m : MethodId} {args : Array Value} {below : List Frame} {meth : Method} {c : Code} {H : Heap} {locs : List Loc} {cells slots : Nat} {Q : State → Prop}
variable {cc : ByteArray} {pc : Nat} {ls : Array Slot} {rest : List Value} {D : va_G} {cl : List vw_C} {A : Nat → Prop} {a : Nat} {tys : List (ClassId × FieldType)} {ws : va_W} {H0 : Heap}
/-- a field is written; the heap stays as long as it is -/
theorem z_put (hexec : p.tables.exec = Jvm.exec) (hb : c.code = cc) {own C : String} {T : u_T} {N ci index : Nat} {Ts : List Cond} (hts : ∀ w ∈ Ts, w.before args s = true) (hin : ∀ w ∈ u_ws C T N, w ∈ Ts) (ty0 : Nat → FieldType) (hty : ∀ k, k < N → parseFieldDescriptor (T k).2.2.1 = some (ty0 k)) (hnm : ∀ a, a < N → ∀ b, b < N → a ≠ b → (T a).2.1 ≠ (T b).2.1) (hown : s.vm.findClass own = some m.cls) (hK : va_K D cl tys s) (hP : va_P D cl ws H) (hD : va_D A ws) (hS0 : va_S A H0 H locs) (q0 : Nat) {fs : List Value} (he : ws[q0]? = some (a, .inr (ci, fs))) (hc : cl[ci]? = some (C, T, N)) (k : Nat) (hk : k < N) (hlink : (Cond.fieldLink own index (T k).1 (T k).2.1 (T k).2.2.1).before args s = true) (hsame : ∀ x, s.fieldFound? (T k).1 (T k).2.1 (T k).2.2.1 = some x → s.fieldFound? (T k).1 (T k).2.1 (T k).2.2.1 = some x) (hfin : (T k).2.2.2 = false ∨ ((T k).2.2.2 = true ∧ meth.name = "<init>" ∧ (T k).1 = own)) {ty : FieldType} {v : Value} (hd : parseFieldDescriptor (T k).2.2.1 = some ty) (hn : narrow ty v = v) (hfit : fits ty v = true) (hl : k < fs.length)
    (hdg : decode cc pc = .ok (.putfield index, 3)) (kk : ∀ (H1 : Heap) (locs1 : List Loc), va_P D cl (ws.set q0 (a, .inr (ci, fs.set k v))) H1 → va_D A (ws.set q0 (a, .inr (ci, fs.set k v))) → va_S A H0 H1 locs1 → H1.size = H.size → W p l e R s m args below meth c H1 locs1 cells slots Q (F0 m (pc + 3) ls rest)) : W p l e R s m args below meth c H locs cells slots Q (F0 m pc ls (v :: .ref a :: rest)) := by
  have hap := va_apart (own := own) hts hin ty0 hty hnm hK hc
  obtain ⟨r, h1, cell, q1, q2, q3, q4⟩ := hP q0 _ he
  have hr : r = (C, T, N) := Option.some.inj (h1.symm.trans hc)
  subst hr
  obtain ⟨hS, hfc, kC, hkC, hkind⟩ := hK.1 ci _ hc
  obtain ⟨cf, kf, fi, f, hi, hsl⟩ := hS k hk
  have hlay := hts _ (hin _ (u_in_lay hk))
  have hst := (u_facts hfc hkC (u_lays hts hin hk) hi).1
  have go : ∀ (H' : Heap) (i : Nat), i = D.2 ci k → H'[a]? = some (cell.setSlot i v) → H'.size = H.size → (∀ q, q ≠ a → H'[q]? = H[q]?) → W p l e R s m args below meth c H' (locs ++ [⟨a, i⟩]) cells slots Q (F0 m (pc + 3) ls rest) := by
    intro H' i hi e1 e2 e3
    subst hi
    exact kk H' _ (hP.set hD he ⟨_, hc, t_OB.to (V := updV (vp_V fs) k v) ⟨_, e1, q2, q3, t_set q4 hap hk v⟩ (fun j _ => vp_updV_set hl v j)⟩ e3) (hD.set he) (hS0.put e2 e3 (hD.2 q0 _ he)) e2
  rcases hfin with hf | ⟨hf, hin2, hdecl⟩
  · unfold u_lay at hlay
    rw [if_neg (by rw [hf]; decide)] at hlay
    have h6 := u_store hfc hkC hkind hlay hi hd hn hfit
    exact W.putK hexec hb (f := f) ⟨hown, hlink, ⟨_, _, _, hsame _ hi⟩, hst⟩ (by rw [q2]; exact h6) q1 q3 (by rw [hsl]; exact k2_hasslot (q4 k hk)) rfl rfl hdg fun H' e1 e2 e3 => go H' f.slot hsl e1 e2 e3
  · unfold u_lay at hlay
    rw [if_pos hf] at hlay
    have hcf : m.cls = cf := by
      obtain ⟨_, _, c', _, _, _, -, -, hf', -, -, -, hown2, -⟩ := Cond.laysFinal_spec hlay
      have e1 : c' = cf := by have := hi.symm.trans hf'; simp at this; exact this.1.symm
      rw [hdecl] at hown2
      rw [← e1]; exact Option.some.inj (hown.symm.trans hown2)
    have h6 := u_fits hfc hkC hkind (Or.inr hlay) hi hd hn hfit
    exact W.putFinK hexec hb hown hlink (hsame _ hi) hst hcf hin2 (by rw [q2]; exact h6) q1 q3 (by rw [hsl]; exact k2_hasslot (q4 k hk)) rfl rfl hdg fun H' e1 e2 e3 => go H' f.slot hsl e1 e2 e3
theorem z_iast (hexec : p.tables.exec = Jvm.exec) (hb : c.code = cc) (hK : va_K D cl tys s) (hP : va_P D cl ws H) (hD : va_D A ws) (hS : va_S A H0 H locs) (q0 t0 : Nat) {cA : ClassId} {n : Nat} {f : Nat → Int32} (ha : ws[q0]? = some (a, .inl (cA, n, .inl f))) (ht : tys[t0]? = some (cA, .int)) {i : Int32} {x : Int32} (hin : vp_in i n) (hdg : decode cc pc = .ok (.iastore, 1))
    (kk : ∀ (H1 : Heap) (locs1 : List Loc), va_P D cl (ws.set q0 (a, .inl (cA, n, .inl (upd f i.toNatClampNeg x)))) H1 → va_D A (ws.set q0 (a, .inl (cA, n, .inl (upd f i.toNatClampNeg x)))) → va_S A H0 H1 locs1 → H1.size = H.size → W p l e R s m args below meth c H1 locs1 cells slots Q (F0 m (pc + 1) ls rest)) : W p l e R s m args below meth c H locs cells slots Q (F0 m pc ls (.int x :: .int i :: .ref a :: rest)) := by
  refine W.iast hexec hb (hP q0 _ ha) ((hK.2 t0 _ ht).1 n (fun j => .int (f j))) (fun q => by cases q) (by show ¬ (i < 0 ∨ (arrV _ _ _).slots.size ≤ _); rw [arrV_size]; exact hin) rfl rfl hdg fun H1 e z oq => ?_
  refine kk H1 _ (hP.set hD ha ?_ oq) (hD.set ha) (hS.put z oq (hD.2 q0 _ ha)) z
  show H1[a]? = some (vp_cell _ _)
  rw [e]
  rw [vp_cell_i, vp_cell_i, arrV_store]
  congr 2
  funext q
  by_cases hq : q = i.toNatClampNeg
  · subst hq
    simp [updV, upd]
  · simp [updV, upd, hq]
theorem z_zast (hexec : p.tables.exec = Jvm.exec) (hb : c.code = cc) (hK : va_K D cl tys s) (hP : va_P D cl ws H) (hD : va_D A ws) (hS : va_S A H0 H locs) (q0 t0 : Nat) {cA : ClassId} {n : Nat} {f : Nat → Int32} (ha : ws[q0]? = some (a, .inl (cA, n, .inl f))) (ht : tys[t0]? = some (cA, .boolean)) {i : Int32} {x : Int32} (hin : vp_in i n) (hdg : decode cc pc = .ok (.bastore, 1))
    (kk : ∀ (H1 : Heap) (locs1 : List Loc), va_P D cl (ws.set q0 (a, .inl (cA, n, .inl (upd f i.toNatClampNeg (vp_nar .boolean x))))) H1 → va_D A (ws.set q0 (a, .inl (cA, n, .inl (upd f i.toNatClampNeg (vp_nar .boolean x))))) → va_S A H0 H1 locs1 → H1.size = H.size → W p l e R s m args below meth c H1 locs1 cells slots Q (F0 m (pc + 1) ls rest)) : W p l e R s m args below meth c H locs cells slots Q (F0 m pc ls (.int x :: .int i :: .ref a :: rest)) := by
  refine W.zast hexec hb (hP q0 _ ha) ((hK.2 t0 _ ht).1 n (fun j => .int (f j))) (fun q => by cases q) (by show ¬ (i < 0 ∨ (arrV _ _ _).slots.size ≤ _); rw [arrV_size]; exact hin) rfl rfl hdg fun H1 e z oq => ?_
  refine kk H1 _ (hP.set hD ha ?_ oq) (hD.set ha) (hS.put z oq (hD.2 q0 _ ha)) z
  show H1[a]? = some (vp_cell _ _)
  rw [e]
  rw [vp_cell_i, vp_cell_i, arrV_store]
  congr 2
  funext q
  by_cases hq : q = i.toNatClampNeg
  · subst hq
    simp [updV, upd, vp_nar]
    try rfl
  · simp [updV, upd, hq]
end Z0

theorem zl_sl (ad : Int → Nat) (av : List zV) : lg_sl (av.map (zv ad)) = av.map fun v => Slot.val (zv ad v) := by
  induction av with
  | nil => rfl
  | cons v t ih =>
    have hc := zv_cat ad v
    unfold lg_sl at ih ⊢
    rw [List.map_cons, List.flatMap_cons, ih, hc]
    rfl
theorem zT_of {sh : zSh} {l : Launch} {y : MethodName} {cc : ByteArray} {nL : Nat} {ret : Option FieldType} {rm : Room} {mc ms : Nat} {av : List zV} {h : zM} {Q : Option zV → zM → Prop} (hy : plainName y.cls = true) {L0 : List (Option zV)} (hL : av.map some ++ List.replicate (nL - av.length) none = L0) (hn : av.length ≤ nL)
    (k : zJ sh l y cc nL ret rm mc ms Q 0 0 0 L0 [] h) : zT sh l y cc nL ret rm mc ms av h Q := by
  intro D g sz
  refine Met.ofW (cc := cc) (maxL := nL) (ret := ret) hy rfl ?_
  intro p e s m args below meth c s₁ B hml hv
  obtain ⟨rfl, hsz, hP, hD0, hg, hK, hZ⟩ := hv
  have hts := atoms_spec (ws := zws y cc nL ret) B.pre
  have hown : s.vm.findClass y.cls = some m.cls := findClass_of_methodNamed B.named
  have hnm : meth.name = y.name := (name_of_methodNamed B.named B.method).1
  subst hsz
  have hD := hD0.self (sz := s.heap.size)
  have hl := lv_entry (av.map (zv g.1)) (n := nL) (by rw [zl_sl]; simpa using hn)
  rw [lg_entry_eq]
  generalize hls : (lg_sl (av.map (zv g.1)) ++ List.replicate (nL - (lg_sl (av.map (zv g.1))).length) Slot.unset).toArray = ls at hl ⊢
  have hZL : zL g.1 nL L0 ls := by
    subst hL
    refine ⟨by simp; omega, hl.1, hl.2.1, fun q hq => ?_⟩
    obtain ⟨w, h1, h2⟩ := zl_mem.mp hq
    rw [← hls, h2]
    by_cases hq1 : q.1 < av.length
    · rw [List.getElem?_append_left (by simpa using hq1), List.getElem?_map, List.getElem?_eq_getElem hq1] at h1
      have h1 : some (some av[q.1]) = some (some w) := h1
      have hw : av[q.1] = w := Option.some.inj (Option.some.inj h1)
      rw [zl_sl, List.getElem?_toArray, List.getElem?_append_left (by simpa using hq1), List.getElem?_map, List.getElem?_eq_getElem hq1, hw]
      rfl
    · rw [List.getElem?_append_right (by simpa using hq1)] at h1
      have := List.mem_of_getElem? h1
      simp at this
  exact k D g p e s m _ below meth c _ s.heap [] ls ⟨B.exec, B.bytes, hml, B.returns, hown, fun w hw => hts w (List.mem_cons_of_mem _ hw), B.notSynchronized, hK, hnm, fun q hq => Or.inr hq, hZ⟩ ⟨hP, hD, va_S.rf, hg⟩ hZL

section ZJR
variable {sh : zSh} {l : Launch} {y : MethodName} {cc : ByteArray} {nL : Nat} {ret : Option FieldType} {R : Room} {mc ms : Nat} {Q : Option zV → zM → Prop} {u1 u2 pc n : Nat} {L : List (Option zV)} {st : List zV} {h : zM}
theorem zj_iconst {z : Int} (hd : zd cc pc (.iconst z) 1 n) (kk : zJ sh l y cc nL ret R mc ms Q u1 u2 n L (.inl z :: st) h) : zJ sh l y cc nL ret R mc ms Q u1 u2 pc L st h := by
  intro D g p e s m args below meth c A H locs ls X I Z
  have X0 := X
  obtain ⟨hx, hb, hml, hr, hown, hts, hlk, hK, hnm, hA, hZs⟩ := X0
  obtain ⟨hP, hD, hS, hg⟩ := id I
  refine lv_iconst hx hb hd.1 rfl ?_
  have K := kk D g p e s m args below meth c A H locs ls X I Z
  rw [← hd.2] at K
  exact K
theorem zj_bipush {z : Int} (hd : zd cc pc (.bipush z) 2 n) (hz : -128 ≤ z ∧ z ≤ 127) (kk : zJ sh l y cc nL ret R mc ms Q u1 u2 n L (.inl z :: st) h) : zJ sh l y cc nL ret R mc ms Q u1 u2 pc L st h := by
  intro D g p e s m args below meth c A H locs ls X I Z
  have X0 := X
  obtain ⟨hx, hb, hml, hr, hown, hts, hlk, hK, hnm, hA, hZs⟩ := X0
  obtain ⟨hP, hD, hS, hg⟩ := id I
  refine lv_bipush hx hb hd.1 (v := Int32.ofInt z) ?_ ?_
  · apply Int32.toInt_inj.mp
    rw [Int8.toInt_toInt32, Int8.toInt_ofInt_of_le (by omega) (by omega), Int32.toInt_ofInt_of_le (by omega) (by omega)]
  have K := kk D g p e s m args below meth c A H locs ls X I Z
  rw [← hd.2] at K
  exact K
theorem zj_sipush {z : Int} (hd : zd cc pc (.sipush z) 3 n) (hz : -32768 ≤ z ∧ z ≤ 32767) (kk : zJ sh l y cc nL ret R mc ms Q u1 u2 n L (.inl z :: st) h) : zJ sh l y cc nL ret R mc ms Q u1 u2 pc L st h := by
  intro D g p e s m args below meth c A H locs ls X I Z
  have X0 := X
  obtain ⟨hx, hb, hml, hr, hown, hts, hlk, hK, hnm, hA, hZs⟩ := X0
  obtain ⟨hP, hD, hS, hg⟩ := id I
  refine lv_sipush hx hb hd.1 (v := Int32.ofInt z) ?_ ?_
  · apply Int32.toInt_inj.mp
    rw [Int16.toInt_toInt32, Int16.toInt_ofInt_of_le (by omega) (by omega), Int32.toInt_ofInt_of_le (by omega) (by omega)]
  have K := kk D g p e s m args below meth c A H locs ls X I Z
  rw [← hd.2] at K
  exact K
theorem zj_ldc {z : Int} {i : Nat} (hd : zd cc pc (.ldc i) 2 n) (hw : Cond.constant y.cls i (Int32.ofInt z) ∈ zt) (kk : zJ sh l y cc nL ret R mc ms Q u1 u2 n L (.inl z :: st) h) : zJ sh l y cc nL ret R mc ms Q u1 u2 pc L st h := by
  intro D g p e s m args below meth c A H locs ls X I Z
  have X0 := X
  obtain ⟨hx, hb, hml, hr, hown, hts, hlk, hK, hnm, hA, hZs⟩ := X0
  obtain ⟨hP, hD, hS, hg⟩ := id I
  refine lv_ldc hx hb hown (hts _ hw) hd.1 ?_
  have K := kk D g p e s m args below meth c A H locs ls X I Z
  rw [← hd.2] at K
  exact K
theorem zj_ldc_w {z : Int} {i : Nat} (hd : zd cc pc (.ldc_w i) 3 n) (hw : Cond.constant y.cls i (Int32.ofInt z) ∈ zt) (kk : zJ sh l y cc nL ret R mc ms Q u1 u2 n L (.inl z :: st) h) : zJ sh l y cc nL ret R mc ms Q u1 u2 pc L st h := by
  intro D g p e s m args below meth c A H locs ls X I Z
  have X0 := X
  obtain ⟨hx, hb, hml, hr, hown, hts, hlk, hK, hnm, hA, hZs⟩ := X0
  obtain ⟨hP, hD, hS, hg⟩ := id I
  refine lv_ldcw hx hb hown (hts _ hw) hd.1 ?_
  have K := kk D g p e s m args below meth c A H locs ls X I Z
  rw [← hd.2] at K
  exact K
theorem zj_null  (hd : zd cc pc .aconst_null 1 n) (kk : zJ sh l y cc nL ret R mc ms Q u1 u2 n L (.inr (-1) :: st) h) : zJ sh l y cc nL ret R mc ms Q u1 u2 pc L st h := by
  intro D g p e s m args below meth c A H locs ls X I Z
  have X0 := X
  obtain ⟨hx, hb, hml, hr, hown, hts, hlk, hK, hnm, hA, hZs⟩ := X0
  obtain ⟨hP, hD, hS, hg⟩ := id I
  refine lv_null hx hb hd.1 ?_
  have K := kk D g p e s m args below meth c A H locs ls X I Z
  rw [← hd.2] at K
  exact K
theorem zj_iload_n {k : Fin 4} {x : Int} (hd : zd cc pc (.iload_n k) 1 n) (hl : L[k.val]? = some (some (.inl x))) (kk : zJ sh l y cc nL ret R mc ms Q u1 u2 n L (.inl x :: st) h) : zJ sh l y cc nL ret R mc ms Q u1 u2 pc L st h := by
  intro D g p e s m args below meth c A H locs ls X I Z
  have X0 := X
  obtain ⟨hx, hb, hml, hr, hown, hts, hlk, hK, hnm, hA, hZs⟩ := X0
  obtain ⟨hP, hD, hS, hg⟩ := id I
  refine lv_iload_n hx hb hd.1 rfl (zL_at Z hl) ?_
  have K := kk D g p e s m args below meth c A H locs ls X I Z
  rw [← hd.2] at K
  exact K
theorem zj_iload {k : Nat} {x : Int} (hd : zd cc pc (.iload k) 2 n) (hl : L[k]? = some (some (.inl x))) (kk : zJ sh l y cc nL ret R mc ms Q u1 u2 n L (.inl x :: st) h) : zJ sh l y cc nL ret R mc ms Q u1 u2 pc L st h := by
  intro D g p e s m args below meth c A H locs ls X I Z
  have X0 := X
  obtain ⟨hx, hb, hml, hr, hown, hts, hlk, hK, hnm, hA, hZs⟩ := X0
  obtain ⟨hP, hD, hS, hg⟩ := id I
  refine lv_iload hx hb hd.1 (zL_at Z hl) ?_
  have K := kk D g p e s m args below meth c A H locs ls X I Z
  rw [← hd.2] at K
  exact K
theorem zj_aload_n {k : Fin 4} {x : Int} (hd : zd cc pc (.aload_n k) 1 n) (hl : L[k.val]? = some (some (.inr x))) (hx1 : ¬ x = -1) (kk : zJ sh l y cc nL ret R mc ms Q u1 u2 n L (.inr x :: st) h) : zJ sh l y cc nL ret R mc ms Q u1 u2 pc L st h := by
  intro D g p e s m args below meth c A H locs ls X I Z
  have X0 := X
  obtain ⟨hx, hb, hml, hr, hown, hts, hlk, hK, hnm, hA, hZs⟩ := X0
  obtain ⟨hP, hD, hS, hg⟩ := id I
  have hq := zL_at Z hl
  rw [zv_ref _ hx1] at hq
  refine lv_aload_n hx hb hd.1 rfl hq ?_
  have K := kk D g p e s m args below meth c A H locs ls X I Z
  rw [← hd.2, List.map_cons, zv_ref _ hx1] at K
  exact K
theorem zj_aload {k : Nat} {x : Int} (hd : zd cc pc (.aload k) 2 n) (hl : L[k]? = some (some (.inr x))) (hx1 : ¬ x = -1) (kk : zJ sh l y cc nL ret R mc ms Q u1 u2 n L (.inr x :: st) h) : zJ sh l y cc nL ret R mc ms Q u1 u2 pc L st h := by
  intro D g p e s m args below meth c A H locs ls X I Z
  have X0 := X
  obtain ⟨hx, hb, hml, hr, hown, hts, hlk, hK, hnm, hA, hZs⟩ := X0
  obtain ⟨hP, hD, hS, hg⟩ := id I
  have hq := zL_at Z hl
  rw [zv_ref _ hx1] at hq
  refine lv_aload hx hb hd.1 hq ?_
  have K := kk D g p e s m args below meth c A H locs ls X I Z
  rw [← hd.2, List.map_cons, zv_ref _ hx1] at K
  exact K
theorem zj_istore_n {k : Fin 4} {x : Int} {L' : List (Option zV)} (hd : zd cc pc (.istore_n k) 1 n) (hi : k.val < nL) (hL : L.set k.val (some (.inl x)) = L') (kk : zJ sh l y cc nL ret R mc ms Q u1 u2 n L' st h) : zJ sh l y cc nL ret R mc ms Q u1 u2 pc L (.inl x :: st) h := by
  intro D g p e s m args below meth c A H locs ls X I Z
  have X0 := X
  obtain ⟨hx, hb, hml, hr, hown, hts, hlk, hK, hnm, hA, hZs⟩ := X0
  obtain ⟨hP, hD, hS, hg⟩ := id I
  refine lv_istore_n hx hb hd.1 rfl Z.2 hi rfl fun ls' hl' => ?_
  have K := kk D g p e s m args below meth c A H locs ls' X I (zL_set Z hi hL hl')
  rw [← hd.2] at K
  exact K
theorem zj_istore {k : Nat} {x : Int} {L' : List (Option zV)} (hd : zd cc pc (.istore k) 2 n) (hi : k < nL) (hL : L.set k (some (.inl x)) = L') (kk : zJ sh l y cc nL ret R mc ms Q u1 u2 n L' st h) : zJ sh l y cc nL ret R mc ms Q u1 u2 pc L (.inl x :: st) h := by
  intro D g p e s m args below meth c A H locs ls X I Z
  have X0 := X
  obtain ⟨hx, hb, hml, hr, hown, hts, hlk, hK, hnm, hA, hZs⟩ := X0
  obtain ⟨hP, hD, hS, hg⟩ := id I
  refine lv_istore hx hb hd.1 Z.2 hi rfl fun ls' hl' => ?_
  have K := kk D g p e s m args below meth c A H locs ls' X I (zL_set Z hi hL hl')
  rw [← hd.2] at K
  exact K
theorem zj_astore_n {k : Fin 4} {x : Int} {L' : List (Option zV)} (hd : zd cc pc (.astore_n k) 1 n) (hx1 : ¬ x = -1) (hi : k.val < nL) (hL : L.set k.val (some (.inr x)) = L') (kk : zJ sh l y cc nL ret R mc ms Q u1 u2 n L' st h) : zJ sh l y cc nL ret R mc ms Q u1 u2 pc L (.inr x :: st) h := by
  intro D g p e s m args below meth c A H locs ls X I Z
  have X0 := X
  obtain ⟨hx, hb, hml, hr, hown, hts, hlk, hK, hnm, hA, hZs⟩ := X0
  obtain ⟨hP, hD, hS, hg⟩ := id I
  rw [List.map_cons, zv_ref _ hx1]
  refine lv_astore_n hx hb hd.1 rfl Z.2 hi rfl fun ls' hl' => ?_
  have K := kk D g p e s m args below meth c A H locs ls' X I (zL_set Z hi hL (by rw [zv_ref _ hx1]; exact hl'))
  rw [← hd.2] at K
  exact K
theorem zj_astore {k : Nat} {x : Int} {L' : List (Option zV)} (hd : zd cc pc (.astore k) 2 n) (hx1 : ¬ x = -1) (hi : k < nL) (hL : L.set k (some (.inr x)) = L') (kk : zJ sh l y cc nL ret R mc ms Q u1 u2 n L' st h) : zJ sh l y cc nL ret R mc ms Q u1 u2 pc L (.inr x :: st) h := by
  intro D g p e s m args below meth c A H locs ls X I Z
  have X0 := X
  obtain ⟨hx, hb, hml, hr, hown, hts, hlk, hK, hnm, hA, hZs⟩ := X0
  obtain ⟨hP, hD, hS, hg⟩ := id I
  rw [List.map_cons, zv_ref _ hx1]
  refine lv_astore hx hb hd.1 Z.2 hi rfl fun ls' hl' => ?_
  have K := kk D g p e s m args below meth c A H locs ls' X I (zL_set Z hi hL (by rw [zv_ref _ hx1]; exact hl'))
  rw [← hd.2] at K
  exact K
theorem zj_iinc {k : Nat} {x d : Int} {L' : List (Option zV)} (hd : zd cc pc (.iinc k d) 3 n) (hl : L[k]? = some (some (.inl x))) (hi : k < nL) (hL : L.set k (some (.inl (x + d))) = L') (kk : zJ sh l y cc nL ret R mc ms Q u1 u2 n L' st h) : zJ sh l y cc nL ret R mc ms Q u1 u2 pc L st h := by
  intro D g p e s m args below meth c A H locs ls X I Z
  have X0 := X
  obtain ⟨hx, hb, hml, hr, hown, hts, hlk, hK, hnm, hA, hZs⟩ := X0
  obtain ⟨hP, hD, hS, hg⟩ := id I
  obtain ⟨j, hj⟩ := List.getElem?_of_mem (zl_mem (q := (k, zv g.1 (.inl x))).mpr ⟨_, hl, rfl⟩)
  refine lv_iinc (v := Int32.ofInt (x + d)) hx hb hd.1 Z.2 hj (Int32.ofInt_add x d).symm hi rfl fun ls' hl' => ?_
  have K := kk D g p e s m args below meth c A H locs ls' X I (zL_set Z hi hL hl')
  rw [← hd.2] at K
  exact K
theorem zj_dup {v : zV} (hd : zd cc pc .dup 1 n) (kk : zJ sh l y cc nL ret R mc ms Q u1 u2 n L (v :: v :: st) h) : zJ sh l y cc nL ret R mc ms Q u1 u2 pc L (v :: st) h := by
  intro D g p e s m args below meth c A H locs ls X I Z
  have X0 := X
  obtain ⟨hx, hb, hml, hr, hown, hts, hlk, hK, hnm, hA, hZs⟩ := X0
  obtain ⟨hP, hD, hS, hg⟩ := id I
  refine lv_dup hx hb hd.1 (zv_cat _ _) ?_
  have K := kk D g p e s m args below meth c A H locs ls X I Z
  rw [← hd.2] at K
  exact K
theorem zj_pop {v : zV} (hd : zd cc pc .pop 1 n) (kk : zJ sh l y cc nL ret R mc ms Q u1 u2 n L st h) : zJ sh l y cc nL ret R mc ms Q u1 u2 pc L (v :: st) h := by
  intro D g p e s m args below meth c A H locs ls X I Z
  have X0 := X
  obtain ⟨hx, hb, hml, hr, hown, hts, hlk, hK, hnm, hA, hZs⟩ := X0
  obtain ⟨hP, hD, hS, hg⟩ := id I
  refine lv_pop hx hb hd.1 (zv_cat _ _) ?_
  have K := kk D g p e s m args below meth c A H locs ls X I Z
  rw [← hd.2] at K
  exact K
theorem zj_dup_x1 {v w : zV} (hd : zd cc pc .dup_x1 1 n) (kk : zJ sh l y cc nL ret R mc ms Q u1 u2 n L (v :: w :: v :: st) h) : zJ sh l y cc nL ret R mc ms Q u1 u2 pc L (v :: w :: st) h := by
  intro D g p e s m args below meth c A H locs ls X I Z
  have X0 := X
  obtain ⟨hx, hb, hml, hr, hown, hts, hlk, hK, hnm, hA, hZs⟩ := X0
  obtain ⟨hP, hD, hS, hg⟩ := id I
  refine lv_dup_x1 hx hb hd.1 (zv_cat _ _) (zv_cat _ _) ?_
  have K := kk D g p e s m args below meth c A H locs ls X I Z
  rw [← hd.2] at K
  exact K
theorem zj_dup_x2 {v w x : zV} (hd : zd cc pc .dup_x2 1 n) (kk : zJ sh l y cc nL ret R mc ms Q u1 u2 n L (v :: w :: x :: v :: st) h) : zJ sh l y cc nL ret R mc ms Q u1 u2 pc L (v :: w :: x :: st) h := by
  intro D g p e s m args below meth c A H locs ls X I Z
  have X0 := X
  obtain ⟨hx, hb, hml, hr, hown, hts, hlk, hK, hnm, hA, hZs⟩ := X0
  obtain ⟨hP, hD, hS, hg⟩ := id I
  refine lv_dup_x2 hx hb hd.1 (zv_cat _ _) (zv_cat _ _) (zv_cat _ _) ?_
  have K := kk D g p e s m args below meth c A H locs ls X I Z
  rw [← hd.2] at K
  exact K
theorem zj_dup2 {v w : zV} (hd : zd cc pc .dup2 1 n) (kk : zJ sh l y cc nL ret R mc ms Q u1 u2 n L (v :: w :: v :: w :: st) h) : zJ sh l y cc nL ret R mc ms Q u1 u2 pc L (v :: w :: st) h := by
  intro D g p e s m args below meth c A H locs ls X I Z
  have X0 := X
  obtain ⟨hx, hb, hml, hr, hown, hts, hlk, hK, hnm, hA, hZs⟩ := X0
  obtain ⟨hP, hD, hS, hg⟩ := id I
  refine lv_dup2_11 hx hb hd.1 (zv_cat _ _) (zv_cat _ _) ?_
  have K := kk D g p e s m args below meth c A H locs ls X I Z
  rw [← hd.2] at K
  exact K
theorem zj_iadd {a b : Int} (hd : zd cc pc .iadd 1 n) (kk : zJ sh l y cc nL ret R mc ms Q u1 u2 n L (.inl (a + b) :: st) h) : zJ sh l y cc nL ret R mc ms Q u1 u2 pc L (.inl b :: .inl a :: st) h := by
  intro D g p e s m args below meth c A H locs ls X I Z
  have X0 := X
  obtain ⟨hx, hb, hml, hr, hown, hts, hlk, hK, hnm, hA, hZs⟩ := X0
  obtain ⟨hP, hD, hS, hg⟩ := id I
  refine lv_iadd hx hb hd.1 ?_
  rw [← Int32.ofInt_add a b]
  have K := kk D g p e s m args below meth c A H locs ls X I Z
  rw [← hd.2] at K
  exact K
theorem zj_isub {a b : Int} (hd : zd cc pc .isub 1 n) (kk : zJ sh l y cc nL ret R mc ms Q u1 u2 n L (.inl (a - b) :: st) h) : zJ sh l y cc nL ret R mc ms Q u1 u2 pc L (.inl b :: .inl a :: st) h := by
  intro D g p e s m args below meth c A H locs ls X I Z
  have X0 := X
  obtain ⟨hx, hb, hml, hr, hown, hts, hlk, hK, hnm, hA, hZs⟩ := X0
  obtain ⟨hP, hD, hS, hg⟩ := id I
  refine lv_isub hx hb hd.1 ?_
  rw [← Int32.ofInt_sub a b]
  have K := kk D g p e s m args below meth c A H locs ls X I Z
  rw [← hd.2] at K
  exact K
theorem zj_imul {a b : Int} (hd : zd cc pc .imul 1 n) (kk : zJ sh l y cc nL ret R mc ms Q u1 u2 n L (.inl (a * b) :: st) h) : zJ sh l y cc nL ret R mc ms Q u1 u2 pc L (.inl b :: .inl a :: st) h := by
  intro D g p e s m args below meth c A H locs ls X I Z
  have X0 := X
  obtain ⟨hx, hb, hml, hr, hown, hts, hlk, hK, hnm, hA, hZs⟩ := X0
  obtain ⟨hP, hD, hS, hg⟩ := id I
  refine lv_imul hx hb hd.1 ?_
  rw [← Int32.ofInt_mul a b]
  have K := kk D g p e s m args below meth c A H locs ls X I Z
  rw [← hd.2] at K
  exact K
theorem zj_ineg {a : Int} (hd : zd cc pc .ineg 1 n) (kk : zJ sh l y cc nL ret R mc ms Q u1 u2 n L (.inl (-a) :: st) h) : zJ sh l y cc nL ret R mc ms Q u1 u2 pc L (.inl a :: st) h := by
  intro D g p e s m args below meth c A H locs ls X I Z
  have X0 := X
  obtain ⟨hx, hb, hml, hr, hown, hts, hlk, hK, hnm, hA, hZs⟩ := X0
  obtain ⟨hP, hD, hS, hg⟩ := id I
  refine lv_ineg hx hb hd.1 ?_
  rw [← Int32.ofInt_neg a]
  have K := kk D g p e s m args below meth c A H locs ls X I Z
  rw [← hd.2] at K
  exact K
theorem zin_i {a : Int} (h : zin a) : (Int32.ofInt a).toInt = a := Int32.toInt_ofInt_of_le (by omega) (by omega)
theorem zin_inj {a b : Int} (ha : zin a) (hb : zin b) : Int32.ofInt a = Int32.ofInt b ↔ a = b := ⟨fun e => by rw [← zin_i ha, ← zin_i hb, e], fun e => by rw [e]⟩
theorem zin_lt {a b : Int} (ha : zin a) (hb : zin b) : Int32.ofInt a < Int32.ofInt b ↔ a < b := by rw [Int32.lt_iff_toInt_lt, zin_i ha, zin_i hb]
theorem zin_le {a b : Int} (ha : zin a) (hb : zin b) : Int32.ofInt a ≤ Int32.ofInt b ↔ a ≤ b := by rw [Int32.le_iff_toInt_le, zin_i ha, zin_i hb]
theorem zin_0 : zin 0 := by decide
theorem zi_div {a b : Int} (ha : zin a) (hb : zin b) : Int32.ofInt a / Int32.ofInt b = Int32.ofInt (a.tdiv b) := (Int32.ofInt_tdiv ha.1 ha.2 hb.1 hb.2).symm
theorem zi_rem {a b : Int} (ha : zin a) (hb : zin b) : Int32.ofInt a - Int32.ofInt a / Int32.ofInt b * Int32.ofInt b = Int32.ofInt (a.tmod b) := by
  rw [zi_div ha hb, ← Int32.ofInt_mul, ← Int32.ofInt_sub]
  congr 1
  have := Int.mul_tdiv_add_tmod a b
  rw [Int.mul_comm] at this
  omega
theorem zj_idiv {a b : Int} (hd : zd cc pc .idiv 1 n) (ha : zin a) (hb2 : zin b) (h0 : ¬ b = 0) (kk : zJ sh l y cc nL ret R mc ms Q u1 u2 n L (.inl (a.tdiv b) :: st) h) : zJ sh l y cc nL ret R mc ms Q u1 u2 pc L (.inl b :: .inl a :: st) h := by
  intro D g p e s m args below meth c A H locs ls X I Z
  have X0 := X
  obtain ⟨hx, hb, hml, hr, hown, hts, hlk, hK, hnm, hA, hZs⟩ := X0
  obtain ⟨hP, hD, hS, hg⟩ := id I
  refine lv_idiv hx hb hd.1 (fun e => h0 ((zin_inj hb2 zin_0).mp e)) ?_
  rw [zi_div ha hb2]
  have K := kk D g p e s m args below meth c A H locs ls X I Z
  rw [← hd.2] at K
  exact K
theorem zj_irem {a b : Int} (hd : zd cc pc .irem 1 n) (ha : zin a) (hb2 : zin b) (h0 : ¬ b = 0) (kk : zJ sh l y cc nL ret R mc ms Q u1 u2 n L (.inl (a.tmod b) :: st) h) : zJ sh l y cc nL ret R mc ms Q u1 u2 pc L (.inl b :: .inl a :: st) h := by
  intro D g p e s m args below meth c A H locs ls X I Z
  have X0 := X
  obtain ⟨hx, hb, hml, hr, hown, hts, hlk, hK, hnm, hA, hZs⟩ := X0
  obtain ⟨hP, hD, hS, hg⟩ := id I
  refine lv_irem hx hb hd.1 (fun e => h0 ((zin_inj hb2 zin_0).mp e)) ?_
  rw [zi_rem ha hb2]
  have K := kk D g p e s m args below meth c A H locs ls X I Z
  rw [← hd.2] at K
  exact K
theorem zj_idivP {a b : Int} (hd : zd cc pc .idiv 1 n) (ha : 0 ≤ a ∧ a ≤ 2147483647) (hb2 : 0 < b ∧ b ≤ 2147483647) (kk : zJ sh l y cc nL ret R mc ms Q u1 u2 n L (.inl (a / b) :: st) h) : zJ sh l y cc nL ret R mc ms Q u1 u2 pc L (.inl b :: .inl a :: st) h := by
  intro D g p e s m args below meth c A H locs ls X I Z
  have X0 := X
  obtain ⟨hx, hb, hml, hr, hown, hts, hlk, hK, hnm, hA, hZs⟩ := X0
  obtain ⟨hP, hD, hS, hg⟩ := id I
  refine lv_idiv hx hb hd.1 (fun e => absurd ((zin_inj (show zin b by omega) zin_0).mp e) (by omega)) ?_
  rw [zi_div (show zin a by omega) (show zin b by omega), Int.tdiv_eq_ediv_of_nonneg ha.1]
  have K := kk D g p e s m args below meth c A H locs ls X I Z
  rw [← hd.2] at K
  exact K
theorem zj_iremP {a b : Int} (hd : zd cc pc .irem 1 n) (ha : 0 ≤ a ∧ a ≤ 2147483647) (hb2 : 0 < b ∧ b ≤ 2147483647) (kk : zJ sh l y cc nL ret R mc ms Q u1 u2 n L (.inl (a % b) :: st) h) : zJ sh l y cc nL ret R mc ms Q u1 u2 pc L (.inl b :: .inl a :: st) h := by
  intro D g p e s m args below meth c A H locs ls X I Z
  have X0 := X
  obtain ⟨hx, hb, hml, hr, hown, hts, hlk, hK, hnm, hA, hZs⟩ := X0
  obtain ⟨hP, hD, hS, hg⟩ := id I
  refine lv_irem hx hb hd.1 (fun e => absurd ((zin_inj (show zin b by omega) zin_0).mp e) (by omega)) ?_
  rw [zi_rem (show zin a by omega) (show zin b by omega), Int.tmod_eq_emod_of_nonneg ha.1]
  have K := kk D g p e s m args below meth c A H locs ls X I Z
  rw [← hd.2] at K
  exact K
def zand_ (x y : Int32) : Int32 := x &&& y
def zand (a b : Int) : Int := (zand_ (Int32.ofInt a) (Int32.ofInt b)).toInt
theorem zand_in (a b : Int) : zin (zand a b) := by
  have h1 := Int32.toInt_lt (zand_ (Int32.ofInt a) (Int32.ofInt b))
  have h2 := Int32.le_toInt (zand_ (Int32.ofInt a) (Int32.ofInt b))
  unfold zand
  omega
def zor_ (x y : Int32) : Int32 := x ||| y
def zor (a b : Int) : Int := (zor_ (Int32.ofInt a) (Int32.ofInt b)).toInt
theorem zor_in (a b : Int) : zin (zor a b) := by
  have h1 := Int32.toInt_lt (zor_ (Int32.ofInt a) (Int32.ofInt b))
  have h2 := Int32.le_toInt (zor_ (Int32.ofInt a) (Int32.ofInt b))
  unfold zor
  omega
def zxor_ (x y : Int32) : Int32 := x ^^^ y
def zxor (a b : Int) : Int := (zxor_ (Int32.ofInt a) (Int32.ofInt b)).toInt
theorem zxor_in (a b : Int) : zin (zxor a b) := by
  have h1 := Int32.toInt_lt (zxor_ (Int32.ofInt a) (Int32.ofInt b))
  have h2 := Int32.le_toInt (zxor_ (Int32.ofInt a) (Int32.ofInt b))
  unfold zxor
  omega
def zshl_ (x y : Int32) : Int32 := x <<< (y &&& 31)
def zshl (a b : Int) : Int := (zshl_ (Int32.ofInt a) (Int32.ofInt b)).toInt
theorem zshl_in (a b : Int) : zin (zshl a b) := by
  have h1 := Int32.toInt_lt (zshl_ (Int32.ofInt a) (Int32.ofInt b))
  have h2 := Int32.le_toInt (zshl_ (Int32.ofInt a) (Int32.ofInt b))
  unfold zshl
  omega
def zshr_ (x y : Int32) : Int32 := x >>> (y &&& 31)
def zshr (a b : Int) : Int := (zshr_ (Int32.ofInt a) (Int32.ofInt b)).toInt
theorem zshr_in (a b : Int) : zin (zshr a b) := by
  have h1 := Int32.toInt_lt (zshr_ (Int32.ofInt a) (Int32.ofInt b))
  have h2 := Int32.le_toInt (zshr_ (Int32.ofInt a) (Int32.ofInt b))
  unfold zshr
  omega
def zushr_ (x y : Int32) : Int32 := (x.toUInt32 >>> (y.toUInt32 &&& Int32.toUInt32 31)).toInt32
def zushr (a b : Int) : Int := (zushr_ (Int32.ofInt a) (Int32.ofInt b)).toInt
theorem zushr_in (a b : Int) : zin (zushr a b) := by
  have h1 := Int32.toInt_lt (zushr_ (Int32.ofInt a) (Int32.ofInt b))
  have h2 := Int32.le_toInt (zushr_ (Int32.ofInt a) (Int32.ofInt b))
  unfold zushr
  omega
theorem zj_iand {a b : Int} (hd : zd cc pc .iand 1 n) (kk : zJ sh l y cc nL ret R mc ms Q u1 u2 n L (.inl (zand a b) :: st) h) : zJ sh l y cc nL ret R mc ms Q u1 u2 pc L (.inl b :: .inl a :: st) h := by
  intro D g p e s m args below meth c A H locs ls X I Z
  have X0 := X
  obtain ⟨hx, hb, hml, hr, hown, hts, hlk, hK, hnm, hA, hZs⟩ := X0
  obtain ⟨hP, hD, hS, hg⟩ := id I
  refine lv_iand hx hb hd.1 ?_
  have K := kk D g p e s m args below meth c A H locs ls X I Z
  rw [← hd.2, List.map_cons] at K
  simp only [zv, zand, zand_, Int32.ofInt_toInt] at K
  exact K
theorem zj_ior {a b : Int} (hd : zd cc pc .ior 1 n) (kk : zJ sh l y cc nL ret R mc ms Q u1 u2 n L (.inl (zor a b) :: st) h) : zJ sh l y cc nL ret R mc ms Q u1 u2 pc L (.inl b :: .inl a :: st) h := by
  intro D g p e s m args below meth c A H locs ls X I Z
  have X0 := X
  obtain ⟨hx, hb, hml, hr, hown, hts, hlk, hK, hnm, hA, hZs⟩ := X0
  obtain ⟨hP, hD, hS, hg⟩ := id I
  refine lv_ior hx hb hd.1 ?_
  have K := kk D g p e s m args below meth c A H locs ls X I Z
  rw [← hd.2, List.map_cons] at K
  simp only [zv, zor, zor_, Int32.ofInt_toInt] at K
  exact K
theorem zj_ixor {a b : Int} (hd : zd cc pc .ixor 1 n) (kk : zJ sh l y cc nL ret R mc ms Q u1 u2 n L (.inl (zxor a b) :: st) h) : zJ sh l y cc nL ret R mc ms Q u1 u2 pc L (.inl b :: .inl a :: st) h := by
  intro D g p e s m args below meth c A H locs ls X I Z
  have X0 := X
  obtain ⟨hx, hb, hml, hr, hown, hts, hlk, hK, hnm, hA, hZs⟩ := X0
  obtain ⟨hP, hD, hS, hg⟩ := id I
  refine lv_ixor hx hb hd.1 ?_
  have K := kk D g p e s m args below meth c A H locs ls X I Z
  rw [← hd.2, List.map_cons] at K
  simp only [zv, zxor, zxor_, Int32.ofInt_toInt] at K
  exact K
theorem zj_ishl {a b : Int} (hd : zd cc pc .ishl 1 n) (kk : zJ sh l y cc nL ret R mc ms Q u1 u2 n L (.inl (zshl a b) :: st) h) : zJ sh l y cc nL ret R mc ms Q u1 u2 pc L (.inl b :: .inl a :: st) h := by
  intro D g p e s m args below meth c A H locs ls X I Z
  have X0 := X
  obtain ⟨hx, hb, hml, hr, hown, hts, hlk, hK, hnm, hA, hZs⟩ := X0
  obtain ⟨hP, hD, hS, hg⟩ := id I
  refine lv_ishl hx hb hd.1 ?_
  have K := kk D g p e s m args below meth c A H locs ls X I Z
  rw [← hd.2, List.map_cons] at K
  simp only [zv, zshl, zshl_, Int32.ofInt_toInt] at K
  exact K
theorem zj_ishr {a b : Int} (hd : zd cc pc .ishr 1 n) (kk : zJ sh l y cc nL ret R mc ms Q u1 u2 n L (.inl (zshr a b) :: st) h) : zJ sh l y cc nL ret R mc ms Q u1 u2 pc L (.inl b :: .inl a :: st) h := by
  intro D g p e s m args below meth c A H locs ls X I Z
  have X0 := X
  obtain ⟨hx, hb, hml, hr, hown, hts, hlk, hK, hnm, hA, hZs⟩ := X0
  obtain ⟨hP, hD, hS, hg⟩ := id I
  refine lv_ishr hx hb hd.1 ?_
  have K := kk D g p e s m args below meth c A H locs ls X I Z
  rw [← hd.2, List.map_cons] at K
  simp only [zv, zshr, zshr_, Int32.ofInt_toInt] at K
  exact K
theorem zj_iushr {a b : Int} (hd : zd cc pc .iushr 1 n) (kk : zJ sh l y cc nL ret R mc ms Q u1 u2 n L (.inl (zushr a b) :: st) h) : zJ sh l y cc nL ret R mc ms Q u1 u2 pc L (.inl b :: .inl a :: st) h := by
  intro D g p e s m args below meth c A H locs ls X I Z
  have X0 := X
  obtain ⟨hx, hb, hml, hr, hown, hts, hlk, hK, hnm, hA, hZs⟩ := X0
  obtain ⟨hP, hD, hS, hg⟩ := id I
  refine lv_iushr hx hb hd.1 (v := Int32.ofInt (zushr a b)) ?_ ?_
  · simp only [zushr, zushr_, Int32.ofInt_toInt]
  have K := kk D g p e s m args below meth c A H locs ls X I Z
  rw [← hd.2] at K
  exact K
theorem zj_i2c {a : Int} (hd : zd cc pc .i2c 1 n) (ha : 0 ≤ a ∧ a ≤ 65535) (kk : zJ sh l y cc nL ret R mc ms Q u1 u2 n L (.inl a :: st) h) : zJ sh l y cc nL ret R mc ms Q u1 u2 pc L (.inl a :: st) h := by
  intro D g p e s m args below meth c A H locs ls X I Z
  have X0 := X
  obtain ⟨hx, hb, hml, hr, hown, hts, hlk, hK, hnm, hA, hZs⟩ := X0
  obtain ⟨hP, hD, hS, hg⟩ := id I
  refine lv_i2c hx hb hd.1 (v := Int32.ofInt a) ?_ ?_
  · obtain ⟨k, rfl⟩ : ∃ k : Nat, a = k := ⟨a.toNat, by omega⟩
    have h2 := (pk_charN (q := k) (by omega)).1
    rw [Int32.ofInt_eq_ofNat]
    have h3 := pk_char (nI k)
    rw [pk_tn (by omega), Nat.mod_eq_of_lt (by omega)] at h3
    exact h3
  have K := kk D g p e s m args below meth c A H locs ls X I Z
  rw [← hd.2] at K
  exact K
theorem zj_top {a b : Int} (e : Int32.ofInt a = Int32.ofInt b) (kk : zJ sh l y cc nL ret R mc ms Q u1 u2 pc L (.inl b :: st) h) : zJ sh l y cc nL ret R mc ms Q u1 u2 pc L (.inl a :: st) h := by
  intro D g p e1 s m args below meth c A H locs ls X I Z
  have K := kk D g p e1 s m args below meth c A H locs ls X I Z
  have e2 : zv g.1 (.inl a) = zv g.1 (.inl b) := congrArg Value.int e
  rw [List.map_cons, e2, ← List.map_cons]
  exact K
def zwp (a : Int) : Int := (Int32.ofInt a).toInt
theorem zwp_in (a : Int) : zin (zwp a) := by
  have h1 := Int32.toInt_lt (Int32.ofInt a)
  have h2 := Int32.le_toInt (Int32.ofInt a)
  unfold zwp
  omega
theorem zwp_id {a : Int} (h : zin a) : zwp a = a := zin_i h
theorem zj_wrap {a : Int} (kk : zJ sh l y cc nL ret R mc ms Q u1 u2 pc L (.inl (zwp a) :: st) h) : zJ sh l y cc nL ret R mc ms Q u1 u2 pc L (.inl a :: st) h := zj_top (by unfold zwp; rw [Int32.ofInt_toInt]) kk
theorem zj_eq {L' : List (Option zV)} {st' : List zV} (e1 : L = L') (e2 : st = st') (kk : zJ sh l y cc nL ret R mc ms Q u1 u2 pc L' st' h) : zJ sh l y cc nL ret R mc ms Q u1 u2 pc L st h := by subst e1; subst e2; exact kk
theorem zj_name {a : Int} (kk : ∀ b, b = a → zJ sh l y cc nL ret R mc ms Q u1 u2 pc L (.inl b :: st) h) : zJ sh l y cc nL ret R mc ms Q u1 u2 pc L (.inl a :: st) h := kk a rfl
theorem zj_goto {off : Int} {t : Nat} (hd : zd cc pc (.goto off) 3 n) (ht : (pc : Int) + off = (t : Int)) (kk : zJ sh l y cc nL ret R mc ms Q u1 u2 t L st h) : zJ sh l y cc nL ret R mc ms Q u1 u2 pc L st h := by
  intro D g p e s m args below meth c A H locs ls X I Z
  have X0 := X
  obtain ⟨hx, hb, hml, hr, hown, hts, hlk, hK, hnm, hA, hZs⟩ := X0
  obtain ⟨hP, hD, hS, hg⟩ := id I
  exact lv_goto hx hb hd.1 ht (kk D g p e s m args below meth c A H locs ls X I Z)
theorem zj_icmp_eq {a b off : Int} {t : Nat} (hd : zd cc pc (.if_icmp .eq off) 3 n) (ht : (pc : Int) + off = (t : Int)) (ha : zin a) (hb2 : zin b) (kt : a = b → zJ sh l y cc nL ret R mc ms Q u1 u2 t L st h) (kf : ¬ a = b → zJ sh l y cc nL ret R mc ms Q u1 u2 n L st h) : zJ sh l y cc nL ret R mc ms Q u1 u2 pc L (.inl b :: .inl a :: st) h := by
  intro D g p e s m args below meth c A H locs ls X I Z
  have X0 := X
  obtain ⟨hx, hb, hml, hr, hown, hts, hlk, hK, hnm, hA, hZs⟩ := X0
  obtain ⟨hP, hD, hS, hg⟩ := id I
  refine lv_icmp_eq hx hb hd.1 ht (fun q => kt ((zin_inj ha hb2).mp q) D g p e s m args below meth c A H locs ls X I Z) (fun q => ?_)
  have K := kf (fun z => q ((zin_inj ha hb2).mpr z)) D g p e s m args below meth c A H locs ls X I Z
  rw [← hd.2] at K
  exact K
theorem zj_if_eq {a off : Int} {t : Nat} (hd : zd cc pc (.ifCond .eq off) 3 n) (ht : (pc : Int) + off = (t : Int)) (ha : zin a) (kt : a = 0 → zJ sh l y cc nL ret R mc ms Q u1 u2 t L st h) (kf : ¬ a = 0 → zJ sh l y cc nL ret R mc ms Q u1 u2 n L st h) : zJ sh l y cc nL ret R mc ms Q u1 u2 pc L (.inl a :: st) h := by
  intro D g p e s m args below meth c A H locs ls X I Z
  have X0 := X
  obtain ⟨hx, hb, hml, hr, hown, hts, hlk, hK, hnm, hA, hZs⟩ := X0
  obtain ⟨hP, hD, hS, hg⟩ := id I
  refine lv_if_eq hx hb hd.1 ht (fun q => kt ((zin_inj ha zin_0).mp q) D g p e s m args below meth c A H locs ls X I Z) (fun q => ?_)
  have K := kf (fun z => q ((zin_inj ha zin_0).mpr z)) D g p e s m args below meth c A H locs ls X I Z
  rw [← hd.2] at K
  exact K
theorem zj_icmp_ne {a b off : Int} {t : Nat} (hd : zd cc pc (.if_icmp .ne off) 3 n) (ht : (pc : Int) + off = (t : Int)) (ha : zin a) (hb2 : zin b) (kt : ¬ a = b → zJ sh l y cc nL ret R mc ms Q u1 u2 t L st h) (kf : a = b → zJ sh l y cc nL ret R mc ms Q u1 u2 n L st h) : zJ sh l y cc nL ret R mc ms Q u1 u2 pc L (.inl b :: .inl a :: st) h := by
  intro D g p e s m args below meth c A H locs ls X I Z
  have X0 := X
  obtain ⟨hx, hb, hml, hr, hown, hts, hlk, hK, hnm, hA, hZs⟩ := X0
  obtain ⟨hP, hD, hS, hg⟩ := id I
  refine lv_icmp_ne hx hb hd.1 ht (fun q => kt (fun z => q ((zin_inj ha hb2).mpr z)) D g p e s m args below meth c A H locs ls X I Z) (fun q => ?_)
  have K := kf ((zin_inj ha hb2).mp q) D g p e s m args below meth c A H locs ls X I Z
  rw [← hd.2] at K
  exact K
theorem zj_if_ne {a off : Int} {t : Nat} (hd : zd cc pc (.ifCond .ne off) 3 n) (ht : (pc : Int) + off = (t : Int)) (ha : zin a) (kt : ¬ a = 0 → zJ sh l y cc nL ret R mc ms Q u1 u2 t L st h) (kf : a = 0 → zJ sh l y cc nL ret R mc ms Q u1 u2 n L st h) : zJ sh l y cc nL ret R mc ms Q u1 u2 pc L (.inl a :: st) h := by
  intro D g p e s m args below meth c A H locs ls X I Z
  have X0 := X
  obtain ⟨hx, hb, hml, hr, hown, hts, hlk, hK, hnm, hA, hZs⟩ := X0
  obtain ⟨hP, hD, hS, hg⟩ := id I
  refine lv_if_ne hx hb hd.1 ht (fun q => kt (fun z => q ((zin_inj ha zin_0).mpr z)) D g p e s m args below meth c A H locs ls X I Z) (fun q => ?_)
  have K := kf ((zin_inj ha zin_0).mp q) D g p e s m args below meth c A H locs ls X I Z
  rw [← hd.2] at K
  exact K
theorem zj_icmp_lt {a b off : Int} {t : Nat} (hd : zd cc pc (.if_icmp .lt off) 3 n) (ht : (pc : Int) + off = (t : Int)) (ha : zin a) (hb2 : zin b) (kt : a < b → zJ sh l y cc nL ret R mc ms Q u1 u2 t L st h) (kf : ¬ a < b → zJ sh l y cc nL ret R mc ms Q u1 u2 n L st h) : zJ sh l y cc nL ret R mc ms Q u1 u2 pc L (.inl b :: .inl a :: st) h := by
  intro D g p e s m args below meth c A H locs ls X I Z
  have X0 := X
  obtain ⟨hx, hb, hml, hr, hown, hts, hlk, hK, hnm, hA, hZs⟩ := X0
  obtain ⟨hP, hD, hS, hg⟩ := id I
  refine lv_icmp_lt hx hb hd.1 ht (fun q => kt ((zin_lt ha hb2).mp q) D g p e s m args below meth c A H locs ls X I Z) (fun q => ?_)
  have K := kf (fun z => q ((zin_lt ha hb2).mpr z)) D g p e s m args below meth c A H locs ls X I Z
  rw [← hd.2] at K
  exact K
theorem zj_if_lt {a off : Int} {t : Nat} (hd : zd cc pc (.ifCond .lt off) 3 n) (ht : (pc : Int) + off = (t : Int)) (ha : zin a) (kt : a < 0 → zJ sh l y cc nL ret R mc ms Q u1 u2 t L st h) (kf : ¬ a < 0 → zJ sh l y cc nL ret R mc ms Q u1 u2 n L st h) : zJ sh l y cc nL ret R mc ms Q u1 u2 pc L (.inl a :: st) h := by
  intro D g p e s m args below meth c A H locs ls X I Z
  have X0 := X
  obtain ⟨hx, hb, hml, hr, hown, hts, hlk, hK, hnm, hA, hZs⟩ := X0
  obtain ⟨hP, hD, hS, hg⟩ := id I
  refine lv_if_lt hx hb hd.1 ht (fun q => kt ((zin_lt ha zin_0).mp q) D g p e s m args below meth c A H locs ls X I Z) (fun q => ?_)
  have K := kf (fun z => q ((zin_lt ha zin_0).mpr z)) D g p e s m args below meth c A H locs ls X I Z
  rw [← hd.2] at K
  exact K
theorem zj_icmp_ge {a b off : Int} {t : Nat} (hd : zd cc pc (.if_icmp .ge off) 3 n) (ht : (pc : Int) + off = (t : Int)) (ha : zin a) (hb2 : zin b) (kt : b ≤ a → zJ sh l y cc nL ret R mc ms Q u1 u2 t L st h) (kf : ¬ b ≤ a → zJ sh l y cc nL ret R mc ms Q u1 u2 n L st h) : zJ sh l y cc nL ret R mc ms Q u1 u2 pc L (.inl b :: .inl a :: st) h := by
  intro D g p e s m args below meth c A H locs ls X I Z
  have X0 := X
  obtain ⟨hx, hb, hml, hr, hown, hts, hlk, hK, hnm, hA, hZs⟩ := X0
  obtain ⟨hP, hD, hS, hg⟩ := id I
  refine lv_icmp_ge hx hb hd.1 ht (fun q => kt ((zin_le hb2 ha).mp q) D g p e s m args below meth c A H locs ls X I Z) (fun q => ?_)
  have K := kf (fun z => q ((zin_le hb2 ha).mpr z)) D g p e s m args below meth c A H locs ls X I Z
  rw [← hd.2] at K
  exact K
theorem zj_if_ge {a off : Int} {t : Nat} (hd : zd cc pc (.ifCond .ge off) 3 n) (ht : (pc : Int) + off = (t : Int)) (ha : zin a) (kt : 0 ≤ a → zJ sh l y cc nL ret R mc ms Q u1 u2 t L st h) (kf : ¬ 0 ≤ a → zJ sh l y cc nL ret R mc ms Q u1 u2 n L st h) : zJ sh l y cc nL ret R mc ms Q u1 u2 pc L (.inl a :: st) h := by
  intro D g p e s m args below meth c A H locs ls X I Z
  have X0 := X
  obtain ⟨hx, hb, hml, hr, hown, hts, hlk, hK, hnm, hA, hZs⟩ := X0
  obtain ⟨hP, hD, hS, hg⟩ := id I
  refine lv_if_ge hx hb hd.1 ht (fun q => kt ((zin_le zin_0 ha).mp q) D g p e s m args below meth c A H locs ls X I Z) (fun q => ?_)
  have K := kf (fun z => q ((zin_le zin_0 ha).mpr z)) D g p e s m args below meth c A H locs ls X I Z
  rw [← hd.2] at K
  exact K
theorem zj_icmp_gt {a b off : Int} {t : Nat} (hd : zd cc pc (.if_icmp .gt off) 3 n) (ht : (pc : Int) + off = (t : Int)) (ha : zin a) (hb2 : zin b) (kt : b < a → zJ sh l y cc nL ret R mc ms Q u1 u2 t L st h) (kf : ¬ b < a → zJ sh l y cc nL ret R mc ms Q u1 u2 n L st h) : zJ sh l y cc nL ret R mc ms Q u1 u2 pc L (.inl b :: .inl a :: st) h := by
  intro D g p e s m args below meth c A H locs ls X I Z
  have X0 := X
  obtain ⟨hx, hb, hml, hr, hown, hts, hlk, hK, hnm, hA, hZs⟩ := X0
  obtain ⟨hP, hD, hS, hg⟩ := id I
  refine lv_icmp_gt hx hb hd.1 ht (fun q => kt ((zin_lt hb2 ha).mp q) D g p e s m args below meth c A H locs ls X I Z) (fun q => ?_)
  have K := kf (fun z => q ((zin_lt hb2 ha).mpr z)) D g p e s m args below meth c A H locs ls X I Z
  rw [← hd.2] at K
  exact K
theorem zj_if_gt {a off : Int} {t : Nat} (hd : zd cc pc (.ifCond .gt off) 3 n) (ht : (pc : Int) + off = (t : Int)) (ha : zin a) (kt : 0 < a → zJ sh l y cc nL ret R mc ms Q u1 u2 t L st h) (kf : ¬ 0 < a → zJ sh l y cc nL ret R mc ms Q u1 u2 n L st h) : zJ sh l y cc nL ret R mc ms Q u1 u2 pc L (.inl a :: st) h := by
  intro D g p e s m args below meth c A H locs ls X I Z
  have X0 := X
  obtain ⟨hx, hb, hml, hr, hown, hts, hlk, hK, hnm, hA, hZs⟩ := X0
  obtain ⟨hP, hD, hS, hg⟩ := id I
  refine lv_if_gt hx hb hd.1 ht (fun q => kt ((zin_lt zin_0 ha).mp q) D g p e s m args below meth c A H locs ls X I Z) (fun q => ?_)
  have K := kf (fun z => q ((zin_lt zin_0 ha).mpr z)) D g p e s m args below meth c A H locs ls X I Z
  rw [← hd.2] at K
  exact K
theorem zj_icmp_le {a b off : Int} {t : Nat} (hd : zd cc pc (.if_icmp .le off) 3 n) (ht : (pc : Int) + off = (t : Int)) (ha : zin a) (hb2 : zin b) (kt : a ≤ b → zJ sh l y cc nL ret R mc ms Q u1 u2 t L st h) (kf : ¬ a ≤ b → zJ sh l y cc nL ret R mc ms Q u1 u2 n L st h) : zJ sh l y cc nL ret R mc ms Q u1 u2 pc L (.inl b :: .inl a :: st) h := by
  intro D g p e s m args below meth c A H locs ls X I Z
  have X0 := X
  obtain ⟨hx, hb, hml, hr, hown, hts, hlk, hK, hnm, hA, hZs⟩ := X0
  obtain ⟨hP, hD, hS, hg⟩ := id I
  refine lv_icmp_le hx hb hd.1 ht (fun q => kt ((zin_le ha hb2).mp q) D g p e s m args below meth c A H locs ls X I Z) (fun q => ?_)
  have K := kf (fun z => q ((zin_le ha hb2).mpr z)) D g p e s m args below meth c A H locs ls X I Z
  rw [← hd.2] at K
  exact K
theorem zj_if_le {a off : Int} {t : Nat} (hd : zd cc pc (.ifCond .le off) 3 n) (ht : (pc : Int) + off = (t : Int)) (ha : zin a) (kt : a ≤ 0 → zJ sh l y cc nL ret R mc ms Q u1 u2 t L st h) (kf : ¬ a ≤ 0 → zJ sh l y cc nL ret R mc ms Q u1 u2 n L st h) : zJ sh l y cc nL ret R mc ms Q u1 u2 pc L (.inl a :: st) h := by
  intro D g p e s m args below meth c A H locs ls X I Z
  have X0 := X
  obtain ⟨hx, hb, hml, hr, hown, hts, hlk, hK, hnm, hA, hZs⟩ := X0
  obtain ⟨hP, hD, hS, hg⟩ := id I
  refine lv_if_le hx hb hd.1 ht (fun q => kt ((zin_le ha zin_0).mp q) D g p e s m args below meth c A H locs ls X I Z) (fun q => ?_)
  have K := kf (fun z => q ((zin_le ha zin_0).mpr z)) D g p e s m args below meth c A H locs ls X I Z
  rw [← hd.2] at K
  exact K
theorem zj_ifnonnull {x off : Int} {t : Nat} (hd : zd cc pc (.ifnonnull off) 3 n) (ht : (pc : Int) + off = (t : Int)) (kt : ¬ x = -1 → zJ sh l y cc nL ret R mc ms Q u1 u2 t L st h) (kf : x = -1 → zJ sh l y cc nL ret R mc ms Q u1 u2 n L st h) : zJ sh l y cc nL ret R mc ms Q u1 u2 pc L (.inr x :: st) h := by
  intro D g p e s m args below meth c A H locs ls X I Z
  have X0 := X
  obtain ⟨hx, hb, hml, hr, hown, hts, hlk, hK, hnm, hA, hZs⟩ := X0
  obtain ⟨hP, hD, hS, hg⟩ := id I
  by_cases hx1 : x = -1
  · subst hx1
    refine lv_ifnonnullN hx hb hd.1 ?_
    have K := kf rfl D g p e s m args below meth c A H locs ls X I Z
    rw [← hd.2] at K
    exact K
  · rw [List.map_cons, zv_ref _ hx1]
    exact lv_ifnonnull hx hb hd.1 ht (kt hx1 D g p e s m args below meth c A H locs ls X I Z)
theorem zj_table {a dflt lo hi : Int} {offs : Array Int} {len : Nat} (hd : zd cc pc (.tableswitch dflt lo hi offs) len n) (ha : zin a) {t : Nat} (ht : (pc : Int) + dflt = (t : Int)) (ko : a < lo ∨ hi < a → zJ sh l y cc nL ret R mc ms Q u1 u2 t L st h) (ki : lo ≤ a → a ≤ hi → ∃ (off : Int) (t2 : Nat), offs[(a - lo).toNat]? = some off ∧ (pc : Int) + off = (t2 : Int) ∧ zJ sh l y cc nL ret R mc ms Q u1 u2 t2 L st h) : zJ sh l y cc nL ret R mc ms Q u1 u2 pc L (.inl a :: st) h := by
  intro D g p e s m args below meth c A H locs ls X I Z
  have X0 := X
  obtain ⟨hx, hb, hml, hr, hown, hts, hlk, hK, hnm, hA, hZs⟩ := X0
  obtain ⟨hP, hD, hS, hg⟩ := id I
  by_cases h1 : a < lo
  · exact lv_tableOut hx hb hd.1 (Or.inl (by rw [zin_i ha]; exact h1)) ht (ko (Or.inl h1) D g p e s m args below meth c A H locs ls X I Z)
  · by_cases h2 : hi < a
    · exact lv_tableOut hx hb hd.1 (Or.inr (by rw [zin_i ha]; exact h2)) ht (ko (Or.inr h2) D g p e s m args below meth c A H locs ls X I Z)
    · obtain ⟨off, t2, q1, q2, q3⟩ := ki (by omega) (by omega)
      exact lv_tableIn hx hb hd.1 (by rw [zin_i ha]; exact h1) (by rw [zin_i ha]; exact h2) (by rw [zin_i ha]; exact q1) q2 (q3 D g p e s m args below meth c A H locs ls X I Z)
theorem zj_lookup {a dflt : Int} {ps : Array (Int × Int)} {len : Nat} (hd : zd cc pc (.lookupswitch dflt ps) len n) (ha : zin a) (hp : (ps.toList.zip (ps.toList.drop 1)).all (fun (a, next) => a.1 < next.1) = true) {off : Int} {t : Nat} (ho : Op.lookupswitch.offset ps.toList dflt a = off) (ht : (pc : Int) + off = (t : Int)) (kk : zJ sh l y cc nL ret R mc ms Q u1 u2 t L st h) : zJ sh l y cc nL ret R mc ms Q u1 u2 pc L (.inl a :: st) h := by
  intro D g p e s m args below meth c A H locs ls X I Z
  have X0 := X
  obtain ⟨hx, hb, hml, hr, hown, hts, hlk, hK, hnm, hA, hZs⟩ := X0
  obtain ⟨hP, hD, hS, hg⟩ := id I
  exact lv_lookup hx hb hd.1 hp (by rw [zin_i ha]; exact ho) ht (kk D g p e s m args below meth c A H locs ls X I Z)
theorem zj_vret (hret : ret = none) (hd : zd cc pc .return_ 1 n) (h1 : u1 ≤ mc) (h2 : u2 ≤ ms) (hq : Q none h) : zJ sh l y cc nL ret R mc ms Q u1 u2 pc L [] h := by
  intro D g p e s m args below meth c A H locs ls X I Z
  have X0 := X
  obtain ⟨hx, hb, hml, hr, hown, hts, hlk, hK, hnm, hA, hZs⟩ := X0
  obtain ⟨hP, hD, hS, hg⟩ := id I
  subst hret
  refine W.widen h1 h2 ?_
  exact W.vret hx hb hr (fun t ht hW => ⟨⟨none, h, rfl, hq, by rw [ht]; exact hP, hD, by rw [ht]; exact hg⟩, hS.F ht⟩) hS.2.2 hd.1 hlk
theorem zj_iret {x : Int} (hret : ret = some .int) (hd : zd cc pc .ireturn 1 n) (h1 : u1 ≤ mc) (h2 : u2 ≤ ms) (hq : Q (some (.inl x)) h) : zJ sh l y cc nL ret R mc ms Q u1 u2 pc L [.inl x] h := by
  intro D g p e s m args below meth c A H locs ls X I Z
  have X0 := X
  obtain ⟨hx, hb, hml, hr, hown, hts, hlk, hK, hnm, hA, hZs⟩ := X0
  obtain ⟨hP, hD, hS, hg⟩ := id I
  subst hret
  refine W.widen h1 h2 ?_
  exact W.iret hx hb hr (fun t ht hW => ⟨⟨some (.inl x), h, rfl, hq, by rw [ht]; exact hP, hD, by rw [ht]; exact hg⟩, hS.F ht⟩) hS.2.2 hd.1 hlk
theorem zj_zret {x : Int} (hret : ret = some .boolean) (hd : zd cc pc .ireturn 1 n) (h1 : u1 ≤ mc) (h2 : u2 ≤ ms) (hz : x = 0 ∨ x = 1) (hq : Q (some (.inl x)) h) : zJ sh l y cc nL ret R mc ms Q u1 u2 pc L [.inl x] h := by
  intro D g p e s m args below meth c A H locs ls X I Z
  have X0 := X
  obtain ⟨hx, hb, hml, hr, hown, hts, hlk, hK, hnm, hA, hZs⟩ := X0
  obtain ⟨hP, hD, hS, hg⟩ := id I
  subst hret
  refine W.widen h1 h2 ?_
  exact W.zret hx hb hr (by rcases hz with rfl | rfl <;> rfl) (fun t ht hW => ⟨⟨some (.inl x), h, rfl, hq, by rw [ht]; exact hP, hD, by rw [ht]; exact hg⟩, hS.F ht⟩) hS.2.2 hd.1 hlk
theorem zj_widen {k1 k2 : Nat} (h1 : u1 ≤ k1) (h2 : u2 ≤ k2) (kk : zJ sh l y cc nL ret R mc ms Q k1 k2 pc L st h) : zJ sh l y cc nL ret R mc ms Q u1 u2 pc L st h := by
  intro D g p e s m args below meth c A H locs ls X I Z
  have X0 := X
  obtain ⟨hx, hb, hml, hr, hown, hts, hlk, hK, hnm, hA, hZs⟩ := X0
  obtain ⟨hP, hD, hS, hg⟩ := id I
  exact W.widen h1 h2 (kk D g p e s m args below meth c A H locs ls X I Z)
def zty (k : Nat) (ty : FieldType) : Prop := match k with
  | 0 => ty = .int
  | 1 => ty = .boolean
  | _ => defaultValue ty = .null ∧ ∀ (v : Value), (v = .null ∨ ∃ a, v = .ref a) → narrow ty v = v ∧ fits ty v = true
def zCl (ci : Nat) (C : String) (T : u_T) (ty : Nat → FieldType) : Prop := vwCl[ci]? = some (C, T, znf ci) ∧ (∀ w ∈ u_ws C T (znf ci), w ∈ zt) ∧ (∀ k, k < znf ci → parseFieldDescriptor (T k).2.2.1 = some (ty k)) ∧ (∀ a, a < znf ci → ∀ b, b < znf ci → a ≠ b → (T a).2.1 ≠ (T b).2.1) ∧ ∀ k, k < znf ci → zty (zfk ci k) (ty k)
/-- entry idx of the class own names field k of class ci -/
def zF (own : String) (idx ci k : Nat) : Prop := ∃ (C : String) (T : u_T) (ty : Nat → FieldType), zCl ci C T ty ∧ k < znf ci ∧ Cond.fieldLink own idx (T k).1 (T k).2.1 (T k).2.2.1 ∈ zt ∧ ((T k).2.2.2 = false ∨ ((T k).2.2.2 = true ∧ (T k).1 = own))
theorem zfs_at {g : zG} {ci k : Nat} {h : zM} {c : Int} (hk : k < znf ci) : ((List.range (znf ci)).map fun (j : Nat) => zfv g.1 ci j (h.2 c j))[k]? = some (zfv g.1 ci k (h.2 c k)) := by
  rw [List.getElem?_map, List.getElem?_range hk]
  rfl
theorem zfs_set {g : zG} {ci k : Nat} {h : zM} {c v : Int} {x : Value} (hx : zfv g.1 ci k v = x) (_hk : k < znf ci) : ((List.range (znf ci)).map fun (j : Nat) => zfv g.1 ci j (h.2 c j)).set k x = (List.range (znf ci)).map fun (j : Nat) => zfv g.1 ci j ((zwr h c k v).2 c j) := by
  apply List.ext_getElem?
  intro i
  by_cases hi : i = k
  · subst hi
    rw [List.getElem?_set_self (by simpa using _hk), zfs_at _hk, zwr_s, hx]
  · rw [List.getElem?_set_ne (Ne.symm hi)]
    by_cases hl : i < znf ci
    · rw [zfs_at hl, zfs_at hl, zwr_n (by omega)]
    · rw [List.getElem?_eq_none (by simpa using hl), List.getElem?_eq_none (by simpa using hl)]
theorem zj_getf {c0 : Int} {ci k idx : Nat} {v : zV} (hd : zd cc pc (.getfield idx) 3 n) (hf : zF y.cls idx ci k) (hs : sh c0 = .inl ci) (hc : 0 ≤ c0 ∧ c0 < h.1) (hv : ∀ ad, zfv ad ci k (h.2 c0 k) = zv ad v) (kk : zJ sh l y cc nL ret R mc ms Q u1 u2 n L (v :: st) h) : zJ sh l y cc nL ret R mc ms Q u1 u2 pc L (.inr c0 :: st) h := by
  intro D g p e s m args below meth c A H locs ls X I Z
  have X0 := X
  obtain ⟨hx, hb, hml, hr, hown, hts, hlk, hK, hnm, hA, hZs⟩ := X0
  obtain ⟨hP, hD, hS, hg⟩ := id I
  obtain ⟨C, T, ty, ⟨q1, q2, q3, q4, q5⟩, q6, q7, -⟩ := hf
  obtain ⟨cn, rfl⟩ : ∃ cn : Nat, c0 = cn := ⟨c0.toNat, by omega⟩
  have hP1 := zw_at sh g h (c := cn) (by omega)
  rw [zc_obj hs] at hP1
  rw [List.map_cons, zv_ref _ (by omega)]
  refine va_get hx hb hts q2 hown hK hP cn hP1 q1 k q6 (hts _ q7) (fun _ z => z) (zfs_at q6) hd.1 ?_
  have K := kk D g p e s m args below meth c A H locs ls X I Z
  rw [← hd.2, List.map_cons, ← hv] at K
  exact K
theorem zj_geti {c0 v : Int} {ci k idx : Nat} (hd : zd cc pc (.getfield idx) 3 n) (hf : zF y.cls idx ci k) (hk : (zfk ci k).beq 2 = false) (hsc : sh c0 = .inl ci ∧ 0 ≤ c0 ∧ c0 < h.1) (hv : h.2 c0 (k : Int) = v) (kk : zJ sh l y cc nL ret R mc ms Q u1 u2 n L (.inl v :: st) h) : zJ sh l y cc nL ret R mc ms Q u1 u2 pc L (.inr c0 :: st) h :=
  zj_getf hd hf hsc.1 hsc.2 (fun ad => (if_neg (fun e => by rw [e] at hk; cases hk) : zfv ad ci k (h.2 c0 k) = .int (Int32.ofInt (h.2 c0 k))).trans (by rw [hv]; rfl)) kk
theorem zj_getr {c0 r : Int} {ci k idx : Nat} (hd : zd cc pc (.getfield idx) 3 n) (hf : zF y.cls idx ci k) (hk : zfk ci k = 2) (hsc : sh c0 = .inl ci ∧ 0 ≤ c0 ∧ c0 < h.1) (hv : h.2 c0 (k : Int) = r) (kk : zJ sh l y cc nL ret R mc ms Q u1 u2 n L (.inr r :: st) h) : zJ sh l y cc nL ret R mc ms Q u1 u2 pc L (.inr c0 :: st) h :=
  zj_getf hd hf hsc.1 hsc.2 (fun ad => by rw [hv]; exact if_pos hk) kk
theorem zj_putf {c0 x : Int} {ci k idx : Nat} {v : zV} (hd : zd cc pc (.putfield idx) 3 n) (hf : zF y.cls idx ci k) (hs : sh c0 = .inl ci) (hc : 0 ≤ c0 ∧ c0 < h.1) (hv : ∀ ad, zfv ad ci k x = zv ad v) (hn2 : ∀ ty, zty (zfk ci k) ty → ∀ ad, narrow ty (zv ad v) = zv ad v ∧ fits ty (zv ad v) = true) (hfin : y.name = "<init>" ∨ ∀ (C : String) (T : u_T), vwCl[ci]? = some (C, T, znf ci) → (T k).2.2.2 = false) (kk : zJ sh l y cc nL ret R mc ms Q u1 u2 n L st (zwr h c0 k x)) : zJ sh l y cc nL ret R mc ms Q u1 u2 pc L (v :: .inr c0 :: st) h := by
  intro D g p e s m args below meth c A H locs ls X I Z
  have X0 := X
  obtain ⟨hx, hb, hml, hr, hown, hts, hlk, hK, hnm, hA, hZs⟩ := X0
  obtain ⟨hP, hD, hS, hg⟩ := id I
  obtain ⟨C, T, ty, ⟨q1, q2, q3, q4, q5⟩, q6, q7, q8⟩ := hf
  obtain ⟨cn, rfl⟩ : ∃ cn : Nat, c0 = cn := ⟨c0.toNat, by omega⟩
  have hP1 := zw_at sh g h (c := cn) (by omega)
  rw [zc_obj hs] at hP1
  have hset : (zw sh g h).set cn (g.1 (cn : Int), .inr (ci, ((List.range (znf ci)).map fun (j : Nat) => zfv g.1 ci j (h.2 cn j)).set k (zv g.1 v))) = zw sh g (zwr h cn k x) := zw_set (by omega) rfl (fun a b z => zwr_n (fun e => z e.1)) (by rw [zc_obj hs, zfs_set (hv g.1) q6])
  rw [List.map_cons, List.map_cons, zv_ref _ (show ¬ (cn : Int) = -1 by omega)]
  have go : ∀ (H1 : Heap) (locs1 : List Loc), va_P D vwCl ((zw sh g h).set cn (g.1 (cn : Int), .inr (ci, ((List.range (znf ci)).map fun (j : Nat) => zfv g.1 ci j (h.2 cn j)).set k (zv g.1 v)))) H1 → va_D A ((zw sh g h).set cn (g.1 (cn : Int), .inr (ci, ((List.range (znf ci)).map fun (j : Nat) => zfv g.1 ci j (h.2 cn j)).set k (zv g.1 v)))) → va_S A s.heap H1 locs1 → H1.size = H.size → W p l e R s m args below meth c H1 locs1 u1 u2 (MQ below (zQ sh D g A Q) args s mc ms A) (F0 m (pc + 3) ls (st.map (zv g.1))) := by
    intro H1 locs1 hP1 hD1 hS1 hz
    rw [hset] at hP1 hD1
    have K := kk D g p e s m args below meth c A H1 locs1 ls X ⟨hP1, hD1, hS1, by rw [hz]; exact hg⟩ Z
    rw [← hd.2] at K
    exact K
  have hz : ∀ (H1 : Heap) (locs1 : List Loc), va_P D vwCl ((zw sh g h).set cn (g.1 (cn : Int), .inr (ci, ((List.range (znf ci)).map fun (j : Nat) => zfv g.1 ci j (h.2 cn j)).set k (zv g.1 v)))) H1 → True := fun _ _ _ => trivial
  have hn3 := hn2 (ty k) (q5 k q6) g.1
  by_cases hff : (T k).2.2.2 = false
  · exact z_put hx hb hts q2 ty q3 q4 hown hK hP hD hS cn hP1 q1 k q6 (hts _ q7) (fun _ z => z) (Or.inl hff) (q3 k q6) hn3.1 hn3.2 (by simpa using q6) hd.1 go
  · rcases hfin with hfi | hfi
    · rcases q8 with q8 | q8
      · exact absurd q8 hff
      · exact z_put hx hb hts q2 ty q3 q4 hown hK hP hD hS cn hP1 q1 k q6 (hts _ q7) (fun _ z => z) (Or.inr ⟨q8.1, hnm.trans hfi, q8.2⟩) (q3 k q6) hn3.1 hn3.2 (by simpa using q6) hd.1 go
    · exact absurd (hfi C T q1) hff
theorem zj_puti {c0 x k2 : Int} {ci k idx : Nat} (hd : zd cc pc (.putfield idx) 3 n) (hf : zF y.cls idx ci k) (hk : zfk ci k = 0) (hsc : sh c0 = .inl ci ∧ 0 ≤ c0 ∧ c0 < h.1) (hfin : y.name = "<init>" ∨ ∀ (C : String) (T : u_T), vwCl[ci]? = some (C, T, znf ci) → (T k).2.2.2 = false) (hk2 : (k : Int) = k2) (kk : ∀ h', h' = zwr h c0 k2 x → zJ sh l y cc nL ret R mc ms Q u1 u2 n L st h') : zJ sh l y cc nL ret R mc ms Q u1 u2 pc L (.inl x :: .inr c0 :: st) h :=
  zj_putf hd hf hsc.1 hsc.2 (fun ad => if_neg (by rw [hk]; decide)) (fun ty e ad => by rw [hk] at e; cases e; exact ⟨rfl, rfl⟩) hfin (kk _ (by rw [hk2]))
theorem zj_putz {c0 x k2 : Int} {ci k idx : Nat} (hd : zd cc pc (.putfield idx) 3 n) (hf : zF y.cls idx ci k) (hk : zfk ci k = 1) (hx1 : x = 0 ∨ x = 1) (hsc : sh c0 = .inl ci ∧ 0 ≤ c0 ∧ c0 < h.1) (hfin : y.name = "<init>" ∨ ∀ (C : String) (T : u_T), vwCl[ci]? = some (C, T, znf ci) → (T k).2.2.2 = false) (hk2 : (k : Int) = k2) (kk : ∀ h', h' = zwr h c0 k2 x → zJ sh l y cc nL ret R mc ms Q u1 u2 n L st h') : zJ sh l y cc nL ret R mc ms Q u1 u2 pc L (.inl x :: .inr c0 :: st) h :=
  zj_putf hd hf hsc.1 hsc.2 (fun ad => if_neg (by rw [hk]; decide)) (fun ty e ad => by rw [hk] at e; cases e; rcases hx1 with rfl | rfl <;> exact ⟨rfl, rfl⟩) hfin (kk _ (by rw [hk2]))
theorem zj_putr {c0 x k2 : Int} {ci k idx : Nat} (hd : zd cc pc (.putfield idx) 3 n) (hf : zF y.cls idx ci k) (hk : zfk ci k = 2) (hsc : sh c0 = .inl ci ∧ 0 ≤ c0 ∧ c0 < h.1) (hfin : y.name = "<init>" ∨ ∀ (C : String) (T : u_T), vwCl[ci]? = some (C, T, znf ci) → (T k).2.2.2 = false) (hk2 : (k : Int) = k2) (kk : ∀ h', h' = zwr h c0 k2 x → zJ sh l y cc nL ret R mc ms Q u1 u2 n L st h') : zJ sh l y cc nL ret R mc ms Q u1 u2 pc L (.inr x :: .inr c0 :: st) h :=
  zj_putf hd hf hsc.1 hsc.2 (fun ad => if_pos hk) (fun ty e ad => by
    rw [hk] at e
    refine e.2 _ ?_
    unfold zv
    dsimp only
    split
    · exact Or.inl rfl
    · exact Or.inr ⟨_, rfl⟩) hfin (kk _ (by rw [hk2]))
theorem zix {i : Int} {N : Nat} (h : 0 ≤ i ∧ i < N) (hN : N < 2147483648) : vp_in (Int32.ofInt i) N ∧ (Int32.ofInt i).toNatClampNeg = i.toNat := by
  have e : (Int32.ofInt i).toInt = i := zin_i (by omega)
  refine ⟨vp_in_iff.mpr (by rw [e]; omega), ?_⟩
  show (Int32.ofInt i).toInt.toNat = _
  rw [e]
theorem zup_eq {h : zM} {c i x : Int} (hi : 0 ≤ i) : upd (fun (j : Nat) => Int32.ofInt (h.2 c j)) i.toNat (Int32.ofInt x) = fun (j : Nat) => Int32.ofInt ((zwr h c i x).2 c j) := by
  funext j
  unfold upd
  by_cases hj : j = i.toNat
  · rw [if_pos hj, show (j : Int) = i by omega, zwr_s]
  · rw [if_neg hj, zwr_n (by omega)]
theorem zj_iald {c0 i : Int} {N : Nat} (hd : zd cc pc .iaload 1 n) (hsc : sh c0 = .inr (0, N) ∧ 0 ≤ c0 ∧ c0 < h.1) (hN : N < 2147483648) (hi : 0 ≤ i ∧ i < N) {v : Int} (hv : h.2 c0 i = v) (kk : zJ sh l y cc nL ret R mc ms Q u1 u2 n L (.inl v :: st) h) : zJ sh l y cc nL ret R mc ms Q u1 u2 pc L (.inl i :: .inr c0 :: st) h := by
  intro D g p e s m args below meth c A H locs ls X I Z
  have X0 := X
  obtain ⟨hx, hb, hml, hr, hown, hts, hlk, hK, hnm, hA, hZs⟩ := X0
  obtain ⟨hP, hD, hS, hg⟩ := id I
  obtain ⟨hs, hc⟩ := hsc
  obtain ⟨cn, rfl⟩ : ∃ cn : Nat, c0 = cn := ⟨c0.toNat, by omega⟩
  have hP1 := zw_at sh g h (c := cn) (by omega)
  rw [zc_ia hs] at hP1
  obtain ⟨z1, z2⟩ := zix hi hN
  rw [List.map_cons, List.map_cons, zv_ref _ (show ¬ (cn : Int) = -1 by omega)]
  refine va_iald hx hb hK hP cn 0 hP1 rfl z1 hd.1 ?_
  rw [z2]
  subst hv
  have K := kk D g p e s m args below meth c A H locs ls X I Z
  rw [← hd.2] at K
  have e9 : ((i.toNat : Nat) : Int) = i := by omega
  rw [e9]
  exact K
theorem zj_zald {c0 i : Int} {N : Nat} (hd : zd cc pc .baload 1 n) (hsc : sh c0 = .inr (1, N) ∧ 0 ≤ c0 ∧ c0 < h.1) (hN : N < 2147483648) (hi : 0 ≤ i ∧ i < N) {v : Int} (hv : h.2 c0 i = v) (kk : zJ sh l y cc nL ret R mc ms Q u1 u2 n L (.inl v :: st) h) : zJ sh l y cc nL ret R mc ms Q u1 u2 pc L (.inl i :: .inr c0 :: st) h := by
  intro D g p e s m args below meth c A H locs ls X I Z
  have X0 := X
  obtain ⟨hx, hb, hml, hr, hown, hts, hlk, hK, hnm, hA, hZs⟩ := X0
  obtain ⟨hP, hD, hS, hg⟩ := id I
  obtain ⟨hs, hc⟩ := hsc
  obtain ⟨cn, rfl⟩ : ∃ cn : Nat, c0 = cn := ⟨c0.toNat, by omega⟩
  have hP1 := zw_at sh g h (c := cn) (by omega)
  rw [zc_za hs] at hP1
  obtain ⟨z1, z2⟩ := zix hi hN
  rw [List.map_cons, List.map_cons, zv_ref _ (show ¬ (cn : Int) = -1 by omega)]
  refine va_zald hx hb hK hP cn 1 hP1 rfl z1 hd.1 ?_
  rw [z2]
  subst hv
  have K := kk D g p e s m args below meth c A H locs ls X I Z
  rw [← hd.2] at K
  have e9 : ((i.toNat : Nat) : Int) = i := by omega
  rw [e9]
  exact K
theorem zj_aald {c0 i r : Int} {N : Nat} (hd : zd cc pc .aaload 1 n) (hsc : sh c0 = .inr (2, N) ∧ 0 ≤ c0 ∧ c0 < h.1) (hN : N < 2147483648) (hi : 0 ≤ i ∧ i < N) (hv : h.2 c0 i = r) (kk : zJ sh l y cc nL ret R mc ms Q u1 u2 n L (.inr r :: st) h) : zJ sh l y cc nL ret R mc ms Q u1 u2 pc L (.inl i :: .inr c0 :: st) h := by
  intro D g p e s m args below meth c A H locs ls X I Z
  have X0 := X
  obtain ⟨hx, hb, hml, hr, hown, hts, hlk, hK, hnm, hA, hZs⟩ := X0
  obtain ⟨hP, hD, hS, hg⟩ := id I
  obtain ⟨hs, hc⟩ := hsc
  obtain ⟨cn, rfl⟩ : ∃ cn : Nat, c0 = cn := ⟨c0.toNat, by omega⟩
  have hP1 := zw_at sh g h (c := cn) (by omega)
  rw [zc_ra hs] at hP1
  obtain ⟨z1, z2⟩ := zix hi hN
  rw [List.map_cons, List.map_cons, zv_ref _ (show ¬ (cn : Int) = -1 by omega)]
  refine va_aldq hx hb hK hP cn 2 hP1 rfl z1 hd.1 ?_
  rw [z2]
  have K := kk D g p e s m args below meth c A H locs ls X I Z
  rw [← hd.2, List.map_cons, ← zo_rf, ← hv] at K
  have e9 : ((i.toNat : Nat) : Int) = i := by omega
  rw [e9]
  exact K
theorem zj_iast {c0 i x : Int} {N : Nat} (hd : zd cc pc .iastore 1 n) (hsc : sh c0 = .inr (0, N) ∧ 0 ≤ c0 ∧ c0 < h.1) (hN : N < 2147483648) (hi : 0 ≤ i ∧ i < N) (kk : ∀ h', h' = zwr h c0 i x → zJ sh l y cc nL ret R mc ms Q u1 u2 n L st h') : zJ sh l y cc nL ret R mc ms Q u1 u2 pc L (.inl x :: .inl i :: .inr c0 :: st) h := by
  intro D g p e s m args below meth c A H locs ls X I Z
  have X0 := X
  obtain ⟨hx, hb, hml, hr, hown, hts, hlk, hK, hnm, hA, hZs⟩ := X0
  obtain ⟨hP, hD, hS, hg⟩ := id I
  obtain ⟨hs, hc⟩ := hsc
  obtain ⟨cn, rfl⟩ : ∃ cn : Nat, c0 = cn := ⟨c0.toNat, by omega⟩
  have hP1 := zw_at sh g h (c := cn) (by omega)
  rw [zc_ia hs] at hP1
  obtain ⟨z1, z2⟩ := zix hi hN
  rw [List.map_cons, List.map_cons, List.map_cons, zv_ref _ (show ¬ (cn : Int) = -1 by omega)]
  refine z_iast hx hb hK hP hD hS cn 0 hP1 rfl z1 hd.1 (fun H1 locs1 hP2 hD2 hS2 hz => ?_)
  rw [z2, zup_eq hi.1] at hP2 hD2
  rw [zw_set (h := h) (h' := zwr h cn i x) (by omega) rfl (fun a b z => zwr_n (fun e => z e.1)) (zc_ia hs)] at hP2 hD2
  have K := kk _ rfl D g p e s m args below meth c A H1 locs1 ls X ⟨hP2, hD2, hS2, by rw [hz]; exact hg⟩ Z
  rw [← hd.2] at K
  exact K
theorem zj_zast {c0 i x : Int} {N : Nat} (hd : zd cc pc .bastore 1 n) (hsc : sh c0 = .inr (1, N) ∧ 0 ≤ c0 ∧ c0 < h.1) (hN : N < 2147483648) (hi : 0 ≤ i ∧ i < N) (hx1 : x = 0 ∨ x = 1) (kk : ∀ h', h' = zwr h c0 i x → zJ sh l y cc nL ret R mc ms Q u1 u2 n L st h') : zJ sh l y cc nL ret R mc ms Q u1 u2 pc L (.inl x :: .inl i :: .inr c0 :: st) h := by
  intro D g p e s m args below meth c A H locs ls X I Z
  have X0 := X
  obtain ⟨hx, hb, hml, hr, hown, hts, hlk, hK, hnm, hA, hZs⟩ := X0
  obtain ⟨hP, hD, hS, hg⟩ := id I
  obtain ⟨hs, hc⟩ := hsc
  obtain ⟨cn, rfl⟩ : ∃ cn : Nat, c0 = cn := ⟨c0.toNat, by omega⟩
  have hP1 := zw_at sh g h (c := cn) (by omega)
  rw [zc_za hs] at hP1
  obtain ⟨z1, z2⟩ := zix hi hN
  rw [List.map_cons, List.map_cons, List.map_cons, zv_ref _ (show ¬ (cn : Int) = -1 by omega)]
  have hnr : vp_nar .boolean (Int32.ofInt x) = Int32.ofInt x := by rcases hx1 with rfl | rfl <;> rfl
  refine z_zast hx hb hK hP hD hS cn 1 hP1 rfl z1 hd.1 (fun H1 locs1 hP2 hD2 hS2 hz => ?_)
  rw [z2, hnr, zup_eq hi.1] at hP2 hD2
  rw [zw_set (h := h) (h' := zwr h cn i x) (by omega) rfl (fun a b z => zwr_n (fun e => z e.1)) (zc_za hs)] at hP2 hD2
  have K := kk _ rfl D g p e s m args below meth c A H1 locs1 ls X ⟨hP2, hD2, hS2, by rw [hz]; exact hg⟩ Z
  rw [← hd.2] at K
  exact K
theorem zj_alen {c0 : Int} {k N : Nat} (hd : zd cc pc .arraylength 1 n) (hsc : sh c0 = .inr (k, N) ∧ 0 ≤ c0 ∧ c0 < h.1) (kk : zJ sh l y cc nL ret R mc ms Q u1 u2 n L (.inl N :: st) h) : zJ sh l y cc nL ret R mc ms Q u1 u2 pc L (.inr c0 :: st) h := by
  intro D g p e s m args below meth c A H locs ls X I Z
  have X0 := X
  obtain ⟨hx, hb, hml, hr, hown, hts, hlk, hK, hnm, hA, hZs⟩ := X0
  obtain ⟨hP, hD, hS, hg⟩ := id I
  obtain ⟨hs, hc⟩ := hsc
  obtain ⟨cn, rfl⟩ : ∃ cn : Nat, c0 = cn := ⟨c0.toNat, by omega⟩
  have hP1 := zw_at sh g h (c := cn) (by omega)
  rw [List.map_cons, zv_ref _ (show ¬ (cn : Int) = -1 by omega)]
  have K := kk D g p e s m args below meth c A H locs ls X I Z
  rw [← hd.2] at K
  match k, hs with
  | 0, hs =>
    rw [zc_ia hs] at hP1
    exact va_alen hx hb hK hP cn 0 hP1 rfl (v := Int32.ofInt N) Int32.ofInt_eq_ofNat.symm hd.1 K
  | 1, hs =>
    rw [zc_za hs] at hP1
    exact va_alen hx hb hK hP cn 1 hP1 rfl (v := Int32.ofInt N) Int32.ofInt_eq_ofNat.symm hd.1 K
  | j + 2, hs =>
    have e8 : zc sh g h (cn : Int) = .inl (g.2.2.2, N, .inr (.inr (.inr (.inr fun (j : Nat) => zo g.1 (h.2 cn j))))) := by unfold zc; rw [hs]
    rw [e8] at hP1
    exact va_alen hx hb hK hP cn 2 hP1 rfl (v := Int32.ofInt N) Int32.ofInt_eq_ofNat.symm hd.1 K
end ZJR
theorem z_fkA : ∀ l ∈ zfkL, ∀ x ∈ l, x = 0 ∨ x = 1 ∨ x = 2 := by decide +kernel
theorem z_fk (ci k : Nat) (h : ¬ zfk ci k = 2) : zfk ci k = 0 ∨ zfk ci k = 1 := by
  have key : ∀ (l : List Nat) (k : Nat), (∀ x ∈ l, x = 0 ∨ x = 1 ∨ x = 2) → ¬ l.getD k 0 = 2 → l.getD k 0 = 0 ∨ l.getD k 0 = 1 := by
    intro l k hl h
    rw [List.getD_eq_getElem?_getD] at h ⊢
    cases hk : l[k]? with
    | none => exact Or.inl rfl
    | some x =>
      rw [hk] at h
      rcases hl x (List.mem_of_getElem? hk) with e | e | e
      · exact Or.inl e
      · exact Or.inr e
      · exact absurd e h
  refine key _ k (fun x hx => ?_) h
  rw [List.getD_eq_getElem?_getD] at hx
  cases hl : zfkL[ci]? with
  | none => rw [hl] at hx; cases hx
  | some m => rw [hl] at hx; exact z_fkA m (List.mem_of_getElem? hl) x hx
theorem z_cat (ad : Int → Nat) (st : List zV) (hst : st.length ≤ 8) : ((st.map (zv ad)).map fun v => v.category).sum ≤ 8 := by
  have : ∀ st : List zV, ((st.map (zv ad)).map fun v => v.category).sum = st.length := by
    intro st
    induction st with
    | nil => rfl
    | cons v t ih => simp [zv_cat] at ih ⊢; omega
  rw [this]; exact hst
def znew (h : zM) (d : Int → Int) : zM := (h.1 + 1, fun a b => if a = h.1 then d b else h.2 a b)
theorem znew_n {h : zM} {d : Int → Int} {a b : Int} (e : ¬ a = h.1) : (znew h d).2 a b = h.2 a b := if_neg e
theorem znew_s {h : zM} {d : Int → Int} {b : Int} : (znew h d).2 h.1 b = d b := if_pos rfl
def zdf (ci : Nat) : Int → Int := fun k => if zfk ci k.toNat = 2 then -1 else 0
section ZNEW
variable {sh : zSh} {l : Launch} {y : MethodName} {cc : ByteArray} {nL : Nat} {ret : Option FieldType} {R : Room} {mc ms : Nat} {Q : Option zV → zM → Prop} {u1 u2 pc n : Nat} {L : List (Option zV)} {st : List zV} {h : zM}
theorem z_push {D : va_G} {g : zG} {A : Nat → Prop} {s : State} {H H1 : Heap} {locs : List Loc} {d : Int → Int} (hA : ∀ q, s.heap.size ≤ q → A q) (I : zI sh D g A s.heap h H locs) (z1 : H1.size = H.size + 1) (o1 : ∀ q, q < H.size → H1[q]? = H[q]?) (hx : va_at D vwCl (H.size, zc sh g (znew h d) (h.1 : Int)) H1) : zI sh D g A s.heap (znew h d) H1 locs := by
  obtain ⟨hP, hD, hS, hg⟩ := I
  have e0 : g.1 (h.1 : Int) = H.size := by have := hg h.1 (Nat.le_refl _); omega
  have ew : zw sh g h ++ [(H.size, zc sh g (znew h d) (h.1 : Int))] = zw sh g (znew h d) := zw_push rfl (fun a k z => znew_n z) e0 rfl
  have hk : ∀ (k : Nat) (x : Nat × va_E), (zw sh g h)[k]? = some x → H1[x.1]? = H[x.1]? := fun k x hx => o1 x.1 ((hP k x hx).lt)
  refine ⟨?_, ?_, ⟨Nat.le_trans hS.1 (by omega), fun x h1 h2 => (o1 x (Nat.lt_of_lt_of_le h1 hS.1)).trans (hS.2.1 x h1 h2), hS.2.2⟩, fun c hc => ?_⟩
  · rw [← ew]
    refine (hP.kept hk).app (fun k x hx1 => ?_)
    have hz : k < 1 := (List.getElem?_eq_some_iff.mp hx1).1
    rw [show k = 0 by omega] at hx1
    cases hx1
    exact hx
  · rw [← ew]
    exact hD.push hP rfl (hA _ hS.1)
  · have hc : h.1 + 1 ≤ c := hc
    have := hg c (by omega)
    show _ = H1.size + (c - (h.1 + 1))
    omega

theorem zj_new {ci idx : Nat} {C : String} {T : u_T} {ty : Nat → FieldType} (hd : zd cc pc (.new idx) 3 n) (hcl : zCl ci C T ty) (w1 : Cond.classLink y.cls idx C ∈ zt) (w2 : Cond.instantiable C (znf ci) ∈ zt) (w3 : Cond.initialized C ∈ zt) (hs : sh (h.1 : Int) = .inl ci) (hu : u1 + 1 ≤ R.cells ∧ u2 + znf ci ≤ R.slots) (kk : ∀ h', h' = znew h (zdf ci) → zJ sh l y cc nL ret R mc ms Q (u1 + 1) (u2 + znf ci) n L (.inr h.1 :: st) h') : zJ sh l y cc nL ret R mc ms Q u1 u2 pc L st h := by
  intro D g p e s m args below meth c A H locs ls X I Z
  have X0 := X
  obtain ⟨hx, hb, hml, hr, hown, hts, hlk, hK, hnm, hA, hZs⟩ := X0
  obtain ⟨hP, hD, hS, hg⟩ := id I
  obtain ⟨q1, q2, q3, q4, q5⟩ := hcl
  have hKn := hK.1 ci _ q1
  refine W.newcK hx hb hown (hts _ w1) (hts _ w2) (hts _ w3) rfl hd.1 hu.1 hu.2 hKn.2.1 rfl fun H1 kC hkC e1 z1 o1 => ?_
  have I1 : zI sh D g A s.heap (znew h (zdf ci)) H1 locs := by
    refine z_push hA I z1 o1 ?_
    rw [zc_obj hs]
    refine ⟨_, q1, (u_born ty hts q2 hKn hkC e1 q3).to (fun j hj => ?_)⟩
    have hj : j < znf ci := hj
    show defaultValue (ty j) = vp_V _ j
    unfold vp_V
    rw [List.getD_eq_getElem?_getD, zfs_at hj, znew_s]
    have h5 := q5 j hj
    show _ = zfv g.1 ci j (if zfk ci (j : Int).toNat = 2 then -1 else 0)
    rw [Int.toNat_natCast]
    unfold zfv
    by_cases hk2 : zfk ci j = 2
    · rw [if_pos hk2, if_pos hk2]
      rw [hk2] at h5
      exact h5.1
    · rw [if_neg hk2, if_neg hk2]
      have h6 : zfk ci j = 0 ∨ zfk ci j = 1 := z_fk ci j hk2
      rcases h6 with h6 | h6
      · rw [h6] at h5
        have h5 : ty j = .int := h5
        rw [h5]
        rfl
      · rw [h6] at h5
        have h5 : ty j = .boolean := h5
        rw [h5]
        rfl
  have e0 : g.1 (h.1 : Int) = H.size := by have := hg h.1 (Nat.le_refl _); omega
  have K := kk _ rfl D g p e s m args below meth c A H1 locs ls X I1 Z
  rw [← hd.2, List.map_cons, zv_ref _ (by omega), e0] at K
  exact K
theorem zj_newi {N : Nat} {a : Int} (hd : zd cc pc (.newarray .int) 2 n) (w1 : Cond.arrayClass .int ∈ zt) (ha : a = N) (hN : N ≤ 1000000) (hs : sh (h.1 : Int) = .inr (0, N)) (hu : u1 + 1 ≤ R.cells ∧ u2 + N ≤ R.slots) (kk : ∀ h', h' = znew h (fun _ => 0) → zJ sh l y cc nL ret R mc ms Q (u1 + 1) (u2 + N) n L (.inr h.1 :: st) h') : zJ sh l y cc nL ret R mc ms Q u1 u2 pc L (.inl a :: st) h := by
  intro D g p e s m args below meth c A H locs ls X I Z
  have X0 := X
  obtain ⟨hx, hb, hml, hr, hown, hts, hlk, hK, hnm, hA, hZs⟩ := X0
  obtain ⟨hP, hD, hS, hg⟩ := id I
  subst ha
  have hnn : (Int32.ofInt (N : Int)).toInt = N := zin_i (by omega)
  refine va_newaK (N := N) hx hb (atype := .int) (hts _ w1) rfl hd.1 rfl (fun q => by rw [Int32.lt_iff_toInt_lt, hnn] at q; simp at q; omega) (by show (Int32.ofInt (N : Int)).toInt.toNat = N; rw [hnn]; rfl) (by show N * 4 ≤ _; omega) hu.1 hu.2 rfl fun H1 cA e1 z1 o1 hof hfc => ?_
  have hcA : cA = g.2.1 := by
    have h1 := (hK.2 0 _ rfl).2
    have h1 : s.vm.findClass ("[" ++ FieldType.int.toString) = some g.2.1 := h1
    exact Option.some.inj (hfc.symm.trans h1)
  subst hcA
  have I1 : zI sh D g A s.heap (znew h (fun _ => 0)) H1 locs := by
    refine z_push hA I z1 o1 ?_
    rw [zc_ia hs]
    show H1[H.size]? = some (vp_cell _ _)
    rw [e1, vp_cell_i]
    congr 2
    funext j
    rw [znew_s]
    rfl
  have e0 : g.1 (h.1 : Int) = H.size := by have := hg h.1 (Nat.le_refl _); omega
  have K := kk _ rfl D g p e s m args below meth c A H1 locs ls X I1 Z
  rw [← hd.2, List.map_cons, zv_ref _ (by omega), e0] at K
  exact K
theorem zj_newz {N : Nat} {a : Int} (hd : zd cc pc (.newarray .boolean) 2 n) (w1 : Cond.arrayClass .boolean ∈ zt) (ha : a = N) (hN : N ≤ 1000000) (hs : sh (h.1 : Int) = .inr (1, N)) (hu : u1 + 1 ≤ R.cells ∧ u2 + N ≤ R.slots) (kk : ∀ h', h' = znew h (fun _ => 0) → zJ sh l y cc nL ret R mc ms Q (u1 + 1) (u2 + N) n L (.inr h.1 :: st) h') : zJ sh l y cc nL ret R mc ms Q u1 u2 pc L (.inl a :: st) h := by
  intro D g p e s m args below meth c A H locs ls X I Z
  have X0 := X
  obtain ⟨hx, hb, hml, hr, hown, hts, hlk, hK, hnm, hA, hZs⟩ := X0
  obtain ⟨hP, hD, hS, hg⟩ := id I
  subst ha
  have hnn : (Int32.ofInt (N : Int)).toInt = N := zin_i (by omega)
  refine va_newaK (N := N) hx hb (atype := .boolean) (hts _ w1) rfl hd.1 rfl (fun q => by rw [Int32.lt_iff_toInt_lt, hnn] at q; simp at q; omega) (by show (Int32.ofInt (N : Int)).toInt.toNat = N; rw [hnn]; rfl) (by show N * 1 ≤ _; omega) hu.1 hu.2 rfl fun H1 cA e1 z1 o1 hof hfc => ?_
  have hcA : cA = g.2.2.1 := by
    have h1 := (hK.2 1 _ rfl).2
    have h1 : s.vm.findClass ("[" ++ FieldType.boolean.toString) = some g.2.2.1 := h1
    exact Option.some.inj (hfc.symm.trans h1)
  subst hcA
  have I1 : zI sh D g A s.heap (znew h (fun _ => 0)) H1 locs := by
    refine z_push hA I z1 o1 ?_
    rw [zc_za hs]
    show H1[H.size]? = some (vp_cell _ _)
    rw [e1, vp_cell_i]
    congr 2
    funext j
    rw [znew_s]
    rfl
  have e0 : g.1 (h.1 : Int) = H.size := by have := hg h.1 (Nat.le_refl _); omega
  have K := kk _ rfl D g p e s m args below meth c A H1 locs ls X I1 Z
  rw [← hd.2, List.map_cons, zv_ref _ (by omega), e0] at K
  exact K
theorem zj_anew {N idx : Nat} {a : Int} (hd : zd cc pc (.anewarray idx) 3 n) (w1 : Cond.classLink y.cls idx RX1 ∈ zt) (w2 : Cond.arrayOver (.object RX1) ∈ zt) (ha : a = N) (hN : N ≤ 1000000) (hs : sh (h.1 : Int) = .inr (2, N)) (hu : u1 + 1 ≤ R.cells ∧ u2 + N ≤ R.slots) (kk : ∀ h', h' = znew h (fun _ => -1) → zJ sh l y cc nL ret R mc ms Q (u1 + 1) (u2 + N) n L (.inr h.1 :: st) h') : zJ sh l y cc nL ret R mc ms Q u1 u2 pc L (.inl a :: st) h := by
  intro D g p e s m args below meth c A H locs ls X I Z
  have X0 := X
  obtain ⟨hx, hb, hml, hr, hown, hts, hlk, hK, hnm, hA, hZs⟩ := X0
  obtain ⟨hP, hD, hS, hg⟩ := id I
  subst ha
  have hnn : (Int32.ofInt (N : Int)).toInt = N := zin_i (by omega)
  have hcl : (Int32.ofInt (N : Int)).toNatClampNeg = N := by show (Int32.ofInt (N : Int)).toInt.toNat = N; rw [hnn]; rfl
  refine W.anew hx hb hown (hts _ w1) (hts _ w2) rfl hd.1 rfl (fun q => by rw [Int32.lt_iff_toInt_lt, hnn] at q; simp at q; omega) (by rw [hcl]; omega) hu.1 (by rw [hcl]; exact hu.2) fun cA kA comp f1 f2 f3 f4 => ?_
  rw [hcl]
  have hcA : cA = g.2.2.2 := by
    obtain ⟨kA', comp', -, -, -, h1⟩ := (hK.2 2 _ rfl).2
    exact Option.some.inj (f1.symm.trans h1)
  subst hcA
  have I1 : zI sh D g A s.heap (znew h (fun _ => -1)) (H.push { cls := g.2.2.2, slots := Array.replicate N .null, vm := .none }) locs := by
    refine z_push hA I (by simp) (fun q hq => by simp [Array.getElem?_push, Nat.ne_of_lt hq]) ?_
    rw [zc_ra hs]
    show (Array.push H _)[H.size]? = some (vp_cell _ _)
    have e2 : (fun (j : Nat) => zo g.1 ((znew h (fun _ => -1)).2 (h.1 : Int) j)) = fun _ => none := by funext j; rw [znew_s]; rfl
    rw [e2]
    simp [vp_cell, arrV]
    first | done | (apply Array.ext <;> simp [va_rf]) | (congr 1; apply Array.ext <;> simp [va_rf])
  have e0 : g.1 (h.1 : Int) = H.size := by have := hg h.1 (Nat.le_refl _); omega
  have K := kk _ rfl D g p e s m args below meth c A _ locs ls X I1 Z
  rw [← hd.2, List.map_cons, zv_ref _ (by omega), e0] at K
  exact K
theorem zj_oinit {idx : Nat} {c0 : Int} (hd : zd cc pc (.invokespecial idx) 3 n) (w1 : Cond.methodLink y.cls idx objectInit ∈ zt) (w2 : Cond.instanceMethod objectInit ∈ zt) (w3 : Cond.code objectInit ⟨#[0xb1]⟩ 1 none ∈ zt) (hc : ¬ c0 = -1) (hst : st.length ≤ 8) (hR : 1 ≤ R.frames ∧ 20 ≤ R.locals) (kk : zJ sh l y cc nL ret R mc ms Q u1 u2 n L st h) : zJ sh l y cc nL ret R mc ms Q u1 u2 pc L (.inr c0 :: st) h := by
  intro D g p e s m args below meth c A H locs ls X I Z
  have X0 := X
  obtain ⟨hx, hb, hml, hr, hown, hts, hlk, hK, hnm, hA, hZs⟩ := X0
  obtain ⟨hP, hD, hS, hg⟩ := id I
  rw [List.map_cons, zv_ref _ hc]
  refine W.objInit hx hb hown (hts _ w1) (hts _ w2) (hts _ w3) rfl (by rw [hml]; exact Z.2.1) rfl hd.1 hR.1 (by have := z_cat g.1 st hst; have h9 := lv_room (m := m) (pc := pc) (ls := ls) (rest := .ref (g.1 c0) :: st.map (zv g.1)) this; omega) ?_
  have K := kk D g p e s m args below meth c A H locs ls X I Z
  rw [← hd.2] at K
  exact K
end ZNEW
theorem zStr.moved {g : zG} {A B : Nat → Prop} {s U : State} {H : Heap} {locs : List Loc} (h : zStr g A s) (hU : U.heap = H) (hW : s.WarmedH U.vm) (hS : va_S A s.heap H locs) (hAB : ∀ q, B q → A q) : zStr g B U := by
  subst hU
  exact ⟨((h.1.kept hS.2.1).narrow hAB).moved hW.alike, ((h.2.1.kept hS.2.1).narrow hAB).moved hW.alike, fun q hq => (h.2.2 q hq).warm hW⟩
theorem zStr.calling {g : zG} {A : Nat → Prop} {U : State} (h : zStr g A U) (f : JFrame) (mk : MethodId) (a : Array Value) : zStr g A (U.calling f mk a) :=
  ⟨vk_S.moved (u := U) (U := U.calling f mk a) (Vm.Alike.refl U.vm) h.1, va_Z.moved (u := U) (U := U.calling f mk a) (Vm.Alike.refl U.vm) h.2.1, fun q hq => vk_R.same (u := U) (U := U.calling f mk a) rfl (h.2.2 q hq)⟩
section ZCALL
variable {sh : zSh} {l : Launch} {y : MethodName} {cc : ByteArray} {nL : Nat} {ret : Option FieldType} {R : Room} {mc ms : Nat} {Q : Option zV → zM → Prop} {u1 u2 pc n : Nat} {L : List (Option zV)} {st : List zV} {h : zM}
def zPc (sh : zSh) (D : va_G) (g : zG) (sz : Nat) (av : List zV) (h : zM) : Array Value → State → Prop := fun v U => v = (av.map (zv g.1)).toArray ∧ U.heap.size = sz ∧ va_P D vwCl (zw sh g h) U.heap ∧ va_D (fun _ => True) (zw sh g h) ∧ (∀ c : Nat, h.1 ≤ c → g.1 (c : Int) = sz + (c - h.1)) ∧ va_K D vwCl (ztys g) U ∧ zStr g (va_A (zw sh g h) sz) U
theorem zPc_blind (sh : zSh) (D : va_G) (g : zG) (sz : Nat) (av : List zV) (h : zM) : FrameBlind (zPc sh D g sz av h) := by
  intro a U f mk q
  obtain ⟨q0, q1, qP, qD, qg, qK, qZ⟩ := q
  exact ⟨q0, q1, qP, qD, qg, va_K.moved (u := U) (U := U.calling f mk a) (Vm.Alike.refl U.vm) qK, qZ.calling f mk a⟩
theorem zA_sub {D : va_G} {g : zG} {A : Nat → Prop} {s : State} {H : Heap} {locs : List Loc} (hA : ∀ q, s.heap.size ≤ q → A q) (I : zI sh D g A s.heap h H locs) : ∀ q, va_A (zw sh g h) H.size q → A q := by
  intro q hq
  rcases hq with ⟨k, e, hk⟩ | hq
  · exact I.2.1.2 k (q, e) hk
  · exact hA q (Nat.le_trans I.2.2.1.1 hq)
theorem zPc_at {D : va_G} {g : zG} {p : Program} {s : State} {m : MethodId} {args : Array Value} {meth : Method} {c : Code} {A : Nat → Prop} {H : Heap} {locs : List Loc} (X : zX y cc nL ret D g p s m args meth c A) (I : zI sh D g A s.heap h H locs) (av : List zV) (U : State) (hU : U.heap = H) (hW : s.WarmedH U.vm) : zPc sh D g H.size av h (av.map (zv g.1)).toArray U := by
  obtain ⟨hx, hb, hml, hr, hown, hts, hlk, hK, hnm, hA, hZs⟩ := X
  have hsub := zA_sub hA I
  obtain ⟨hP, hD, hS, hg⟩ := I
  exact ⟨rfl, by rw [hU], by rw [hU]; exact hP, zD_weak hD (fun _ _ => trivial), hg, va_K.moved hW.alike hK, hZs.moved hU hW hS hsub⟩
theorem z_back {D : va_G} {g : zG} {p : Program} {e : Env} {s : State} {m : MethodId} {args : Array Value} {below : List Frame} {meth : Method} {c : Code} {A : Nat → Prop} {H : Heap} {locs : List Loc} {ls : Array Slot} {st0 rest : List Value} {mc' ms' : Nat} {Q' : Option zV → zM → Prop} {a : Array Value} {Qf : State → Prop} (X : zX y cc nL ret D g p s m args meth c A) (I : zI sh D g A s.heap h H locs)
    (hr : va_Run p l e R s m args below meth c H locs u1 u2 mc' ms' (F0 m pc ls st0) rest (zQ sh D g (va_A (zw sh g h) H.size) Q' a) (va_A (zw sh g h) H.size))
    (kk : ∀ (r : Option zV) (h' : zM), Q' r h' → ∀ (H1 : Heap) (locs1 : List Loc), zI sh D g A s.heap h' H1 locs1 → W p l e R s m args below meth c H1 locs1 (u1 + mc') (u2 + ms') Qf (F0 m (pc + 3) ls ((r.map (zv g.1)).toList ++ rest))) : W p l e R s m args below meth c H locs u1 u2 Qf (F0 m pc ls st0) := by
  obtain ⟨hx, hb, hml, hr2, hown, hts, hlk, hK, hnm, hA, hZs⟩ := X
  have hsub := zA_sub hA I
  obtain ⟨hP, hD, hS, hg⟩ := I
  intro T hT XX
  obtain ⟨v, st₀, t, T', L, h0, X', hL, e1, e2, ⟨⟨r, h', hv, hQ, hP1, hD1, hg1⟩, hz, hk⟩, go⟩ := hr T hT XX
  cases hv
  rw [h0] at hz hk
  obtain ⟨t2, a1, b1⟩ := kk r h' hQ T'.heap (locs ++ L) ⟨by rw [e1]; exact hP1, zD_weak hD1 hsub, ⟨Nat.le_trans hS.1 (by rw [e1]; exact hz), fun q h1 h2 => by rw [e1, hk q (Nat.lt_of_lt_of_le h1 hS.1) (fun z => h2 (hsub q z))]; exact hS.2.1 q h1 h2, fun q hq => by
      rcases List.mem_append.mp hq with h | h
      · exact hS.2.2 q h
      · exact hsub _ (hL q h)⟩, by rw [e1]; exact hg1⟩ T' rfl X'
  exact ⟨t2, go t2 a1, b1⟩
/-- what a method's own words say, for every road to it -/
def zMb (y' : MethodName) (cc' : ByteArray) (nL' : Nat) (ret' : Option FieldType) (np : Nat) : Prop := Cond.code y' cc' nL' ret' ∈ zt ∧ Cond.initialized y'.cls ∈ zt ∧ (y'.cls ≠ "java/lang/invoke/MethodHandle" ∧ y'.cls ≠ "java/lang/invoke/VarHandle" ∧ (parseMethodDescriptor y'.desc).map (fun d => d.parameters.length) = some np)
def zMV (own : String) (idx : Nat) (C : String) (y' : MethodName) : Prop := Cond.methodLink own idx y' ∈ zt ∧ Cond.instanceMethod y' ∈ zt ∧ Cond.selects C y' y' ∈ zt
def zMS (own : String) (idx : Nat) (y' : MethodName) : Prop := Cond.static y' ∈ zt ∧ (Cond.methodLink own idx y' ∈ zt ∨ ∃ host, Cond.methodLinkNest own idx y' host ∈ zt)
def zMI (own : String) (idx : Nat) (y' : MethodName) : Prop := Cond.instanceMethod y' ∈ zt ∧ y'.name = "<init>" ∧ (Cond.methodLink own idx y' ∈ zt ∨ ∃ host, Cond.methodLinkNest own idx y' host ∈ zt)
def zRm (R rm' : Room) (nL' u1 u2 mc' ms' : Nat) : Prop := rm'.cells = mc' ∧ rm'.slots = ms' ∧ (rm'.frames + 1 ≤ R.frames ∧ 8 + (nL' + 11) + rm'.locals ≤ R.locals) ∧ (u1 + mc' ≤ R.cells ∧ u2 + ms' ≤ R.slots)
theorem z_toList (ad : Int → Nat) (r : Option zV) (st : List zV) : (r.map (zv ad)).toList ++ st.map (zv ad) = (r.toList ++ st).map (zv ad) := by cases r <;> rfl

theorem zj_callV {c0 : Int} {ci idx : Nat} {q : vw_C} {y' : MethodName} {cc' : ByteArray} {nL' : Nat} {ret' : Option FieldType} {rm' : Room} {mc' ms' np : Nat} {Q' : Option zV → zM → Prop} {av st0 : List zV} (hd : zd cc pc (.invokevirtual idx) 3 n) (hb1 : zMb y' cc' nL' ret' np) (hm : zMV y.cls idx y'.cls y') (hcl : vwCl[ci]? = some q) (hcn : q.1 = y'.cls) (hsc : sh c0 = .inl ci ∧ 0 ≤ c0 ∧ c0 < h.1) (hst : st0 = av.reverse ++ .inr c0 :: st) (hlen : av.length = np) (hrest : st.length ≤ 8) (hT : zT sh l y' cc' nL' ret' rm' mc' ms' (.inr c0 :: av) h Q') (hrm : zRm R rm' nL' u1 u2 mc' ms') (kk : ∀ r h', Q' r h' → zJ sh l y cc nL ret R mc ms Q (u1 + mc') (u2 + ms') n L (r.toList ++ st) h') : zJ sh l y cc nL ret R mc ms Q u1 u2 pc L st0 h := by
  intro D g p e s m args below meth c A H locs ls X I Z
  have X0 := X
  obtain ⟨hx, hb, hml, hr, hown, hts, hlk, hK, hnm, hA, hZs⟩ := X0
  obtain ⟨hP, hD, hS, hg⟩ := id I
  subst hst
  obtain ⟨cn, rfl⟩ : ∃ cn : Nat, c0 = cn := ⟨c0.toNat, by omega⟩
  have hP1 := zw_at sh g h (c := cn) (by omega)
  rw [zc_obj hsc.1] at hP1
  have hrun : va_Run p l e R s m args below meth c H locs u1 u2 mc' ms' (F0 m pc ls ((av.map (zv g.1)).reverse ++ .ref (g.1 cn) :: st.map (zv g.1))) (st.map (zv g.1)) (zQ sh D g (va_A (zw sh g h) H.size) Q' (Value.ref (g.1 cn) :: av.map (zv g.1)).toArray) (va_A (zw sh g h) H.size) := by
    refine va_runV (C := y'.cls) ⟨hx, hb, hml, hown, hts⟩ (hT D g H.size) ⟨callB_of np hts (zws_good hb1.1) rfl hrm.1 hrm.2.1 (hts _ hb1.2.1) (hts _ hm.1) hb1.2.2 hrm.2.2.1, hts _ hm.2.1, hts _ hm.2.2⟩ ⟨zPc_blind sh D g H.size _ h, ?_, fun U hU hW => ?_⟩ rfl (by rw [List.length_map]; exact hlen) (by rw [← hml]; exact (Z.2.1).trans hml.symm) rfl (lv_room (z_cat g.1 st hrest)) hd.1 hrm.2.2.2
    · have := va_recv hK hP hcl hP1
      rw [hcn] at this
      exact this
    · have := zPc_at X I (.inr (cn : Int) :: av) U hU hW
      rw [List.map_cons, zv_ref _ (show ¬ (cn : Int) = -1 by omega)] at this
      exact this
  rw [List.map_append, List.map_reverse, List.map_cons, zv_ref _ (show ¬ (cn : Int) = -1 by omega)]
  refine z_back X I hrun (fun r h' hq H1 locs1 I1 => ?_)
  have K := kk r h' hq D g p e s m args below meth c A H1 locs1 ls X I1 Z
  rw [← hd.2] at K
  rw [z_toList]
  exact K
theorem zj_callS {idx : Nat} {y' : MethodName} {cc' : ByteArray} {nL' : Nat} {ret' : Option FieldType} {rm' : Room} {mc' ms' np : Nat} {Q' : Option zV → zM → Prop} {av st0 : List zV} (hd : zd cc pc (.invokestatic idx) 3 n) (hb1 : zMb y' cc' nL' ret' np) (hm : zMS y.cls idx y') (hst : st0 = av.reverse ++ st) (hlen : av.length = np) (hrest : st.length ≤ 8) (hT : zT sh l y' cc' nL' ret' rm' mc' ms' av h Q') (hrm : zRm R rm' nL' u1 u2 mc' ms') (kk : ∀ r h', Q' r h' → zJ sh l y cc nL ret R mc ms Q (u1 + mc') (u2 + ms') n L (r.toList ++ st) h') : zJ sh l y cc nL ret R mc ms Q u1 u2 pc L st0 h := by
  intro D g p e s m args below meth c A H locs ls X I Z
  have X0 := X
  obtain ⟨hx, hb, hml, hr, hown, hts, hlk, hK, hnm, hA, hZs⟩ := X0
  obtain ⟨hP, hD, hS, hg⟩ := id I
  subst hst
  have hrun : va_Run p l e R s m args below meth c H locs u1 u2 mc' ms' (F0 m pc ls ((av.map (zv g.1)).reverse ++ st.map (zv g.1))) (st.map (zv g.1)) (zQ sh D g (va_A (zw sh g h) H.size) Q' (av.map (zv g.1)).toArray) (va_A (zw sh g h) H.size) := by
    rcases hm.2 with hm2 | ⟨host, hm2⟩
    · exact va_runS ⟨hx, hb, hml, hown, hts⟩ (hT D g H.size) ⟨callB_of np hts (zws_good hb1.1) rfl hrm.1 hrm.2.1 (hts _ hb1.2.1) (hts _ hm2) hb1.2.2 hrm.2.2.1, hts _ hm.1⟩ ⟨zPc_blind sh D g H.size _ h, fun U hU hW => zPc_at X I av U hU hW⟩ rfl (by rw [List.length_map]; exact hlen) (by rw [← hml]; exact (Z.2.1).trans hml.symm) rfl (lv_room (z_cat g.1 st hrest)) hd.1 hrm.2.2.2
    · exact va_runSN ⟨hx, hb, hml, hown, hts⟩ (hT D g H.size) ⟨va_cnB np hts (zws_good hb1.1) rfl hrm.1 hrm.2.1 (va_Nw.of rfl (hts _ hm2)) (hts _ hb1.2.1) hb1.2.2 hrm.2.2.1, hts _ hm.1, trivial⟩ ⟨zPc_blind sh D g H.size _ h, fun U hU hW => zPc_at X I av U hU hW⟩ rfl (by rw [List.length_map]; exact hlen) (by rw [← hml]; exact (Z.2.1).trans hml.symm) rfl (lv_room (z_cat g.1 st hrest)) hd.1 hrm.2.2.2
  rw [List.map_append, List.map_reverse]
  refine z_back X I hrun (fun r h' hq H1 locs1 I1 => ?_)
  have K := kk r h' hq D g p e s m args below meth c A H1 locs1 ls X I1 Z
  rw [← hd.2] at K
  rw [z_toList]
  exact K
theorem zj_callI {c0 : Int} {idx : Nat} {y' : MethodName} {cc' : ByteArray} {nL' : Nat} {ret' : Option FieldType} {rm' : Room} {mc' ms' np : Nat} {Q' : Option zV → zM → Prop} {av st0 : List zV} (hd : zd cc pc (.invokespecial idx) 3 n) (hb1 : zMb y' cc' nL' none np) (hm : zMI y.cls idx y') (hc : ¬ c0 = -1) (hst : st0 = av.reverse ++ .inr c0 :: st) (hlen : av.length = np) (hrest : st.length ≤ 8) (hT : zT sh l y' cc' nL' none rm' mc' ms' (.inr c0 :: av) h Q') (hrm : zRm R rm' nL' u1 u2 mc' ms') (kk : ∀ r h', Q' r h' → zJ sh l y cc nL ret R mc ms Q (u1 + mc') (u2 + ms') n L (r.toList ++ st) h') : zJ sh l y cc nL ret R mc ms Q u1 u2 pc L st0 h := by
  intro D g p e s m args below meth c A H locs ls X I Z
  have X0 := X
  obtain ⟨hx, hb, hml, hr, hown, hts, hlk, hK, hnm, hA, hZs⟩ := X0
  obtain ⟨hP, hD, hS, hg⟩ := id I
  subst hst
  have hpre : PreS s H (zPc sh D g H.size (.inr c0 :: av) h) (.ref (g.1 c0) :: av.map (zv g.1)) := ⟨zPc_blind sh D g H.size _ h, fun U hU hW => by
    have := zPc_at X I (.inr c0 :: av) U hU hW
    rw [List.map_cons, zv_ref _ hc] at this
    exact this⟩
  have hrun : va_Run p l e R s m args below meth c H locs u1 u2 mc' ms' (F0 m pc ls ((av.map (zv g.1)).reverse ++ .ref (g.1 c0) :: st.map (zv g.1))) (st.map (zv g.1)) (zQ sh D g (va_A (zw sh g h) H.size) Q' (Value.ref (g.1 c0) :: av.map (zv g.1)).toArray) (va_A (zw sh g h) H.size) := by
    rcases hm.2.2 with hm2 | ⟨host, hm2⟩
    · exact va_runI ⟨hx, hb, hml, hown, hts⟩ (hT D g H.size) ⟨callB_of np hts (zws_good hb1.1) rfl hrm.1 hrm.2.1 (hts _ hb1.2.1) (hts _ hm2) hb1.2.2 hrm.2.2.1, hm.2.1, hts _ hm.1⟩ hpre rfl (by rw [List.length_map]; exact hlen) (by rw [← hml]; exact (Z.2.1).trans hml.symm) rfl (lv_room (z_cat g.1 st hrest)) hd.1 hrm.2.2.2
    · exact va_runIN ⟨hx, hb, hml, hown, hts⟩ (hT D g H.size) ⟨va_cnB np hts (zws_good hb1.1) rfl hrm.1 hrm.2.1 (va_Nw.of rfl (hts _ hm2)) (hts _ hb1.2.1) hb1.2.2 hrm.2.2.1, hm.2.1, hts _ hm.1⟩ hpre rfl (by rw [List.length_map]; exact hlen) (by rw [← hml]; exact (Z.2.1).trans hml.symm) rfl (lv_room (z_cat g.1 st hrest)) hd.1 hrm.2.2.2
  rw [List.map_append, List.map_reverse, List.map_cons, zv_ref _ hc]
  refine z_back X I hrun (fun r h' hq H1 locs1 I1 => ?_)
  have K := kk r h' hq D g p e s m args below meth c A H1 locs1 ls X I1 Z
  rw [← hd.2] at K
  rw [z_toList]
  exact K
def zqi (P : Int → zM → Prop) : Option zV → zM → Prop := fun r h' => ∃ v, r = some (.inl v) ∧ P v h'
def zqv (P : zM → Prop) : Option zV → zM → Prop := fun r h' => r = none ∧ P h'
theorem zq_i {P : Int → zM → Prop} (kk : ∀ v h', P v h' → zJ sh l y cc nL ret R mc ms Q u1 u2 n L (.inl v :: st) h') : ∀ r h', zqi P r h' → zJ sh l y cc nL ret R mc ms Q u1 u2 n L (r.toList ++ st) h' := by
  rintro _ h' ⟨v, rfl, hp⟩
  exact kk v h' hp
theorem zq_v {P : zM → Prop} (kk : ∀ h', P h' → zJ sh l y cc nL ret R mc ms Q u1 u2 n L st h') : ∀ r h', zqv P r h' → zJ sh l y cc nL ret R mc ms Q u1 u2 n L (r.toList ++ st) h' := by
  rintro _ h' ⟨rfl, hp⟩
  exact kk h' hp
end ZCALL
end
