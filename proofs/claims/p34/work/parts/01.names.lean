-- ===== PART A: goes FIRST, ahead of the names: the tables' words, and 'selects' of the private methods out of them =====
/-- a private method of a class that the tables say can be made, by its rows of tables_1 -/
def lw_okq (q : MethodName × Nat) : Prop := (q.1.cls ≠ "java/lang/invoke/MethodHandle" ∧ q.1.cls ≠ "java/lang/invoke/VarHandle") ∧ Cond.instantiable q.1.cls q.2 ∈ tables_1 ∧ Cond.privateMethod q.1 ∈ tables_1 ∧ Cond.instanceMethod q.1 ∈ tables_1
theorem lw_p0 : lw_okq (⟨"RopeClock", "forget", "()V"⟩, 11) := ⟨⟨by decide +kernel, by decide +kernel⟩, List.mem_of_getElem? (i := 23) (by decide +kernel), List.mem_of_getElem? (i := 416) (by decide +kernel), List.mem_of_getElem? (i := 417) (by decide +kernel)⟩
theorem lw_p1 : lw_okq (⟨"RopeClock", "canBeSet", "(III)Z"⟩, 11) := ⟨⟨by decide +kernel, by decide +kernel⟩, List.mem_of_getElem? (i := 23) (by decide +kernel), List.mem_of_getElem? (i := 435) (by decide +kernel), List.mem_of_getElem? (i := 436) (by decide +kernel)⟩
theorem lw_p2 : lw_okq (⟨"RopeClock", "canAct", "(II)Z"⟩, 11) := ⟨⟨by decide +kernel, by decide +kernel⟩, List.mem_of_getElem? (i := 23) (by decide +kernel), List.mem_of_getElem? (i := 447) (by decide +kernel), List.mem_of_getElem? (i := 448) (by decide +kernel)⟩
theorem lw_p3 : lw_okq (⟨"RopeClock", "remembe\x72", "()V"⟩, 11) := ⟨⟨by decide +kernel, by decide +kernel⟩, List.mem_of_getElem? (i := 23) (by decide +kernel), List.mem_of_getElem? (i := 459) (by decide +kernel), List.mem_of_getElem? (i := 460) (by decide +kernel)⟩
theorem lw_p4 : lw_okq (⟨"RopeClock$World", "happen", "(II)V"⟩, 7) := ⟨⟨by decide +kernel, by decide +kernel⟩, List.mem_of_getElem? (i := 31) (by decide +kernel), List.mem_of_getElem? (i := 521) (by decide +kernel), List.mem_of_getElem? (i := 522) (by decide +kernel)⟩
theorem lw_p5 : lw_okq (⟨"RopeClock$World", "sailOut", "(IZ)V"⟩, 7) := ⟨⟨by decide +kernel, by decide +kernel⟩, List.mem_of_getElem? (i := 31) (by decide +kernel), List.mem_of_getElem? (i := 535) (by decide +kernel), List.mem_of_getElem? (i := 536) (by decide +kernel)⟩
theorem lw_p6 : lw_okq (⟨"RopeClock$World", "isWilling", "(IIZ)Z"⟩, 7) := ⟨⟨by decide +kernel, by decide +kernel⟩, List.mem_of_getElem? (i := 31) (by decide +kernel), List.mem_of_getElem? (i := 540) (by decide +kernel), List.mem_of_getElem? (i := 541) (by decide +kernel)⟩
theorem lw_p7 : lw_okq (⟨"RopeClock$World", "sailBack", "(IZ)V"⟩, 7) := ⟨⟨by decide +kernel, by decide +kernel⟩, List.mem_of_getElem? (i := 31) (by decide +kernel), List.mem_of_getElem? (i := 555) (by decide +kernel), List.mem_of_getElem? (i := 556) (by decide +kernel)⟩
theorem lw_p8 : lw_okq (⟨"RopeClock$World", "runClock", "()V"⟩, 7) := ⟨⟨by decide +kernel, by decide +kernel⟩, List.mem_of_getElem? (i := 31) (by decide +kernel), List.mem_of_getElem? (i := 560) (by decide +kernel), List.mem_of_getElem? (i := 561) (by decide +kernel)⟩
theorem lw_p9 : lw_okq (⟨"RopeClock$Tape", "wordAt", "(Ljava/lang/String;II)I"⟩, 10) := ⟨⟨by decide +kernel, by decide +kernel⟩, List.mem_of_getElem? (i := 300) (by decide +kernel), List.mem_of_getElem? (i := 599) (by decide +kernel), List.mem_of_getElem? (i := 600) (by decide +kernel)⟩
theorem lw_p10 : lw_okq (⟨"RopeClock$Tape", "isSame", "(Ljava/lang/String;III)Z"⟩, 10) := ⟨⟨by decide +kernel, by decide +kernel⟩, List.mem_of_getElem? (i := 300) (by decide +kernel), List.mem_of_getElem? (i := 651) (by decide +kernel), List.mem_of_getElem? (i := 652) (by decide +kernel)⟩
theorem lw_p11 : lw_okq (⟨"RopeClock$Tape", "putToken", "(II)V"⟩, 10) := ⟨⟨by decide +kernel, by decide +kernel⟩, List.mem_of_getElem? (i := 300) (by decide +kernel), List.mem_of_getElem? (i := 655) (by decide +kernel), List.mem_of_getElem? (i := 656) (by decide +kernel)⟩
theorem lw_p12 : lw_okq (⟨"RopeClock$Tape", "numberAt", "(II)I"⟩, 10) := ⟨⟨by decide +kernel, by decide +kernel⟩, List.mem_of_getElem? (i := 300) (by decide +kernel), List.mem_of_getElem? (i := 662) (by decide +kernel), List.mem_of_getElem? (i := 663) (by decide +kernel)⟩
theorem lw_p13 : lw_okq (⟨"RopeClock$TextReade\x72", "readLawLine", "(LRopeClock$Law;I)Z"⟩, 1) := ⟨⟨by decide +kernel, by decide +kernel⟩, List.mem_of_getElem? (i := 342) (by decide +kernel), List.mem_of_getElem? (i := 734) (by decide +kernel), List.mem_of_getElem? (i := 735) (by decide +kernel)⟩
theorem lw_p14 : lw_okq (⟨"RopeClock$TextReade\x72", "readSum", "(LRopeClock$Law;)Z"⟩, 1) := ⟨⟨by decide +kernel, by decide +kernel⟩, List.mem_of_getElem? (i := 342) (by decide +kernel), List.mem_of_getElem? (i := 742) (by decide +kernel), List.mem_of_getElem? (i := 743) (by decide +kernel)⟩
theorem lw_p15 : lw_okq (⟨"RopeClock$TextReade\x72", "readOperand", "(LRopeClock$Law;Z)Z"⟩, 1) := ⟨⟨by decide +kernel, by decide +kernel⟩, List.mem_of_getElem? (i := 342) (by decide +kernel), List.mem_of_getElem? (i := 746) (by decide +kernel), List.mem_of_getElem? (i := 747) (by decide +kernel)⟩
def lw_privs_1 : List (MethodName × Nat) := [(⟨"RopeClock", "forget", "()V"⟩, 11), (⟨"RopeClock", "canBeSet", "(III)Z"⟩, 11), (⟨"RopeClock", "canAct", "(II)Z"⟩, 11), (⟨"RopeClock", "remembe\x72", "()V"⟩, 11), (⟨"RopeClock$World", "happen", "(II)V"⟩, 7), (⟨"RopeClock$World", "sailOut", "(IZ)V"⟩, 7), (⟨"RopeClock$World", "isWilling", "(IIZ)Z"⟩, 7), (⟨"RopeClock$World", "sailBack", "(IZ)V"⟩, 7), (⟨"RopeClock$World", "runClock", "()V"⟩, 7), (⟨"RopeClock$Tape", "wordAt", "(Ljava/lang/String;II)I"⟩, 10), (⟨"RopeClock$Tape", "isSame", "(Ljava/lang/String;III)Z"⟩, 10), (⟨"RopeClock$Tape", "putToken", "(II)V"⟩, 10), (⟨"RopeClock$Tape", "numberAt", "(II)I"⟩, 10), (⟨"RopeClock$TextReade\x72", "readLawLine", "(LRopeClock$Law;I)Z"⟩, 1), (⟨"RopeClock$TextReade\x72", "readSum", "(LRopeClock$Law;)Z"⟩, 1), (⟨"RopeClock$TextReade\x72", "readOperand", "(LRopeClock$Law;Z)Z"⟩, 1)]
theorem lw_r1 : ∀ q ∈ lw_privs_1, lw_okq q := List.forall_mem_cons.mpr ⟨lw_p0, List.forall_mem_cons.mpr ⟨lw_p1, List.forall_mem_cons.mpr ⟨lw_p2, List.forall_mem_cons.mpr ⟨lw_p3, List.forall_mem_cons.mpr ⟨lw_p4, List.forall_mem_cons.mpr ⟨lw_p5, List.forall_mem_cons.mpr ⟨lw_p6, List.forall_mem_cons.mpr ⟨lw_p7, List.forall_mem_cons.mpr ⟨lw_p8, List.forall_mem_cons.mpr ⟨lw_p9, List.forall_mem_cons.mpr ⟨lw_p10, List.forall_mem_cons.mpr ⟨lw_p11, List.forall_mem_cons.mpr ⟨lw_p12, List.forall_mem_cons.mpr ⟨lw_p13, List.forall_mem_cons.mpr ⟨lw_p14, List.forall_mem_cons.mpr ⟨lw_p15, fun _ h => absurd h List.not_mem_nil⟩⟩⟩⟩⟩⟩⟩⟩⟩⟩⟩⟩⟩⟩⟩⟩
theorem lw_p16 : lw_okq (⟨"RopeClock$TextReade\x72", "readChoice", "(LRopeClock$Law;I)Z"⟩, 1) := ⟨⟨by decide +kernel, by decide +kernel⟩, List.mem_of_getElem? (i := 342) (by decide +kernel), List.mem_of_getElem? (i := 760) (by decide +kernel), List.mem_of_getElem? (i := 761) (by decide +kernel)⟩
theorem lw_p17 : lw_okq (⟨"RopeClock$TextReade\x72", "readSingle", "(LRopeClock$Law;I)Z"⟩, 1) := ⟨⟨by decide +kernel, by decide +kernel⟩, List.mem_of_getElem? (i := 342) (by decide +kernel), List.mem_of_getElem? (i := 764) (by decide +kernel), List.mem_of_getElem? (i := 765) (by decide +kernel)⟩
theorem lw_p18 : lw_okq (⟨"RopeClock$TextReade\x72", "readBoat", "(LRopeClock$Plan;I)Z"⟩, 1) := ⟨⟨by decide +kernel, by decide +kernel⟩, List.mem_of_getElem? (i := 342) (by decide +kernel), List.mem_of_getElem? (i := 783) (by decide +kernel), List.mem_of_getElem? (i := 784) (by decide +kernel)⟩
theorem lw_p19 : lw_okq (⟨"RopeClock$TextReade\x72", "readDay", "(LRopeClock$Plan;I)Z"⟩, 1) := ⟨⟨by decide +kernel, by decide +kernel⟩, List.mem_of_getElem? (i := 342) (by decide +kernel), List.mem_of_getElem? (i := 787) (by decide +kernel), List.mem_of_getElem? (i := 788) (by decide +kernel)⟩
theorem lw_p20 : lw_okq (⟨"RopeClock$TextReade\x72", "readDoing", "(LRopeClock$Plan;II)Z"⟩, 1) := ⟨⟨by decide +kernel, by decide +kernel⟩, List.mem_of_getElem? (i := 342) (by decide +kernel), List.mem_of_getElem? (i := 807) (by decide +kernel), List.mem_of_getElem? (i := 808) (by decide +kernel)⟩
theorem lw_p21 : lw_okq (⟨"RopeClock$TextReade\x72", "readAmount", "(II)Z"⟩, 1) := ⟨⟨by decide +kernel, by decide +kernel⟩, List.mem_of_getElem? (i := 342) (by decide +kernel), List.mem_of_getElem? (i := 811) (by decide +kernel), List.mem_of_getElem? (i := 812) (by decide +kernel)⟩
theorem lw_p22 : lw_okq (⟨"RopeClock$TextReade\x72", "readKinLine", "(LRopeClock$Kinship;I)Z"⟩, 1) := ⟨⟨by decide +kernel, by decide +kernel⟩, List.mem_of_getElem? (i := 342) (by decide +kernel), List.mem_of_getElem? (i := 827) (by decide +kernel), List.mem_of_getElem? (i := 828) (by decide +kernel)⟩
theorem lw_p23 : lw_okq (⟨"RopeClock", "fewestWinding", "(I)I"⟩, 11) := ⟨⟨by decide +kernel, by decide +kernel⟩, List.mem_of_getElem? (i := 23) (by decide +kernel), List.mem_of_getElem? (i := 886) (by decide +kernel), List.mem_of_getElem? (i := 887) (by decide +kernel)⟩
theorem lw_p24 : lw_okq (⟨"RopeClock", "addToSums", "(III)V"⟩, 11) := ⟨⟨by decide +kernel, by decide +kernel⟩, List.mem_of_getElem? (i := 23) (by decide +kernel), List.mem_of_getElem? (i := 899) (by decide +kernel), List.mem_of_getElem? (i := 900) (by decide +kernel)⟩
theorem lw_p25 : lw_okq (⟨"RopeClock$Thinke\x72", "turnInto", "(IIII)V"⟩, 5) := ⟨⟨by decide +kernel, by decide +kernel⟩, List.mem_of_getElem? (i := 352) (by decide +kernel), List.mem_of_getElem? (i := 977) (by decide +kernel), List.mem_of_getElem? (i := 978) (by decide +kernel)⟩
theorem lw_p26 : lw_okq (⟨"RopeClock$Thinke\x72", "ringInOrde\x72", "(I)V"⟩, 5) := ⟨⟨by decide +kernel, by decide +kernel⟩, List.mem_of_getElem? (i := 352) (by decide +kernel), List.mem_of_getElem? (i := 1016) (by decide +kernel), List.mem_of_getElem? (i := 1017) (by decide +kernel)⟩
theorem lw_p27 : lw_okq (⟨"RopeClock$Thinke\x72", "change", "(II)V"⟩, 5) := ⟨⟨by decide +kernel, by decide +kernel⟩, List.mem_of_getElem? (i := 352) (by decide +kernel), List.mem_of_getElem? (i := 1020) (by decide +kernel), List.mem_of_getElem? (i := 1021) (by decide +kernel)⟩
theorem lw_p28 : lw_okq (⟨"RopeClock$Thinke\x72", "isInOrde\x72", "(I)Z"⟩, 5) := ⟨⟨by decide +kernel, by decide +kernel⟩, List.mem_of_getElem? (i := 352) (by decide +kernel), List.mem_of_getElem? (i := 1024) (by decide +kernel), List.mem_of_getElem? (i := 1025) (by decide +kernel)⟩
theorem lw_p29 : lw_okq (⟨"RopeClock$Thinke\x72", "bestFrom", "(III)I"⟩, 5) := ⟨⟨by decide +kernel, by decide +kernel⟩, List.mem_of_getElem? (i := 352) (by decide +kernel), List.mem_of_getElem? (i := 1084) (by decide +kernel), List.mem_of_getElem? (i := 1085) (by decide +kernel)⟩
theorem lw_p30 : lw_okq (⟨"RopeClock$Thinke\x72", "worthOfStep", "(III)I"⟩, 5) := ⟨⟨by decide +kernel, by decide +kernel⟩, List.mem_of_getElem? (i := 352) (by decide +kernel), List.mem_of_getElem? (i := 1088) (by decide +kernel), List.mem_of_getElem? (i := 1089) (by decide +kernel)⟩
theorem lw_p31 : lw_okq (⟨"RopeClockModel", "isIn", "(III)Z"⟩, 62) := ⟨⟨by decide +kernel, by decide +kernel⟩, List.mem_of_getElem? (i := 1109) (by decide +kernel), List.mem_of_getElem? (i := 1315) (by decide +kernel), List.mem_of_getElem? (i := 1316) (by decide +kernel)⟩
def lw_privs_2 : List (MethodName × Nat) := [(⟨"RopeClock$TextReade\x72", "readChoice", "(LRopeClock$Law;I)Z"⟩, 1), (⟨"RopeClock$TextReade\x72", "readSingle", "(LRopeClock$Law;I)Z"⟩, 1), (⟨"RopeClock$TextReade\x72", "readBoat", "(LRopeClock$Plan;I)Z"⟩, 1), (⟨"RopeClock$TextReade\x72", "readDay", "(LRopeClock$Plan;I)Z"⟩, 1), (⟨"RopeClock$TextReade\x72", "readDoing", "(LRopeClock$Plan;II)Z"⟩, 1), (⟨"RopeClock$TextReade\x72", "readAmount", "(II)Z"⟩, 1), (⟨"RopeClock$TextReade\x72", "readKinLine", "(LRopeClock$Kinship;I)Z"⟩, 1), (⟨"RopeClock", "fewestWinding", "(I)I"⟩, 11), (⟨"RopeClock", "addToSums", "(III)V"⟩, 11), (⟨"RopeClock$Thinke\x72", "turnInto", "(IIII)V"⟩, 5), (⟨"RopeClock$Thinke\x72", "ringInOrde\x72", "(I)V"⟩, 5), (⟨"RopeClock$Thinke\x72", "change", "(II)V"⟩, 5), (⟨"RopeClock$Thinke\x72", "isInOrde\x72", "(I)Z"⟩, 5), (⟨"RopeClock$Thinke\x72", "bestFrom", "(III)I"⟩, 5), (⟨"RopeClock$Thinke\x72", "worthOfStep", "(III)I"⟩, 5), (⟨"RopeClockModel", "isIn", "(III)Z"⟩, 62)]
theorem lw_r2 : ∀ q ∈ lw_privs_2, lw_okq q := List.forall_mem_cons.mpr ⟨lw_p16, List.forall_mem_cons.mpr ⟨lw_p17, List.forall_mem_cons.mpr ⟨lw_p18, List.forall_mem_cons.mpr ⟨lw_p19, List.forall_mem_cons.mpr ⟨lw_p20, List.forall_mem_cons.mpr ⟨lw_p21, List.forall_mem_cons.mpr ⟨lw_p22, List.forall_mem_cons.mpr ⟨lw_p23, List.forall_mem_cons.mpr ⟨lw_p24, List.forall_mem_cons.mpr ⟨lw_p25, List.forall_mem_cons.mpr ⟨lw_p26, List.forall_mem_cons.mpr ⟨lw_p27, List.forall_mem_cons.mpr ⟨lw_p28, List.forall_mem_cons.mpr ⟨lw_p29, List.forall_mem_cons.mpr ⟨lw_p30, List.forall_mem_cons.mpr ⟨lw_p31, fun _ h => absurd h List.not_mem_nil⟩⟩⟩⟩⟩⟩⟩⟩⟩⟩⟩⟩⟩⟩⟩⟩
theorem lw_p32 : lw_okq (⟨"RopeClockModel", "canSet", "(III)Z"⟩, 62) := ⟨⟨by decide +kernel, by decide +kernel⟩, List.mem_of_getElem? (i := 1109) (by decide +kernel), List.mem_of_getElem? (i := 1323) (by decide +kernel), List.mem_of_getElem? (i := 1324) (by decide +kernel)⟩
theorem lw_p33 : lw_okq (⟨"RopeClockModel", "isIslande\x72", "(I)Z"⟩, 62) := ⟨⟨by decide +kernel, by decide +kernel⟩, List.mem_of_getElem? (i := 1109) (by decide +kernel), List.mem_of_getElem? (i := 1327) (by decide +kernel), List.mem_of_getElem? (i := 1328) (by decide +kernel)⟩
theorem lw_p34 : lw_okq (⟨"RopeClockModel", "types", "(I)V"⟩, 62) := ⟨⟨by decide +kernel, by decide +kernel⟩, List.mem_of_getElem? (i := 1109) (by decide +kernel), List.mem_of_getElem? (i := 1335) (by decide +kernel), List.mem_of_getElem? (i := 1336) (by decide +kernel)⟩
theorem lw_p35 : lw_okq (⟨"RopeClockModel", "readsText", "(I)I"⟩, 62) := ⟨⟨by decide +kernel, by decide +kernel⟩, List.mem_of_getElem? (i := 1109) (by decide +kernel), List.mem_of_getElem? (i := 1347) (by decide +kernel), List.mem_of_getElem? (i := 1348) (by decide +kernel)⟩
theorem lw_p36 : lw_okq (⟨"RopeClockModel", "reads", "()V"⟩, 62) := ⟨⟨by decide +kernel, by decide +kernel⟩, List.mem_of_getElem? (i := 1109) (by decide +kernel), List.mem_of_getElem? (i := 1351) (by decide +kernel), List.mem_of_getElem? (i := 1352) (by decide +kernel)⟩
theorem lw_p37 : lw_okq (⟨"RopeClockModel", "raw", "(I)I"⟩, 62) := ⟨⟨by decide +kernel, by decide +kernel⟩, List.mem_of_getElem? (i := 1109) (by decide +kernel), List.mem_of_getElem? (i := 1355) (by decide +kernel), List.mem_of_getElem? (i := 1356) (by decide +kernel)⟩
theorem lw_p38 : lw_okq (⟨"RopeClockModel", "isLette\x72", "(I)Z"⟩, 62) := ⟨⟨by decide +kernel, by decide +kernel⟩, List.mem_of_getElem? (i := 1109) (by decide +kernel), List.mem_of_getElem? (i := 1359) (by decide +kernel), List.mem_of_getElem? (i := 1360) (by decide +kernel)⟩
theorem lw_p39 : lw_okq (⟨"RopeClockModel", "wordAt", "(II)I"⟩, 62) := ⟨⟨by decide +kernel, by decide +kernel⟩, List.mem_of_getElem? (i := 1109) (by decide +kernel), List.mem_of_getElem? (i := 1363) (by decide +kernel), List.mem_of_getElem? (i := 1364) (by decide +kernel)⟩
theorem lw_p40 : lw_okq (⟨"RopeClockModel", "isDigit", "(I)Z"⟩, 62) := ⟨⟨by decide +kernel, by decide +kernel⟩, List.mem_of_getElem? (i := 1109) (by decide +kernel), List.mem_of_getElem? (i := 1367) (by decide +kernel), List.mem_of_getElem? (i := 1368) (by decide +kernel)⟩
theorem lw_p41 : lw_okq (⟨"RopeClockModel", "isMarkSign", "(I)Z"⟩, 62) := ⟨⟨by decide +kernel, by decide +kernel⟩, List.mem_of_getElem? (i := 1109) (by decide +kernel), List.mem_of_getElem? (i := 1371) (by decide +kernel), List.mem_of_getElem? (i := 1372) (by decide +kernel)⟩
theorem lw_p42 : lw_okq (⟨"RopeClockModel", "readBoats", "()I"⟩, 62) := ⟨⟨by decide +kernel, by decide +kernel⟩, List.mem_of_getElem? (i := 1109) (by decide +kernel), List.mem_of_getElem? (i := 1375) (by decide +kernel), List.mem_of_getElem? (i := 1376) (by decide +kernel)⟩
theorem lw_p43 : lw_okq (⟨"RopeClockModel", "isWord", "(I)Z"⟩, 62) := ⟨⟨by decide +kernel, by decide +kernel⟩, List.mem_of_getElem? (i := 1109) (by decide +kernel), List.mem_of_getElem? (i := 1379) (by decide +kernel), List.mem_of_getElem? (i := 1380) (by decide +kernel)⟩
theorem lw_p44 : lw_okq (⟨"RopeClockModel", "errs", "(I)I"⟩, 62) := ⟨⟨by decide +kernel, by decide +kernel⟩, List.mem_of_getElem? (i := 1109) (by decide +kernel), List.mem_of_getElem? (i := 1383) (by decide +kernel), List.mem_of_getElem? (i := 1384) (by decide +kernel)⟩
theorem lw_p45 : lw_okq (⟨"RopeClockModel", "readBoat", "(I)I"⟩, 62) := ⟨⟨by decide +kernel, by decide +kernel⟩, List.mem_of_getElem? (i := 1109) (by decide +kernel), List.mem_of_getElem? (i := 1387) (by decide +kernel), List.mem_of_getElem? (i := 1388) (by decide +kernel)⟩
theorem lw_p46 : lw_okq (⟨"RopeClockModel", "readTold", "(III)I"⟩, 62) := ⟨⟨by decide +kernel, by decide +kernel⟩, List.mem_of_getElem? (i := 1109) (by decide +kernel), List.mem_of_getElem? (i := 1391) (by decide +kernel), List.mem_of_getElem? (i := 1392) (by decide +kernel)⟩
theorem lw_p47 : lw_okq (⟨"RopeClockModel", "readNumbe\x72", "(II)I"⟩, 62) := ⟨⟨by decide +kernel, by decide +kernel⟩, List.mem_of_getElem? (i := 1109) (by decide +kernel), List.mem_of_getElem? (i := 1395) (by decide +kernel), List.mem_of_getElem? (i := 1396) (by decide +kernel)⟩
def lw_privs_3 : List (MethodName × Nat) := [(⟨"RopeClockModel", "canSet", "(III)Z"⟩, 62), (⟨"RopeClockModel", "isIslande\x72", "(I)Z"⟩, 62), (⟨"RopeClockModel", "types", "(I)V"⟩, 62), (⟨"RopeClockModel", "readsText", "(I)I"⟩, 62), (⟨"RopeClockModel", "reads", "()V"⟩, 62), (⟨"RopeClockModel", "raw", "(I)I"⟩, 62), (⟨"RopeClockModel", "isLette\x72", "(I)Z"⟩, 62), (⟨"RopeClockModel", "wordAt", "(II)I"⟩, 62), (⟨"RopeClockModel", "isDigit", "(I)Z"⟩, 62), (⟨"RopeClockModel", "isMarkSign", "(I)Z"⟩, 62), (⟨"RopeClockModel", "readBoats", "()I"⟩, 62), (⟨"RopeClockModel", "isWord", "(I)Z"⟩, 62), (⟨"RopeClockModel", "errs", "(I)I"⟩, 62), (⟨"RopeClockModel", "readBoat", "(I)I"⟩, 62), (⟨"RopeClockModel", "readTold", "(III)I"⟩, 62), (⟨"RopeClockModel", "readNumbe\x72", "(II)I"⟩, 62)]
theorem lw_r3 : ∀ q ∈ lw_privs_3, lw_okq q := List.forall_mem_cons.mpr ⟨lw_p32, List.forall_mem_cons.mpr ⟨lw_p33, List.forall_mem_cons.mpr ⟨lw_p34, List.forall_mem_cons.mpr ⟨lw_p35, List.forall_mem_cons.mpr ⟨lw_p36, List.forall_mem_cons.mpr ⟨lw_p37, List.forall_mem_cons.mpr ⟨lw_p38, List.forall_mem_cons.mpr ⟨lw_p39, List.forall_mem_cons.mpr ⟨lw_p40, List.forall_mem_cons.mpr ⟨lw_p41, List.forall_mem_cons.mpr ⟨lw_p42, List.forall_mem_cons.mpr ⟨lw_p43, List.forall_mem_cons.mpr ⟨lw_p44, List.forall_mem_cons.mpr ⟨lw_p45, List.forall_mem_cons.mpr ⟨lw_p46, List.forall_mem_cons.mpr ⟨lw_p47, fun _ h => absurd h List.not_mem_nil⟩⟩⟩⟩⟩⟩⟩⟩⟩⟩⟩⟩⟩⟩⟩⟩
theorem lw_p48 : lw_okq (⟨"RopeClockModel", "readMark", "(I)I"⟩, 62) := ⟨⟨by decide +kernel, by decide +kernel⟩, List.mem_of_getElem? (i := 1109) (by decide +kernel), List.mem_of_getElem? (i := 1399) (by decide +kernel), List.mem_of_getElem? (i := 1400) (by decide +kernel)⟩
theorem lw_p49 : lw_okq (⟨"RopeClockModel", "isSign", "(I)Z"⟩, 62) := ⟨⟨by decide +kernel, by decide +kernel⟩, List.mem_of_getElem? (i := 1109) (by decide +kernel), List.mem_of_getElem? (i := 1403) (by decide +kernel), List.mem_of_getElem? (i := 1404) (by decide +kernel)⟩
theorem lw_p50 : lw_okq (⟨"RopeClockModel", "readTown", "()I"⟩, 62) := ⟨⟨by decide +kernel, by decide +kernel⟩, List.mem_of_getElem? (i := 1109) (by decide +kernel), List.mem_of_getElem? (i := 1407) (by decide +kernel), List.mem_of_getElem? (i := 1408) (by decide +kernel)⟩
theorem lw_p51 : lw_okq (⟨"RopeClockModel", "readDeed", "(I)I"⟩, 62) := ⟨⟨by decide +kernel, by decide +kernel⟩, List.mem_of_getElem? (i := 1109) (by decide +kernel), List.mem_of_getElem? (i := 1411) (by decide +kernel), List.mem_of_getElem? (i := 1412) (by decide +kernel)⟩
theorem lw_p52 : lw_okq (⟨"RopeClockModel", "kindOfDeed", "()I"⟩, 62) := ⟨⟨by decide +kernel, by decide +kernel⟩, List.mem_of_getElem? (i := 1109) (by decide +kernel), List.mem_of_getElem? (i := 1415) (by decide +kernel), List.mem_of_getElem? (i := 1416) (by decide +kernel)⟩
theorem lw_p53 : lw_okq (⟨"RopeClockModel", "readAllKin", "()I"⟩, 62) := ⟨⟨by decide +kernel, by decide +kernel⟩, List.mem_of_getElem? (i := 1109) (by decide +kernel), List.mem_of_getElem? (i := 1419) (by decide +kernel), List.mem_of_getElem? (i := 1420) (by decide +kernel)⟩
theorem lw_p54 : lw_okq (⟨"RopeClockModel", "readKin", "()I"⟩, 62) := ⟨⟨by decide +kernel, by decide +kernel⟩, List.mem_of_getElem? (i := 1109) (by decide +kernel), List.mem_of_getElem? (i := 1423) (by decide +kernel), List.mem_of_getElem? (i := 1424) (by decide +kernel)⟩
theorem lw_p55 : lw_okq (⟨"RopeClockModel", "readLaw", "()I"⟩, 62) := ⟨⟨by decide +kernel, by decide +kernel⟩, List.mem_of_getElem? (i := 1109) (by decide +kernel), List.mem_of_getElem? (i := 1427) (by decide +kernel), List.mem_of_getElem? (i := 1428) (by decide +kernel)⟩
theorem lw_p56 : lw_okq (⟨"RopeClockModel", "isLineWord", "()Z"⟩, 62) := ⟨⟨by decide +kernel, by decide +kernel⟩, List.mem_of_getElem? (i := 1109) (by decide +kernel), List.mem_of_getElem? (i := 1431) (by decide +kernel), List.mem_of_getElem? (i := 1432) (by decide +kernel)⟩
theorem lw_p57 : lw_okq (⟨"RopeClockModel", "readSum", "()I"⟩, 62) := ⟨⟨by decide +kernel, by decide +kernel⟩, List.mem_of_getElem? (i := 1109) (by decide +kernel), List.mem_of_getElem? (i := 1435) (by decide +kernel), List.mem_of_getElem? (i := 1436) (by decide +kernel)⟩
theorem lw_p58 : lw_okq (⟨"RopeClockModel", "readProduct", "()I"⟩, 62) := ⟨⟨by decide +kernel, by decide +kernel⟩, List.mem_of_getElem? (i := 1109) (by decide +kernel), List.mem_of_getElem? (i := 1439) (by decide +kernel), List.mem_of_getElem? (i := 1440) (by decide +kernel)⟩
theorem lw_p59 : lw_okq (⟨"RopeClockModel", "readUnit", "()I"⟩, 62) := ⟨⟨by decide +kernel, by decide +kernel⟩, List.mem_of_getElem? (i := 1109) (by decide +kernel), List.mem_of_getElem? (i := 1443) (by decide +kernel), List.mem_of_getElem? (i := 1444) (by decide +kernel)⟩
theorem lw_p60 : lw_okq (⟨"RopeClockModel", "canAsk", "(I)Z"⟩, 62) := ⟨⟨by decide +kernel, by decide +kernel⟩, List.mem_of_getElem? (i := 1109) (by decide +kernel), List.mem_of_getElem? (i := 1447) (by decide +kernel), List.mem_of_getElem? (i := 1448) (by decide +kernel)⟩
theorem lw_p61 : lw_okq (⟨"RopeClockModel", "emits", "(II)V"⟩, 62) := ⟨⟨by decide +kernel, by decide +kernel⟩, List.mem_of_getElem? (i := 1109) (by decide +kernel), List.mem_of_getElem? (i := 1451) (by decide +kernel), List.mem_of_getElem? (i := 1452) (by decide +kernel)⟩
theorem lw_p62 : lw_okq (⟨"RopeClockModel", "readAny", "()I"⟩, 62) := ⟨⟨by decide +kernel, by decide +kernel⟩, List.mem_of_getElem? (i := 1109) (by decide +kernel), List.mem_of_getElem? (i := 1455) (by decide +kernel), List.mem_of_getElem? (i := 1456) (by decide +kernel)⟩
theorem lw_p63 : lw_okq (⟨"RopeClockModel", "waits", "(I)V"⟩, 62) := ⟨⟨by decide +kernel, by decide +kernel⟩, List.mem_of_getElem? (i := 1109) (by decide +kernel), List.mem_of_getElem? (i := 1459) (by decide +kernel), List.mem_of_getElem? (i := 1460) (by decide +kernel)⟩
def lw_privs_4 : List (MethodName × Nat) := [(⟨"RopeClockModel", "readMark", "(I)I"⟩, 62), (⟨"RopeClockModel", "isSign", "(I)Z"⟩, 62), (⟨"RopeClockModel", "readTown", "()I"⟩, 62), (⟨"RopeClockModel", "readDeed", "(I)I"⟩, 62), (⟨"RopeClockModel", "kindOfDeed", "()I"⟩, 62), (⟨"RopeClockModel", "readAllKin", "()I"⟩, 62), (⟨"RopeClockModel", "readKin", "()I"⟩, 62), (⟨"RopeClockModel", "readLaw", "()I"⟩, 62), (⟨"RopeClockModel", "isLineWord", "()Z"⟩, 62), (⟨"RopeClockModel", "readSum", "()I"⟩, 62), (⟨"RopeClockModel", "readProduct", "()I"⟩, 62), (⟨"RopeClockModel", "readUnit", "()I"⟩, 62), (⟨"RopeClockModel", "canAsk", "(I)Z"⟩, 62), (⟨"RopeClockModel", "emits", "(II)V"⟩, 62), (⟨"RopeClockModel", "readAny", "()I"⟩, 62), (⟨"RopeClockModel", "waits", "(I)V"⟩, 62)]
theorem lw_r4 : ∀ q ∈ lw_privs_4, lw_okq q := List.forall_mem_cons.mpr ⟨lw_p48, List.forall_mem_cons.mpr ⟨lw_p49, List.forall_mem_cons.mpr ⟨lw_p50, List.forall_mem_cons.mpr ⟨lw_p51, List.forall_mem_cons.mpr ⟨lw_p52, List.forall_mem_cons.mpr ⟨lw_p53, List.forall_mem_cons.mpr ⟨lw_p54, List.forall_mem_cons.mpr ⟨lw_p55, List.forall_mem_cons.mpr ⟨lw_p56, List.forall_mem_cons.mpr ⟨lw_p57, List.forall_mem_cons.mpr ⟨lw_p58, List.forall_mem_cons.mpr ⟨lw_p59, List.forall_mem_cons.mpr ⟨lw_p60, List.forall_mem_cons.mpr ⟨lw_p61, List.forall_mem_cons.mpr ⟨lw_p62, List.forall_mem_cons.mpr ⟨lw_p63, fun _ h => absurd h List.not_mem_nil⟩⟩⟩⟩⟩⟩⟩⟩⟩⟩⟩⟩⟩⟩⟩⟩
theorem lw_p64 : lw_okq (⟨"RopeClockModel", "readCompared", "()I"⟩, 62) := ⟨⟨by decide +kernel, by decide +kernel⟩, List.mem_of_getElem? (i := 1109) (by decide +kernel), List.mem_of_getElem? (i := 1463) (by decide +kernel), List.mem_of_getElem? (i := 1464) (by decide +kernel)⟩
theorem lw_p65 : lw_okq (⟨"RopeClockModel", "settles", "(I)V"⟩, 62) := ⟨⟨by decide +kernel, by decide +kernel⟩, List.mem_of_getElem? (i := 1109) (by decide +kernel), List.mem_of_getElem? (i := 1467) (by decide +kernel), List.mem_of_getElem? (i := 1468) (by decide +kernel)⟩
theorem lw_p66 : lw_okq (⟨"RopeClockModel", "takesLaw", "(I)V"⟩, 62) := ⟨⟨by decide +kernel, by decide +kernel⟩, List.mem_of_getElem? (i := 1109) (by decide +kernel), List.mem_of_getElem? (i := 1471) (by decide +kernel), List.mem_of_getElem? (i := 1472) (by decide +kernel)⟩
theorem lw_p67 : lw_okq (⟨"RopeClockModel", "takesOthe\x72", "(II)V"⟩, 62) := ⟨⟨by decide +kernel, by decide +kernel⟩, List.mem_of_getElem? (i := 1109) (by decide +kernel), List.mem_of_getElem? (i := 1475) (by decide +kernel), List.mem_of_getElem? (i := 1476) (by decide +kernel)⟩
theorem lw_p68 : lw_okq (⟨"RopeClockModel", "canAct", "(II)Z"⟩, 62) := ⟨⟨by decide +kernel, by decide +kernel⟩, List.mem_of_getElem? (i := 1109) (by decide +kernel), List.mem_of_getElem? (i := 1487) (by decide +kernel), List.mem_of_getElem? (i := 1488) (by decide +kernel)⟩
theorem lw_p69 : lw_okq (⟨"RopeClockModel", "isHere", "(I)Z"⟩, 62) := ⟨⟨by decide +kernel, by decide +kernel⟩, List.mem_of_getElem? (i := 1109) (by decide +kernel), List.mem_of_getElem? (i := 1491) (by decide +kernel), List.mem_of_getElem? (i := 1492) (by decide +kernel)⟩
theorem lw_p70 : lw_okq (⟨"RopeClockModel", "keepsAhead", "()V"⟩, 62) := ⟨⟨by decide +kernel, by decide +kernel⟩, List.mem_of_getElem? (i := 1109) (by decide +kernel), List.mem_of_getElem? (i := 1495) (by decide +kernel), List.mem_of_getElem? (i := 1496) (by decide +kernel)⟩
theorem lw_p71 : lw_okq (⟨"RopeClockModel", "goesAboard", "(I)V"⟩, 62) := ⟨⟨by decide +kernel, by decide +kernel⟩, List.mem_of_getElem? (i := 1109) (by decide +kernel), List.mem_of_getElem? (i := 1499) (by decide +kernel), List.mem_of_getElem? (i := 1500) (by decide +kernel)⟩
theorem lw_p72 : lw_okq (⟨"RopeClockModel", "windsOf", "(I)I"⟩, 62) := ⟨⟨by decide +kernel, by decide +kernel⟩, List.mem_of_getElem? (i := 1109) (by decide +kernel), List.mem_of_getElem? (i := 1503) (by decide +kernel), List.mem_of_getElem? (i := 1504) (by decide +kernel)⟩
theorem lw_p73 : lw_okq (⟨"RopeClockModel", "asks", "(I)V"⟩, 62) := ⟨⟨by decide +kernel, by decide +kernel⟩, List.mem_of_getElem? (i := 1109) (by decide +kernel), List.mem_of_getElem? (i := 1507) (by decide +kernel), List.mem_of_getElem? (i := 1508) (by decide +kernel)⟩
theorem lw_p74 : lw_okq (⟨"RopeClockModel", "hereSet", "()I"⟩, 62) := ⟨⟨by decide +kernel, by decide +kernel⟩, List.mem_of_getElem? (i := 1109) (by decide +kernel), List.mem_of_getElem? (i := 1511) (by decide +kernel), List.mem_of_getElem? (i := 1512) (by decide +kernel)⟩
theorem lw_p75 : lw_okq (⟨"RopeClockModel", "onesOf", "(I)I"⟩, 62) := ⟨⟨by decide +kernel, by decide +kernel⟩, List.mem_of_getElem? (i := 1109) (by decide +kernel), List.mem_of_getElem? (i := 1515) (by decide +kernel), List.mem_of_getElem? (i := 1516) (by decide +kernel)⟩
theorem lw_p76 : lw_okq (⟨"RopeClockModel", "held", "(III)I"⟩, 62) := ⟨⟨by decide +kernel, by decide +kernel⟩, List.mem_of_getElem? (i := 1109) (by decide +kernel), List.mem_of_getElem? (i := 1519) (by decide +kernel), List.mem_of_getElem? (i := 1520) (by decide +kernel)⟩
theorem lw_p77 : lw_okq (⟨"RopeClockModel", "kinApart", "(I)I"⟩, 62) := ⟨⟨by decide +kernel, by decide +kernel⟩, List.mem_of_getElem? (i := 1109) (by decide +kernel), List.mem_of_getElem? (i := 1523) (by decide +kernel), List.mem_of_getElem? (i := 1524) (by decide +kernel)⟩
theorem lw_p78 : lw_okq (⟨"RopeClockModel", "has", "(II)Z"⟩, 62) := ⟨⟨by decide +kernel, by decide +kernel⟩, List.mem_of_getElem? (i := 1109) (by decide +kernel), List.mem_of_getElem? (i := 1527) (by decide +kernel), List.mem_of_getElem? (i := 1528) (by decide +kernel)⟩
theorem lw_p79 : lw_okq (⟨"RopeClockModel", "lawTells", "(III)I"⟩, 62) := ⟨⟨by decide +kernel, by decide +kernel⟩, List.mem_of_getElem? (i := 1109) (by decide +kernel), List.mem_of_getElem? (i := 1531) (by decide +kernel), List.mem_of_getElem? (i := 1532) (by decide +kernel)⟩
def lw_privs_5 : List (MethodName × Nat) := [(⟨"RopeClockModel", "readCompared", "()I"⟩, 62), (⟨"RopeClockModel", "settles", "(I)V"⟩, 62), (⟨"RopeClockModel", "takesLaw", "(I)V"⟩, 62), (⟨"RopeClockModel", "takesOthe\x72", "(II)V"⟩, 62), (⟨"RopeClockModel", "canAct", "(II)Z"⟩, 62), (⟨"RopeClockModel", "isHere", "(I)Z"⟩, 62), (⟨"RopeClockModel", "keepsAhead", "()V"⟩, 62), (⟨"RopeClockModel", "goesAboard", "(I)V"⟩, 62), (⟨"RopeClockModel", "windsOf", "(I)I"⟩, 62), (⟨"RopeClockModel", "asks", "(I)V"⟩, 62), (⟨"RopeClockModel", "hereSet", "()I"⟩, 62), (⟨"RopeClockModel", "onesOf", "(I)I"⟩, 62), (⟨"RopeClockModel", "held", "(III)I"⟩, 62), (⟨"RopeClockModel", "kinApart", "(I)I"⟩, 62), (⟨"RopeClockModel", "has", "(II)Z"⟩, 62), (⟨"RopeClockModel", "lawTells", "(III)I"⟩, 62)]
theorem lw_r5 : ∀ q ∈ lw_privs_5, lw_okq q := List.forall_mem_cons.mpr ⟨lw_p64, List.forall_mem_cons.mpr ⟨lw_p65, List.forall_mem_cons.mpr ⟨lw_p66, List.forall_mem_cons.mpr ⟨lw_p67, List.forall_mem_cons.mpr ⟨lw_p68, List.forall_mem_cons.mpr ⟨lw_p69, List.forall_mem_cons.mpr ⟨lw_p70, List.forall_mem_cons.mpr ⟨lw_p71, List.forall_mem_cons.mpr ⟨lw_p72, List.forall_mem_cons.mpr ⟨lw_p73, List.forall_mem_cons.mpr ⟨lw_p74, List.forall_mem_cons.mpr ⟨lw_p75, List.forall_mem_cons.mpr ⟨lw_p76, List.forall_mem_cons.mpr ⟨lw_p77, List.forall_mem_cons.mpr ⟨lw_p78, List.forall_mem_cons.mpr ⟨lw_p79, fun _ h => absurd h List.not_mem_nil⟩⟩⟩⟩⟩⟩⟩⟩⟩⟩⟩⟩⟩⟩⟩⟩
theorem lw_p80 : lw_okq (⟨"RopeClockModel", "lineOf", "(I)I"⟩, 62) := ⟨⟨by decide +kernel, by decide +kernel⟩, List.mem_of_getElem? (i := 1109) (by decide +kernel), List.mem_of_getElem? (i := 1535) (by decide +kernel), List.mem_of_getElem? (i := 1536) (by decide +kernel)⟩
theorem lw_p81 : lw_okq (⟨"RopeClockModel", "runs", "(III)I"⟩, 62) := ⟨⟨by decide +kernel, by decide +kernel⟩, List.mem_of_getElem? (i := 1109) (by decide +kernel), List.mem_of_getElem? (i := 1539) (by decide +kernel), List.mem_of_getElem? (i := 1540) (by decide +kernel)⟩
theorem lw_p82 : lw_okq (⟨"RopeClockModel", "twoOf", "(III)I"⟩, 62) := ⟨⟨by decide +kernel, by decide +kernel⟩, List.mem_of_getElem? (i := 1109) (by decide +kernel), List.mem_of_getElem? (i := 1543) (by decide +kernel), List.mem_of_getElem? (i := 1544) (by decide +kernel)⟩
theorem lw_p83 : lw_okq (⟨"RopeClockModel", "notes", "(III)V"⟩, 62) := ⟨⟨by decide +kernel, by decide +kernel⟩, List.mem_of_getElem? (i := 1109) (by decide +kernel), List.mem_of_getElem? (i := 1547) (by decide +kernel), List.mem_of_getElem? (i := 1548) (by decide +kernel)⟩
theorem lw_p84 : lw_okq (⟨"RopeClockModel", "comesBack", "(I)V"⟩, 62) := ⟨⟨by decide +kernel, by decide +kernel⟩, List.mem_of_getElem? (i := 1109) (by decide +kernel), List.mem_of_getElem? (i := 1551) (by decide +kernel), List.mem_of_getElem? (i := 1552) (by decide +kernel)⟩
theorem lw_p85 : lw_okq (⟨"RopeClockModel", "goesBy", "()I"⟩, 62) := ⟨⟨by decide +kernel, by decide +kernel⟩, List.mem_of_getElem? (i := 1109) (by decide +kernel), List.mem_of_getElem? (i := 1559) (by decide +kernel), List.mem_of_getElem? (i := 1560) (by decide +kernel)⟩
theorem lw_p86 : lw_okq (⟨"RopeClockModel", "does", "(I)V"⟩, 62) := ⟨⟨by decide +kernel, by decide +kernel⟩, List.mem_of_getElem? (i := 1109) (by decide +kernel), List.mem_of_getElem? (i := 1563) (by decide +kernel), List.mem_of_getElem? (i := 1564) (by decide +kernel)⟩
theorem lw_p87 : lw_okq (⟨"RopeClockModel", "isPushed", "(I)V"⟩, 62) := ⟨⟨by decide +kernel, by decide +kernel⟩, List.mem_of_getElem? (i := 1109) (by decide +kernel), List.mem_of_getElem? (i := 1567) (by decide +kernel), List.mem_of_getElem? (i := 1568) (by decide +kernel)⟩
theorem lw_p88 : lw_okq (⟨"RopeClockModel", "goesOut", "(I)V"⟩, 62) := ⟨⟨by decide +kernel, by decide +kernel⟩, List.mem_of_getElem? (i := 1109) (by decide +kernel), List.mem_of_getElem? (i := 1571) (by decide +kernel), List.mem_of_getElem? (i := 1572) (by decide +kernel)⟩
theorem lw_p89 : lw_okq (⟨"RopeClockModel", "leavesOf", "(I)I"⟩, 62) := ⟨⟨by decide +kernel, by decide +kernel⟩, List.mem_of_getElem? (i := 1109) (by decide +kernel), List.mem_of_getElem? (i := 1575) (by decide +kernel), List.mem_of_getElem? (i := 1576) (by decide +kernel)⟩
theorem lw_p90 : lw_okq (⟨"RopeClockModel", "happens", "(I)Z"⟩, 62) := ⟨⟨by decide +kernel, by decide +kernel⟩, List.mem_of_getElem? (i := 1109) (by decide +kernel), List.mem_of_getElem? (i := 1579) (by decide +kernel), List.mem_of_getElem? (i := 1580) (by decide +kernel)⟩
theorem lw_p91 : lw_okq (⟨"RopeClockModel", "draw", "(I)I"⟩, 62) := ⟨⟨by decide +kernel, by decide +kernel⟩, List.mem_of_getElem? (i := 1109) (by decide +kernel), List.mem_of_getElem? (i := 1583) (by decide +kernel), List.mem_of_getElem? (i := 1584) (by decide +kernel)⟩
theorem lw_p92 : lw_okq (⟨"RopeClockModel", "bringsBack", "(I)V"⟩, 62) := ⟨⟨by decide +kernel, by decide +kernel⟩, List.mem_of_getElem? (i := 1109) (by decide +kernel), List.mem_of_getElem? (i := 1589) (by decide +kernel), List.mem_of_getElem? (i := 1590) (by decide +kernel)⟩
theorem lw_p93 : lw_okq (⟨"RopeClockModel", "returnsOf", "(I)I"⟩, 62) := ⟨⟨by decide +kernel, by decide +kernel⟩, List.mem_of_getElem? (i := 1109) (by decide +kernel), List.mem_of_getElem? (i := 1593) (by decide +kernel), List.mem_of_getElem? (i := 1594) (by decide +kernel)⟩
theorem lw_p94 : lw_okq (⟨"RopeClockModel", "clockRuns", "()I"⟩, 62) := ⟨⟨by decide +kernel, by decide +kernel⟩, List.mem_of_getElem? (i := 1109) (by decide +kernel), List.mem_of_getElem? (i := 1597) (by decide +kernel), List.mem_of_getElem? (i := 1598) (by decide +kernel)⟩
theorem lw_p95 : lw_okq (⟨"RopeClockModel", "plain", "(I)I"⟩, 62) := ⟨⟨by decide +kernel, by decide +kernel⟩, List.mem_of_getElem? (i := 1109) (by decide +kernel), List.mem_of_getElem? (i := 1601) (by decide +kernel), List.mem_of_getElem? (i := 1602) (by decide +kernel)⟩
def lw_privs_6 : List (MethodName × Nat) := [(⟨"RopeClockModel", "lineOf", "(I)I"⟩, 62), (⟨"RopeClockModel", "runs", "(III)I"⟩, 62), (⟨"RopeClockModel", "twoOf", "(III)I"⟩, 62), (⟨"RopeClockModel", "notes", "(III)V"⟩, 62), (⟨"RopeClockModel", "comesBack", "(I)V"⟩, 62), (⟨"RopeClockModel", "goesBy", "()I"⟩, 62), (⟨"RopeClockModel", "does", "(I)V"⟩, 62), (⟨"RopeClockModel", "isPushed", "(I)V"⟩, 62), (⟨"RopeClockModel", "goesOut", "(I)V"⟩, 62), (⟨"RopeClockModel", "leavesOf", "(I)I"⟩, 62), (⟨"RopeClockModel", "happens", "(I)Z"⟩, 62), (⟨"RopeClockModel", "draw", "(I)I"⟩, 62), (⟨"RopeClockModel", "bringsBack", "(I)V"⟩, 62), (⟨"RopeClockModel", "returnsOf", "(I)I"⟩, 62), (⟨"RopeClockModel", "clockRuns", "()I"⟩, 62), (⟨"RopeClockModel", "plain", "(I)I"⟩, 62)]
theorem lw_r6 : ∀ q ∈ lw_privs_6, lw_okq q := List.forall_mem_cons.mpr ⟨lw_p80, List.forall_mem_cons.mpr ⟨lw_p81, List.forall_mem_cons.mpr ⟨lw_p82, List.forall_mem_cons.mpr ⟨lw_p83, List.forall_mem_cons.mpr ⟨lw_p84, List.forall_mem_cons.mpr ⟨lw_p85, List.forall_mem_cons.mpr ⟨lw_p86, List.forall_mem_cons.mpr ⟨lw_p87, List.forall_mem_cons.mpr ⟨lw_p88, List.forall_mem_cons.mpr ⟨lw_p89, List.forall_mem_cons.mpr ⟨lw_p90, List.forall_mem_cons.mpr ⟨lw_p91, List.forall_mem_cons.mpr ⟨lw_p92, List.forall_mem_cons.mpr ⟨lw_p93, List.forall_mem_cons.mpr ⟨lw_p94, List.forall_mem_cons.mpr ⟨lw_p95, fun _ h => absurd h List.not_mem_nil⟩⟩⟩⟩⟩⟩⟩⟩⟩⟩⟩⟩⟩⟩⟩⟩
theorem lw_p96 : lw_okq (⟨"RopeClockModel", "lesse\x72", "(II)I"⟩, 62) := ⟨⟨by decide +kernel, by decide +kernel⟩, List.mem_of_getElem? (i := 1109) (by decide +kernel), List.mem_of_getElem? (i := 1605) (by decide +kernel), List.mem_of_getElem? (i := 1606) (by decide +kernel)⟩
theorem lw_p97 : lw_okq (⟨"RopeClockModel", "strokesAt", "(I)I"⟩, 62) := ⟨⟨by decide +kernel, by decide +kernel⟩, List.mem_of_getElem? (i := 1109) (by decide +kernel), List.mem_of_getElem? (i := 1609) (by decide +kernel), List.mem_of_getElem? (i := 1610) (by decide +kernel)⟩
theorem lw_p98 : lw_okq (⟨"RopeClockModel", "thinks", "()V"⟩, 62) := ⟨⟨by decide +kernel, by decide +kernel⟩, List.mem_of_getElem? (i := 1109) (by decide +kernel), List.mem_of_getElem? (i := 1625) (by decide +kernel), List.mem_of_getElem? (i := 1626) (by decide +kernel)⟩
theorem lw_p99 : lw_okq (⟨"RopeClockModel", "endsThought", "()V"⟩, 62) := ⟨⟨by decide +kernel, by decide +kernel⟩, List.mem_of_getElem? (i := 1109) (by decide +kernel), List.mem_of_getElem? (i := 1629) (by decide +kernel), List.mem_of_getElem? (i := 1630) (by decide +kernel)⟩
theorem lw_p100 : lw_okq (⟨"RopeClockModel", "handsAt", "(I)I"⟩, 62) := ⟨⟨by decide +kernel, by decide +kernel⟩, List.mem_of_getElem? (i := 1109) (by decide +kernel), List.mem_of_getElem? (i := 1649) (by decide +kernel), List.mem_of_getElem? (i := 1650) (by decide +kernel)⟩
theorem lw_p101 : lw_okq (⟨"RopeClockModel", "common", "(II)I"⟩, 62) := ⟨⟨by decide +kernel, by decide +kernel⟩, List.mem_of_getElem? (i := 1109) (by decide +kernel), List.mem_of_getElem? (i := 1662) (by decide +kernel), List.mem_of_getElem? (i := 1663) (by decide +kernel)⟩
theorem lw_p102 : lw_okq (⟨"RopeClockModel", "isPeace", "(I)Z"⟩, 62) := ⟨⟨by decide +kernel, by decide +kernel⟩, List.mem_of_getElem? (i := 1109) (by decide +kernel), List.mem_of_getElem? (i := 1675) (by decide +kernel), List.mem_of_getElem? (i := 1676) (by decide +kernel)⟩
theorem lw_p103 : lw_okq (⟨"RopeClockModel", "glassAt", "(III)I"⟩, 62) := ⟨⟨by decide +kernel, by decide +kernel⟩, List.mem_of_getElem? (i := 1109) (by decide +kernel), List.mem_of_getElem? (i := 1683) (by decide +kernel), List.mem_of_getElem? (i := 1684) (by decide +kernel)⟩
theorem lw_p104 : lw_okq (⟨"RopeClockModel", "greate\x72", "(II)I"⟩, 62) := ⟨⟨by decide +kernel, by decide +kernel⟩, List.mem_of_getElem? (i := 1109) (by decide +kernel), List.mem_of_getElem? (i := 1687) (by decide +kernel), List.mem_of_getElem? (i := 1688) (by decide +kernel)⟩
theorem lw_p105 : lw_okq (⟨"RopeClockModel", "turns", "(IIII)V"⟩, 62) := ⟨⟨by decide +kernel, by decide +kernel⟩, List.mem_of_getElem? (i := 1109) (by decide +kernel), List.mem_of_getElem? (i := 1691) (by decide +kernel), List.mem_of_getElem? (i := 1692) (by decide +kernel)⟩
theorem lw_p106 : lw_okq (⟨"RopeClockModel", "isLevel", "(I)Z"⟩, 62) := ⟨⟨by decide +kernel, by decide +kernel⟩, List.mem_of_getElem? (i := 1109) (by decide +kernel), List.mem_of_getElem? (i := 1703) (by decide +kernel), List.mem_of_getElem? (i := 1704) (by decide +kernel)⟩
theorem lw_p107 : lw_okq (⟨"RopeClockModel", "findsQuotients", "(II)I"⟩, 62) := ⟨⟨by decide +kernel, by decide +kernel⟩, List.mem_of_getElem? (i := 1109) (by decide +kernel), List.mem_of_getElem? (i := 1711) (by decide +kernel), List.mem_of_getElem? (i := 1712) (by decide +kernel)⟩
theorem lw_p108 : lw_okq (⟨"RopeClockModel", "againAt", "(I)I"⟩, 62) := ⟨⟨by decide +kernel, by decide +kernel⟩, List.mem_of_getElem? (i := 1109) (by decide +kernel), List.mem_of_getElem? (i := 1719) (by decide +kernel), List.mem_of_getElem? (i := 1720) (by decide +kernel)⟩
theorem lw_p109 : lw_okq (⟨"RopeClockModel", "changes", "(II)V"⟩, 62) := ⟨⟨by decide +kernel, by decide +kernel⟩, List.mem_of_getElem? (i := 1109) (by decide +kernel), List.mem_of_getElem? (i := 1723) (by decide +kernel), List.mem_of_getElem? (i := 1724) (by decide +kernel)⟩
theorem lw_p110 : lw_okq (⟨"RopeClockModel", "areInOrde\x72", "(I)Z"⟩, 62) := ⟨⟨by decide +kernel, by decide +kernel⟩, List.mem_of_getElem? (i := 1109) (by decide +kernel), List.mem_of_getElem? (i := 1727) (by decide +kernel), List.mem_of_getElem? (i := 1728) (by decide +kernel)⟩
theorem lw_p111 : lw_okq (⟨"RopeClockModel", "goesToNextOrde\x72", "()Z"⟩, 62) := ⟨⟨by decide +kernel, by decide +kernel⟩, List.mem_of_getElem? (i := 1109) (by decide +kernel), List.mem_of_getElem? (i := 1757) (by decide +kernel), List.mem_of_getElem? (i := 1758) (by decide +kernel)⟩
def lw_privs_7 : List (MethodName × Nat) := [(⟨"RopeClockModel", "lesse\x72", "(II)I"⟩, 62), (⟨"RopeClockModel", "strokesAt", "(I)I"⟩, 62), (⟨"RopeClockModel", "thinks", "()V"⟩, 62), (⟨"RopeClockModel", "endsThought", "()V"⟩, 62), (⟨"RopeClockModel", "handsAt", "(I)I"⟩, 62), (⟨"RopeClockModel", "common", "(II)I"⟩, 62), (⟨"RopeClockModel", "isPeace", "(I)Z"⟩, 62), (⟨"RopeClockModel", "glassAt", "(III)I"⟩, 62), (⟨"RopeClockModel", "greate\x72", "(II)I"⟩, 62), (⟨"RopeClockModel", "turns", "(IIII)V"⟩, 62), (⟨"RopeClockModel", "isLevel", "(I)Z"⟩, 62), (⟨"RopeClockModel", "findsQuotients", "(II)I"⟩, 62), (⟨"RopeClockModel", "againAt", "(I)I"⟩, 62), (⟨"RopeClockModel", "changes", "(II)V"⟩, 62), (⟨"RopeClockModel", "areInOrde\x72", "(I)Z"⟩, 62), (⟨"RopeClockModel", "goesToNextOrde\x72", "()Z"⟩, 62)]
theorem lw_r7 : ∀ q ∈ lw_privs_7, lw_okq q := List.forall_mem_cons.mpr ⟨lw_p96, List.forall_mem_cons.mpr ⟨lw_p97, List.forall_mem_cons.mpr ⟨lw_p98, List.forall_mem_cons.mpr ⟨lw_p99, List.forall_mem_cons.mpr ⟨lw_p100, List.forall_mem_cons.mpr ⟨lw_p101, List.forall_mem_cons.mpr ⟨lw_p102, List.forall_mem_cons.mpr ⟨lw_p103, List.forall_mem_cons.mpr ⟨lw_p104, List.forall_mem_cons.mpr ⟨lw_p105, List.forall_mem_cons.mpr ⟨lw_p106, List.forall_mem_cons.mpr ⟨lw_p107, List.forall_mem_cons.mpr ⟨lw_p108, List.forall_mem_cons.mpr ⟨lw_p109, List.forall_mem_cons.mpr ⟨lw_p110, List.forall_mem_cons.mpr ⟨lw_p111, fun _ h => absurd h List.not_mem_nil⟩⟩⟩⟩⟩⟩⟩⟩⟩⟩⟩⟩⟩⟩⟩⟩
theorem lw_p112 : lw_okq (⟨"RopeClockModel", "endOf", "(III)I"⟩, 62) := ⟨⟨by decide +kernel, by decide +kernel⟩, List.mem_of_getElem? (i := 1109) (by decide +kernel), List.mem_of_getElem? (i := 1765) (by decide +kernel), List.mem_of_getElem? (i := 1766) (by decide +kernel)⟩
theorem lw_p113 : lw_okq (⟨"RopeClockModel", "leadsTo", "(III)I"⟩, 62) := ⟨⟨by decide +kernel, by decide +kernel⟩, List.mem_of_getElem? (i := 1109) (by decide +kernel), List.mem_of_getElem? (i := 1769) (by decide +kernel), List.mem_of_getElem? (i := 1770) (by decide +kernel)⟩
theorem lw_p114 : lw_okq (⟨"RopeClockModel", "keepsSo", "(IIII)Z"⟩, 62) := ⟨⟨by decide +kernel, by decide +kernel⟩, List.mem_of_getElem? (i := 1109) (by decide +kernel), List.mem_of_getElem? (i := 1773) (by decide +kernel), List.mem_of_getElem? (i := 1774) (by decide +kernel)⟩
theorem lw_p115 : lw_okq (⟨"RopeClockModel", "keeps", "(I)I"⟩, 62) := ⟨⟨by decide +kernel, by decide +kernel⟩, List.mem_of_getElem? (i := 1109) (by decide +kernel), List.mem_of_getElem? (i := 1781) (by decide +kernel), List.mem_of_getElem? (i := 1782) (by decide +kernel)⟩
theorem lw_p116 : lw_okq (⟨"RopeClockModel", "keepsTold", "()V"⟩, 62) := ⟨⟨by decide +kernel, by decide +kernel⟩, List.mem_of_getElem? (i := 1109) (by decide +kernel), List.mem_of_getElem? (i := 1785) (by decide +kernel), List.mem_of_getElem? (i := 1786) (by decide +kernel)⟩
theorem lw_p117 : lw_okq (⟨"RopeClockModel", "keepsLaw", "()V"⟩, 62) := ⟨⟨by decide +kernel, by decide +kernel⟩, List.mem_of_getElem? (i := 1109) (by decide +kernel), List.mem_of_getElem? (i := 1789) (by decide +kernel), List.mem_of_getElem? (i := 1790) (by decide +kernel)⟩
def lw_privs_8 : List (MethodName × Nat) := [(⟨"RopeClockModel", "endOf", "(III)I"⟩, 62), (⟨"RopeClockModel", "leadsTo", "(III)I"⟩, 62), (⟨"RopeClockModel", "keepsSo", "(IIII)Z"⟩, 62), (⟨"RopeClockModel", "keeps", "(I)I"⟩, 62), (⟨"RopeClockModel", "keepsTold", "()V"⟩, 62), (⟨"RopeClockModel", "keepsLaw", "()V"⟩, 62)]
theorem lw_r8 : ∀ q ∈ lw_privs_8, lw_okq q := List.forall_mem_cons.mpr ⟨lw_p112, List.forall_mem_cons.mpr ⟨lw_p113, List.forall_mem_cons.mpr ⟨lw_p114, List.forall_mem_cons.mpr ⟨lw_p115, List.forall_mem_cons.mpr ⟨lw_p116, List.forall_mem_cons.mpr ⟨lw_p117, fun _ h => absurd h List.not_mem_nil⟩⟩⟩⟩⟩⟩
def lw_privs : List (MethodName × Nat) := lw_privs_1 ++ (lw_privs_2 ++ (lw_privs_3 ++ (lw_privs_4 ++ (lw_privs_5 ++ (lw_privs_6 ++ (lw_privs_7 ++ (lw_privs_8)))))))
def lw_tbl : List Cond := k2_sels lw_privs ++ tables_1
theorem lw_privs_ok : ∀ q ∈ lw_privs, lw_okq q := by
  show ∀ q ∈ lw_privs_1 ++ (lw_privs_2 ++ (lw_privs_3 ++ (lw_privs_4 ++ (lw_privs_5 ++ (lw_privs_6 ++ (lw_privs_7 ++ (lw_privs_8))))))), lw_okq q
  exact List.forall_mem_append.mpr ⟨lw_r1, List.forall_mem_append.mpr ⟨lw_r2, List.forall_mem_append.mpr ⟨lw_r3, List.forall_mem_append.mpr ⟨lw_r4, List.forall_mem_append.mpr ⟨lw_r5, List.forall_mem_append.mpr ⟨lw_r6, List.forall_mem_append.mpr ⟨lw_r7, lw_r8⟩⟩⟩⟩⟩⟩⟩

def RX0 : String := "RopeClock$Book"
def TX0 : u_T := fun k => match k with
  | 0 => ("RopeClock$Book", "day", "[I", true)
  | 1 => ("RopeClock$Book", "kind", "[I", true)
  | 2 => ("RopeClock$Book", "who", "[I", true)
  | 3 => ("RopeClock$Book", "much", "[I", true)
  | _ => ("RopeClock$Book", "lines", "I", false)
def tyX0 : Nat → FieldType := fun k => match k with
  | 0 => .array .int
  | 1 => .array .int
  | 2 => .array .int
  | 3 => .array .int
  | _ => .int
theorem nmX0 : ∀ a, a < 5 → ∀ b, b < 5 → a ≠ b → (TX0 a).2.1 ≠ (TX0 b).2.1 := by decide +kernel
theorem tyX0_ok : ∀ k, k < 5 → parseFieldDescriptor (TX0 k).2.2.1 = some (tyX0 k) := by decide +kernel
abbrev cX0_init : ByteArray := prog_2_method_1_code
def yX0_init : MethodName := ⟨RX0, "<init>", "()V"⟩
abbrev cX0_copyFrom : ByteArray := prog_2_method_2_code
def yX0_copyFrom : MethodName := ⟨RX0, "copyFrom", "(LRopeClock$Book;)V"⟩
abbrev cX0_write : ByteArray := prog_2_method_3_code
def yX0_write : MethodName := ⟨RX0, "write", "(IIII)V"⟩
def RX1 : String := "RopeClock$Island"
def TX1 : u_T := fun k => match k with
  | 0 => ("RopeClock$Island", "weight", "[I", true)
  | 1 => ("RopeClock$Island", "longs", "[I", true)
  | 2 => ("RopeClock$Island", "left", "[I", true)
  | 3 => ("RopeClock$Island", "people", "I", false)
  | 4 => ("RopeClock$Island", "here", "I", false)
  | 5 => ("RopeClock$Island", "stays", "I", false)
  | 6 => ("RopeClock$Island", "time", "I", false)
  | 7 => ("RopeClock$Island", "wound", "I", false)
  | 8 => ("RopeClock$Island", "struck", "I", false)
  | 9 => ("RopeClock$Island", "turns", "I", false)
  | 10 => ("RopeClock$Island", "school", "I", false)
  | 11 => ("RopeClock$Island", "due", "I", false)
  | 12 => ("RopeClock$Island", "day", "I", false)
  | _ => ("RopeClock$Island", "draws", "I", false)
def tyX1 : Nat → FieldType := fun k => match k with
  | 0 => .array .int
  | 1 => .array .int
  | 2 => .array .int
  | 3 => .int
  | 4 => .int
  | 5 => .int
  | 6 => .int
  | 7 => .int
  | 8 => .int
  | 9 => .int
  | 10 => .int
  | 11 => .int
  | 12 => .int
  | _ => .int
theorem nmX1 : ∀ a, a < 14 → ∀ b, b < 14 → a ≠ b → (TX1 a).2.1 ≠ (TX1 b).2.1 := by decide +kernel
theorem tyX1_ok : ∀ k, k < 14 → parseFieldDescriptor (TX1 k).2.2.1 = some (tyX1 k) := by decide +kernel
abbrev cX1_init : ByteArray := prog_3_method_1_code
def yX1_init : MethodName := ⟨RX1, "<init>", "()V"⟩
abbrev cX1_copyFrom : ByteArray := prog_3_method_2_code
def yX1_copyFrom : MethodName := ⟨RX1, "copyFrom", "(LRopeClock$Island;)V"⟩
abbrev cX1_comes : ByteArray := prog_3_method_3_code
def yX1_comes : MethodName := ⟨RX1, "comes", "(II)I"⟩
abbrev cX1_knows : ByteArray := prog_3_method_4_code
def yX1_knows : MethodName := ⟨RX1, "knows", "(I)Z"⟩
abbrev cX1_isHere : ByteArray := prog_3_method_5_code
def yX1_isHere : MethodName := ⟨RX1, "isHere", "(I)Z"⟩
abbrev cX1_isBegged : ByteArray := prog_3_method_6_code
def yX1_isBegged : MethodName := ⟨RX1, "isBegged", "(I)Z"⟩
abbrev cX1_drawOfThousand : ByteArray := prog_3_method_7_code
def yX1_drawOfThousand : MethodName := ⟨RX1, "drawOfThousand", "()I"⟩
abbrev cX1_moveHands : ByteArray := prog_3_method_8_code
def yX1_moveHands : MethodName := ⟨RX1, "moveHands", "(I)V"⟩
def RX2 : String := "RopeClock$Kinship"
def TX2 : u_T := fun k => match k with
  | 0 => ("RopeClock$Kinship", "sets", "[I", true)
  | _ => ("RopeClock$Kinship", "lines", "I", false)
def tyX2 : Nat → FieldType := fun k => match k with
  | 0 => .array .int
  | _ => .int
theorem nmX2 : ∀ a, a < 2 → ∀ b, b < 2 → a ≠ b → (TX2 a).2.1 ≠ (TX2 b).2.1 := by decide +kernel
theorem tyX2_ok : ∀ k, k < 2 → parseFieldDescriptor (TX2 k).2.2.1 = some (tyX2 k) := by decide +kernel
abbrev cX2_init : ByteArray := prog_4_method_1_code
def yX2_init : MethodName := ⟨RX2, "<init>", "()V"⟩
abbrev cX2_copyFrom : ByteArray := prog_4_method_2_code
def yX2_copyFrom : MethodName := ⟨RX2, "copyFrom", "(LRopeClock$Kinship;)V"⟩
abbrev cX2_clear : ByteArray := prog_4_method_3_code
def yX2_clear : MethodName := ⟨RX2, "clea\x72", "()V"⟩
abbrev cX2_join : ByteArray := prog_4_method_4_code
def yX2_join : MethodName := ⟨RX2, "join", "(II)V"⟩
abbrev cX2_areKin : ByteArray := prog_4_method_5_code
def yX2_areKin : MethodName := ⟨RX2, "areKin", "(II)Z"⟩
def RX3 : String := "RopeClock$Law"
def TX3 : u_T := fun k => match k with
  | 0 => ("RopeClock$Law", "word", "[I", true)
  | 1 => ("RopeClock$Law", "start", "[I", true)
  | 2 => ("RopeClock$Law", "when", "[I", true)
  | 3 => ("RopeClock$Law", "stop", "[I", true)
  | 4 => ("RopeClock$Law", "code", "[I", true)
  | 5 => ("RopeClock$Law", "stack", "[I", true)
  | 6 => ("RopeClock$Law", "lines", "I", false)
  | _ => ("RopeClock$Law", "length", "I", false)
def tyX3 : Nat → FieldType := fun k => match k with
  | 0 => .array .int
  | 1 => .array .int
  | 2 => .array .int
  | 3 => .array .int
  | 4 => .array .int
  | 5 => .array .int
  | 6 => .int
  | _ => .int
theorem nmX3 : ∀ a, a < 8 → ∀ b, b < 8 → a ≠ b → (TX3 a).2.1 ≠ (TX3 b).2.1 := by decide +kernel
theorem tyX3_ok : ∀ k, k < 8 → parseFieldDescriptor (TX3 k).2.2.1 = some (tyX3 k) := by decide +kernel
abbrev cX3_init : ByteArray := prog_5_method_1_code
def yX3_init : MethodName := ⟨RX3, "<init>", "()V"⟩
abbrev cX3_copyFrom : ByteArray := prog_5_method_2_code
def yX3_copyFrom : MethodName := ⟨RX3, "copyFrom", "(LRopeClock$Law;)V"⟩
abbrev cX3_put : ByteArray := prog_5_method_3_code
def yX3_put : MethodName := ⟨RX3, "put", "(I)V"⟩
abbrev cX3_run : ByteArray := prog_5_method_4_code
def yX3_run : MethodName := ⟨RX3, "run", "(IILRopeClock$World;I)I"⟩
abbrev cX3_joined : ByteArray := prog_5_method_5_code
def yX3_joined : MethodName := ⟨RX3, "joined", "(III)I"⟩
def RX4 : String := "RopeClock$Plan"
def TX4 : u_T := fun k => match k with
  | 0 => ("RopeClock$Plan", "day", "[I", true)
  | 1 => ("RopeClock$Plan", "what", "[I", true)
  | 2 => ("RopeClock$Plan", "numbe\x72", "[I", true)
  | _ => ("RopeClock$Plan", "lines", "I", false)
def tyX4 : Nat → FieldType := fun k => match k with
  | 0 => .array .int
  | 1 => .array .int
  | 2 => .array .int
  | _ => .int
theorem nmX4 : ∀ a, a < 4 → ∀ b, b < 4 → a ≠ b → (TX4 a).2.1 ≠ (TX4 b).2.1 := by decide +kernel
theorem tyX4_ok : ∀ k, k < 4 → parseFieldDescriptor (TX4 k).2.2.1 = some (tyX4 k) := by decide +kernel
abbrev cX4_init : ByteArray := prog_6_method_1_code
def yX4_init : MethodName := ⟨RX4, "<init>", "()V"⟩
abbrev cX4_copyFrom : ByteArray := prog_6_method_2_code
def yX4_copyFrom : MethodName := ⟨RX4, "copyFrom", "(LRopeClock$Plan;)V"⟩
def RX5 : String := "RopeClock$Puzzles"
def TX5 : u_T := fun k => match k with
  | 0 => ("RopeClock$Puzzles", "teeth", "[I", true)
  | 1 => ("RopeClock$Puzzles", "onAxle", "[Z", true)
  | 2 => ("RopeClock$Puzzles", "wheels", "I", false)
  | 3 => ("RopeClock$Puzzles", "pai\x72", "[I", true)
  | 4 => ("RopeClock$Puzzles", "couples", "I", false)
  | 5 => ("RopeClock$Puzzles", "sitte\x72", "[I", true)
  | 6 => ("RopeClock$Puzzles", "sitters", "I", false)
  | 7 => ("RopeClock$Puzzles", "fa\x72", "[I", true)
  | 8 => ("RopeClock$Puzzles", "load", "[I", true)
  | _ => ("RopeClock$Puzzles", "arms", "I", false)
def tyX5 : Nat → FieldType := fun k => match k with
  | 0 => .array .int
  | 1 => .array .boolean
  | 2 => .int
  | 3 => .array .int
  | 4 => .int
  | 5 => .array .int
  | 6 => .int
  | 7 => .array .int
  | 8 => .array .int
  | _ => .int
theorem nmX5 : ∀ a, a < 10 → ∀ b, b < 10 → a ≠ b → (TX5 a).2.1 ≠ (TX5 b).2.1 := by decide +kernel
theorem tyX5_ok : ∀ k, k < 10 → parseFieldDescriptor (TX5 k).2.2.1 = some (tyX5 k) := by decide +kernel
abbrev cX5_init : ByteArray := prog_7_method_1_code
def yX5_init : MethodName := ⟨RX5, "<init>", "()V"⟩
abbrev cX5_copyFrom : ByteArray := prog_7_method_2_code
def yX5_copyFrom : MethodName := ⟨RX5, "copyFrom", "(LRopeClock$Puzzles;)V"⟩
abbrev cX5_tellWheel : ByteArray := prog_7_method_3_code
def yX5_tellWheel : MethodName := ⟨RX5, "tellWheel", "(IZ)I"⟩
abbrev cX5_tellCouple : ByteArray := prog_7_method_4_code
def yX5_tellCouple : MethodName := ⟨RX5, "tellCouple", "(II)I"⟩
abbrev cX5_tellSeat : ByteArray := prog_7_method_5_code
def yX5_tellSeat : MethodName := ⟨RX5, "tellSeat", "(I)I"⟩
abbrev cX5_tellArm : ByteArray := prog_7_method_6_code
def yX5_tellArm : MethodName := ⟨RX5, "tellArm", "(II)I"⟩
abbrev cX5_isSafe : ByteArray := prog_7_method_7_code
def yX5_isSafe : MethodName := ⟨RX5, "isSafe", "(I)Z"⟩
abbrev cX5_turnOf : ByteArray := prog_7_method_8_code
def yX5_turnOf : MethodName := ⟨RX5, "turnOf", "(I)I"⟩
def RX6 : String := "RopeClock$Tape"
def TX6 : u_T := fun k => match k with
  | 0 => ("RopeClock$Tape", "bytes", "[I", true)
  | 1 => ("RopeClock$Tape", "tokens", "[I", true)
  | 2 => ("RopeClock$Tape", "places", "[I", true)
  | 3 => ("RopeClock$Tape", "length", "I", false)
  | 4 => ("RopeClock$Tape", "count", "I", false)
  | 5 => ("RopeClock$Tape", "at", "I", false)
  | 6 => ("RopeClock$Tape", "token", "I", false)
  | 7 => ("RopeClock$Tape", "fault", "I", false)
  | 8 => ("RopeClock$Tape", "place", "I", false)
  | _ => ("RopeClock$Tape", "value", "I", false)
def tyX6 : Nat → FieldType := fun k => match k with
  | 0 => .array .int
  | 1 => .array .int
  | 2 => .array .int
  | 3 => .int
  | 4 => .int
  | 5 => .int
  | 6 => .int
  | 7 => .int
  | 8 => .int
  | _ => .int
theorem nmX6 : ∀ a, a < 10 → ∀ b, b < 10 → a ≠ b → (TX6 a).2.1 ≠ (TX6 b).2.1 := by decide +kernel
theorem tyX6_ok : ∀ k, k < 10 → parseFieldDescriptor (TX6 k).2.2.1 = some (tyX6 k) := by decide +kernel
abbrev cX6_init : ByteArray := prog_8_method_1_code
def yX6_init : MethodName := ⟨RX6, "<init>", "()V"⟩
abbrev cX6_putFour : ByteArray := prog_8_method_2_code
def yX6_putFour : MethodName := ⟨RX6, "putFou\x72", "(I)V"⟩
abbrev cX6_rewind : ByteArray := prog_8_method_3_code
def yX6_rewind : MethodName := ⟨RX6, "rewind", "()V"⟩
abbrev cX6_cut : ByteArray := prog_8_method_4_code
def yX6_cut : MethodName := ⟨RX6, "cut", "(Ljava/lang/String;)V"⟩
abbrev cX6_putToken : ByteArray := prog_8_method_5_code
def yX6_putToken : MethodName := ⟨RX6, "putToken", "(II)V"⟩
abbrev cX6_isLetter : ByteArray := prog_8_method_6_code
def yX6_isLetter : MethodName := ⟨RX6, "isLette\x72", "(I)Z"⟩
abbrev cX6_isDigit : ByteArray := prog_8_method_7_code
def yX6_isDigit : MethodName := ⟨RX6, "isDigit", "(I)Z"⟩
abbrev cX6_numberAt : ByteArray := prog_8_method_8_code
def yX6_numberAt : MethodName := ⟨RX6, "numberAt", "(II)I"⟩
abbrev cX6_wordAt : ByteArray := prog_8_method_9_code
def yX6_wordAt : MethodName := ⟨RX6, "wordAt", "(Ljava/lang/String;II)I"⟩
abbrev cX6_isSame : ByteArray := prog_8_method_10_code
def yX6_isSame : MethodName := ⟨RX6, "isSame", "(Ljava/lang/String;III)Z"⟩
abbrev cX6_pass : ByteArray := prog_8_method_11_code
def yX6_pass : MethodName := ⟨RX6, "pass", "()V"⟩
abbrev cX6_isNumber : ByteArray := prog_8_method_12_code
def yX6_isNumber : MethodName := ⟨RX6, "isNumbe\x72", "()Z"⟩
abbrev cX6_isWord : ByteArray := prog_8_method_13_code
def yX6_isWord : MethodName := ⟨RX6, "isWord", "(II)Z"⟩
abbrev cX6_refuse : ByteArray := prog_8_method_14_code
def yX6_refuse : MethodName := ⟨RX6, "refuse", "(I)Z"⟩
abbrev cX6_takes : ByteArray := prog_8_method_15_code
def yX6_takes : MethodName := ⟨RX6, "takes", "(I)Z"⟩
abbrev cX6_takesNumber : ByteArray := prog_8_method_16_code
def yX6_takesNumber : MethodName := ⟨RX6, "takesNumbe\x72", "(II)Z"⟩
abbrev cX6_opensLine : ByteArray := prog_8_method_17_code
def yX6_opensLine : MethodName := ⟨RX6, "opensLine", "(III)Z"⟩
def RX7 : String := "RopeClock$TextReade\x72"
def TX7 : u_T := fun k => match k with
  | _ => ("RopeClock$TextReade\x72", "tape", "LRopeClock$Tape;", true)
def tyX7 : Nat → FieldType := fun k => match k with
  | _ => .object "RopeClock$Tape"
theorem nmX7 : ∀ a, a < 1 → ∀ b, b < 1 → a ≠ b → (TX7 a).2.1 ≠ (TX7 b).2.1 := by decide +kernel
theorem tyX7_ok : ∀ k, k < 1 → parseFieldDescriptor (TX7 k).2.2.1 = some (tyX7 k) := by decide +kernel
abbrev cX7_init : ByteArray := prog_9_method_1_code
def yX7_init : MethodName := ⟨RX7, "<init>", "(LRopeClock$Tape;)V"⟩
abbrev cX7_readLaw : ByteArray := prog_9_method_2_code
def yX7_readLaw : MethodName := ⟨RX7, "readLaw", "(LRopeClock$Law;)Z"⟩
abbrev cX7_readLawLine : ByteArray := prog_9_method_3_code
def yX7_readLawLine : MethodName := ⟨RX7, "readLawLine", "(LRopeClock$Law;I)Z"⟩
abbrev cX7_readChoice : ByteArray := prog_9_method_4_code
def yX7_readChoice : MethodName := ⟨RX7, "readChoice", "(LRopeClock$Law;I)Z"⟩
abbrev cX7_readSingle : ByteArray := prog_9_method_5_code
def yX7_readSingle : MethodName := ⟨RX7, "readSingle", "(LRopeClock$Law;I)Z"⟩
abbrev cX7_readSum : ByteArray := prog_9_method_6_code
def yX7_readSum : MethodName := ⟨RX7, "readSum", "(LRopeClock$Law;)Z"⟩
abbrev cX7_readOperand : ByteArray := prog_9_method_7_code
def yX7_readOperand : MethodName := ⟨RX7, "readOperand", "(LRopeClock$Law;Z)Z"⟩
abbrev cX7_readBoats : ByteArray := prog_9_method_8_code
def yX7_readBoats : MethodName := ⟨RX7, "readBoats", "(LRopeClock$Plan;)Z"⟩
abbrev cX7_readBoat : ByteArray := prog_9_method_9_code
def yX7_readBoat : MethodName := ⟨RX7, "readBoat", "(LRopeClock$Plan;I)Z"⟩
abbrev cX7_readDay : ByteArray := prog_9_method_10_code
def yX7_readDay : MethodName := ⟨RX7, "readDay", "(LRopeClock$Plan;I)Z"⟩
abbrev cX7_readTown : ByteArray := prog_9_method_11_code
def yX7_readTown : MethodName := ⟨RX7, "readTown", "(LRopeClock$Plan;I)Z"⟩
abbrev cX7_readDoing : ByteArray := prog_9_method_12_code
def yX7_readDoing : MethodName := ⟨RX7, "readDoing", "(LRopeClock$Plan;II)Z"⟩
abbrev cX7_readAmount : ByteArray := prog_9_method_13_code
def yX7_readAmount : MethodName := ⟨RX7, "readAmount", "(II)Z"⟩
abbrev cX7_readKin : ByteArray := prog_9_method_14_code
def yX7_readKin : MethodName := ⟨RX7, "readKin", "(LRopeClock$Kinship;I)Z"⟩
abbrev cX7_readKinLine : ByteArray := prog_9_method_15_code
def yX7_readKinLine : MethodName := ⟨RX7, "readKinLine", "(LRopeClock$Kinship;I)Z"⟩
def RX8 : String := "RopeClock$Thinke\x72"
def TX8 : u_T := fun k => match k with
  | 0 => ("RopeClock$Thinke\x72", "worth", "[I", true)
  | 1 => ("RopeClock$Thinke\x72", "bell", "[I", true)
  | 2 => ("RopeClock$Thinke\x72", "crossings", "[I", true)
  | 3 => ("RopeClock$Thinke\x72", "queue", "[I", true)
  | _ => ("RopeClock$Thinke\x72", "turnings", "[I", true)
def tyX8 : Nat → FieldType := fun k => match k with
  | 0 => .array .int
  | 1 => .array .int
  | 2 => .array .int
  | 3 => .array .int
  | _ => .array .int
theorem nmX8 : ∀ a, a < 5 → ∀ b, b < 5 → a ≠ b → (TX8 a).2.1 ≠ (TX8 b).2.1 := by decide +kernel
theorem tyX8_ok : ∀ k, k < 5 → parseFieldDescriptor (TX8 k).2.2.1 = some (tyX8 k) := by decide +kernel
abbrev cX8_init : ByteArray := prog_10_method_1_code
def yX8_init : MethodName := ⟨RX8, "<init>", "()V"⟩
abbrev cX8_strokesOver : ByteArray := prog_10_method_2_code
def yX8_strokesOver : MethodName := ⟨RX8, "strokesOve\x72", "(II)I"⟩
abbrev cX8_handsApart : ByteArray := prog_10_method_3_code
def yX8_handsApart : MethodName := ⟨RX8, "handsApart", "(I)I"⟩
abbrev cX8_minutesApartBy : ByteArray := prog_10_method_4_code
def yX8_minutesApartBy : MethodName := ⟨RX8, "minutesApartBy", "(I)I"⟩
abbrev cX8_commonPart : ByteArray := prog_10_method_5_code
def yX8_commonPart : MethodName := ⟨RX8, "commonPart", "(II)I"⟩
abbrev cX8_fewestCrossings : ByteArray := prog_10_method_6_code
def yX8_fewestCrossings : MethodName := ⟨RX8, "fewestCrossings", "(LRopeClock$Puzzles;II)I"⟩
abbrev cX8_fewestTurnings : ByteArray := prog_10_method_7_code
def yX8_fewestTurnings : MethodName := ⟨RX8, "fewestTurnings", "(III)I"⟩
abbrev cX8_turnInto : ByteArray := prog_10_method_8_code
def yX8_turnInto : MethodName := ⟨RX8, "turnInto", "(IIII)V"⟩
abbrev cX8_waysToSit : ByteArray := prog_10_method_9_code
def yX8_waysToSit : MethodName := ⟨RX8, "waysToSit", "(LRopeClock$Puzzles;III)I"⟩
abbrev cX8_leastLean : ByteArray := prog_10_method_10_code
def yX8_leastLean : MethodName := ⟨RX8, "leastLean", "(LRopeClock$Puzzles;IIII)I"⟩
abbrev cX8_quotients : ByteArray := prog_10_method_11_code
def yX8_quotients : MethodName := ⟨RX8, "quotients", "(II)I"⟩
abbrev cX8_partOf : ByteArray := prog_10_method_12_code
def yX8_partOf : MethodName := ⟨RX8, "partOf", "(IIII)I"⟩
abbrev cX8_ringInOrder : ByteArray := prog_10_method_13_code
def yX8_ringInOrder : MethodName := ⟨RX8, "ringInOrde\x72", "(I)V"⟩
abbrev cX8_change : ByteArray := prog_10_method_14_code
def yX8_change : MethodName := ⟨RX8, "change", "(II)V"⟩
abbrev cX8_isInOrder : ByteArray := prog_10_method_15_code
def yX8_isInOrder : MethodName := ⟨RX8, "isInOrde\x72", "(I)Z"⟩
abbrev cX8_changesTillInOrder : ByteArray := prog_10_method_16_code
def yX8_changesTillInOrder : MethodName := ⟨RX8, "changesTillInOrde\x72", "(I)I"⟩
abbrev cX8_bellAt : ByteArray := prog_10_method_17_code
def yX8_bellAt : MethodName := ⟨RX8, "bellAt", "(III)I"⟩
abbrev cX8_opponent : ByteArray := prog_10_method_18_code
def yX8_opponent : MethodName := ⟨RX8, "opponent", "(III)I"⟩
abbrev cX8_meetsLast : ByteArray := prog_10_method_19_code
def yX8_meetsLast : MethodName := ⟨RX8, "meetsLast", "(II)I"⟩
abbrev cX8_firstMeeting : ByteArray := prog_10_method_20_code
def yX8_firstMeeting : MethodName := ⟨RX8, "firstMeeting", "(IIII)I"⟩
abbrev cX8_judgeHours : ByteArray := prog_10_method_21_code
def yX8_judgeHours : MethodName := ⟨RX8, "judgeHours", "(II)V"⟩
abbrev cX8_bestFrom : ByteArray := prog_10_method_22_code
def yX8_bestFrom : MethodName := ⟨RX8, "bestFrom", "(III)I"⟩
abbrev cX8_worthOfStep : ByteArray := prog_10_method_23_code
def yX8_worthOfStep : MethodName := ⟨RX8, "worthOfStep", "(III)I"⟩
abbrev cX8_stepThatKeeps : ByteArray := prog_10_method_24_code
def yX8_stepThatKeeps : MethodName := ⟨RX8, "stepThatKeeps", "(III)I"⟩
def RX9 : String := "RopeClock$World"
def TX9 : u_T := fun k => match k with
  | 0 => ("RopeClock$World", "island", "LRopeClock$Island;", true)
  | 1 => ("RopeClock$World", "law", "LRopeClock$Law;", true)
  | 2 => ("RopeClock$World", "boats", "LRopeClock$Plan;", true)
  | 3 => ("RopeClock$World", "town", "LRopeClock$Plan;", true)
  | 4 => ("RopeClock$World", "kin", "LRopeClock$Kinship;", true)
  | 5 => ("RopeClock$World", "book", "LRopeClock$Book;", true)
  | _ => ("RopeClock$World", "puzzles", "LRopeClock$Puzzles;", true)
def tyX9 : Nat → FieldType := fun k => match k with
  | 0 => .object "RopeClock$Island"
  | 1 => .object "RopeClock$Law"
  | 2 => .object "RopeClock$Plan"
  | 3 => .object "RopeClock$Plan"
  | 4 => .object "RopeClock$Kinship"
  | 5 => .object "RopeClock$Book"
  | _ => .object "RopeClock$Puzzles"
theorem nmX9 : ∀ a, a < 7 → ∀ b, b < 7 → a ≠ b → (TX9 a).2.1 ≠ (TX9 b).2.1 := by decide +kernel
theorem tyX9_ok : ∀ k, k < 7 → parseFieldDescriptor (TX9 k).2.2.1 = some (tyX9 k) := by decide +kernel
abbrev cX9_init : ByteArray := prog_11_method_1_code
def yX9_init : MethodName := ⟨RX9, "<init>", "()V"⟩
abbrev cX9_copyFrom : ByteArray := prog_11_method_2_code
def yX9_copyFrom : MethodName := ⟨RX9, "copyFrom", "(LRopeClock$World;)V"⟩
abbrev cX9_passDay : ByteArray := prog_11_method_3_code
def yX9_passDay : MethodName := ⟨RX9, "passDay", "(Z)V"⟩
abbrev cX9_happen : ByteArray := prog_11_method_4_code
def yX9_happen : MethodName := ⟨RX9, "happen", "(II)V"⟩
abbrev cX9_sailOut : ByteArray := prog_11_method_5_code
def yX9_sailOut : MethodName := ⟨RX9, "sailOut", "(IZ)V"⟩
abbrev cX9_sailBack : ByteArray := prog_11_method_6_code
def yX9_sailBack : MethodName := ⟨RX9, "sailBack", "(IZ)V"⟩
abbrev cX9_isWilling : ByteArray := prog_11_method_7_code
def yX9_isWilling : MethodName := ⟨RX9, "isWilling", "(IIZ)Z"⟩
abbrev cX9_goAboard : ByteArray := prog_11_method_8_code
def yX9_goAboard : MethodName := ⟨RX9, "goAboard", "(I)V"⟩
abbrev cX9_comeBack : ByteArray := prog_11_method_9_code
def yX9_comeBack : MethodName := ⟨RX9, "comeBack", "(I)V"⟩
abbrev cX9_runClock : ByteArray := prog_11_method_10_code
def yX9_runClock : MethodName := ⟨RX9, "runClock", "()V"⟩
abbrev cX9_tells : ByteArray := prog_11_method_11_code
def yX9_tells : MethodName := ⟨RX9, "tells", "(II)I"⟩
abbrev cX9_held : ByteArray := prog_11_method_12_code
def yX9_held : MethodName := ⟨RX9, "held", "(II)I"⟩
abbrev cX9_valueOf : ByteArray := prog_11_method_13_code
def yX9_valueOf : MethodName := ⟨RX9, "valueOf", "(II)I"⟩
def RX10 : String := "RopeClock"
def TX10 : u_T := fun k => match k with
  | 0 => ("RopeClock", "now", "LRopeClock$World;", true)
  | 1 => ("RopeClock", "pictured", "LRopeClock$World;", true)
  | 2 => ("RopeClock", "scratch", "LRopeClock$World;", true)
  | 3 => ("RopeClock", "tape", "LRopeClock$Tape;", true)
  | 4 => ("RopeClock", "reade\x72", "LRopeClock$TextReader;", true)
  | 5 => ("RopeClock", "thinke\x72", "LRopeClock$Thinker;", true)
  | 6 => ("RopeClock", "past", "[LRopeClock$Island;", true)
  | 7 => ("RopeClock", "pastLines", "[I", true)
  | 8 => ("RopeClock", "undoable", "I", false)
  | 9 => ("RopeClock", "hasImage", "Z", false)
  | _ => ("RopeClock", "sums", "[I", false)
def tyX10 : Nat → FieldType := fun k => match k with
  | 0 => .object "RopeClock$World"
  | 1 => .object "RopeClock$World"
  | 2 => .object "RopeClock$World"
  | 3 => .object "RopeClock$Tape"
  | 4 => .object "RopeClock$TextReade\x72"
  | 5 => .object "RopeClock$Thinke\x72"
  | 6 => .array (.object "RopeClock$Island")
  | 7 => .array .int
  | 8 => .int
  | 9 => .boolean
  | _ => .array .int
theorem nmX10 : ∀ a, a < 11 → ∀ b, b < 11 → a ≠ b → (TX10 a).2.1 ≠ (TX10 b).2.1 := by decide +kernel
theorem tyX10_ok : ∀ k, k < 11 → parseFieldDescriptor (TX10 k).2.2.1 = some (tyX10 k) := by decide +kernel
abbrev cX10_init : ByteArray := prog_1_method_1_code
def yX10_init : MethodName := ⟨RX10, "<init>", "()V"⟩
abbrev cX10_state : ByteArray := prog_1_method_2_code
def yX10_state : MethodName := ⟨RX10, "state", "(I)I"⟩
abbrev cX10_islander : ByteArray := prog_1_method_3_code
def yX10_islander : MethodName := ⟨RX10, "islande\x72", "(II)I"⟩
abbrev cX10_set : ByteArray := prog_1_method_4_code
def yX10_set : MethodName := ⟨RX10, "set", "(III)Z"⟩
abbrev cX10_act : ByteArray := prog_1_method_5_code
def yX10_act : MethodName := ⟨RX10, "act", "(II)Z"⟩
abbrev cX10_days : ByteArray := prog_1_method_6_code
def yX10_days : MethodName := ⟨RX10, "days", "(I)I"⟩
abbrev cX10_feed : ByteArray := prog_1_method_7_code
def yX10_feed : MethodName := ⟨RX10, "feed", "(IIIII)I"⟩
abbrev cX10_end : ByteArray := prog_1_method_8_code
def yX10_end : MethodName := ⟨RX10, "end", "(I)Z"⟩
abbrev cX10_text : ByteArray := prog_1_method_9_code
def yX10_text : MethodName := ⟨RX10, "text", "(I)I"⟩
abbrev cX10_fault : ByteArray := prog_1_method_10_code
def yX10_fault : MethodName := ⟨RX10, "fault", "(I)I"⟩
abbrev cX10_of : ByteArray := prog_1_method_11_code
def yX10_of : MethodName := ⟨RX10, "of", "(II)I"⟩
abbrev cX10_book : ByteArray := prog_1_method_12_code
def yX10_book : MethodName := ⟨RX10, "book", "(II)I"⟩
abbrev cX10_goes : ByteArray := prog_1_method_13_code
def yX10_goes : MethodName := ⟨RX10, "goes", "(II)I"⟩
abbrev cX10_lonely : ByteArray := prog_1_method_14_code
def yX10_lonely : MethodName := ⟨RX10, "lonely", "()I"⟩
abbrev cX10_must : ByteArray := prog_1_method_15_code
def yX10_must : MethodName := ⟨RX10, "must", "(II)I"⟩
abbrev cX10_strokes : ByteArray := prog_1_method_16_code
def yX10_strokes : MethodName := ⟨RX10, "strokes", "(II)I"⟩
abbrev cX10_hands : ByteArray := prog_1_method_17_code
def yX10_hands : MethodName := ⟨RX10, "hands", "(II)I"⟩
abbrev cX10_wheel : ByteArray := prog_1_method_18_code
def yX10_wheel : MethodName := ⟨RX10, "wheel", "(IZ)I"⟩
abbrev cX10_wheels : ByteArray := prog_1_method_19_code
def yX10_wheels : MethodName := ⟨RX10, "wheels", "(I)I"⟩
abbrev cX10_couple : ByteArray := prog_1_method_20_code
def yX10_couple : MethodName := ⟨RX10, "couple", "(II)I"⟩
abbrev cX10_ferry : ByteArray := prog_1_method_21_code
def yX10_ferry : MethodName := ⟨RX10, "ferry", "(II)I"⟩
abbrev cX10_glasses : ByteArray := prog_1_method_22_code
def yX10_glasses : MethodName := ⟨RX10, "glasses", "(III)I"⟩
abbrev cX10_seat : ByteArray := prog_1_method_23_code
def yX10_seat : MethodName := ⟨RX10, "seat", "(I)I"⟩
abbrev cX10_level : ByteArray := prog_1_method_24_code
def yX10_level : MethodName := ⟨RX10, "level", "()I"⟩
abbrev cX10_part : ByteArray := prog_1_method_25_code
def yX10_part : MethodName := ⟨RX10, "part", "(III)I"⟩
abbrev cX10_bells : ByteArray := prog_1_method_26_code
def yX10_bells : MethodName := ⟨RX10, "bells", "(III)I"⟩
abbrev cX10_against : ByteArray := prog_1_method_27_code
def yX10_against : MethodName := ⟨RX10, "against", "(III)I"⟩
abbrev cX10_calendar : ByteArray := prog_1_method_28_code
def yX10_calendar : MethodName := ⟨RX10, "calenda\x72", "(III)I"⟩
abbrev cX10_rope : ByteArray := prog_1_method_29_code
def yX10_rope : MethodName := ⟨RX10, "rope", "(III)I"⟩
abbrev cX10_meets : ByteArray := prog_1_method_30_code
def yX10_meets : MethodName := ⟨RX10, "meets", "(IIII)I"⟩
abbrev cX10_arm : ByteArray := prog_1_method_31_code
def yX10_arm : MethodName := ⟨RX10, "arm", "(II)I"⟩
abbrev cX10_hung : ByteArray := prog_1_method_32_code
def yX10_hung : MethodName := ⟨RX10, "hung", "(I)I"⟩
abbrev cX10_game : ByteArray := prog_1_method_33_code
def yX10_game : MethodName := ⟨RX10, "game", "(IIII)I"⟩
abbrev cX10_undo : ByteArray := prog_1_method_34_code
def yX10_undo : MethodName := ⟨RX10, "undo", "()Z"⟩
abbrev cX10_image : ByteArray := prog_1_method_35_code
def yX10_image : MethodName := ⟨RX10, "image", "(Z)Z"⟩
abbrev cX10_look : ByteArray := prog_1_method_36_code
def yX10_look : MethodName := ⟨RX10, "look", "(I)I"⟩
abbrev cX10_within : ByteArray := prog_1_method_37_code
def yX10_within : MethodName := ⟨RX10, "within", "(III)Z"⟩
abbrev cX10_canBeSet : ByteArray := prog_1_method_38_code
def yX10_canBeSet : MethodName := ⟨RX10, "canBeSet", "(III)Z"⟩
abbrev cX10_canAct : ByteArray := prog_1_method_39_code
def yX10_canAct : MethodName := ⟨RX10, "canAct", "(II)Z"⟩
abbrev cX10_forget : ByteArray := prog_1_method_40_code
def yX10_forget : MethodName := ⟨RX10, "forget", "()V"⟩
abbrev cX10_remember : ByteArray := prog_1_method_41_code
def yX10_remember : MethodName := ⟨RX10, "remembe\x72", "()V"⟩
abbrev cX10_fewestWinding : ByteArray := prog_1_method_42_code
def yX10_fewestWinding : MethodName := ⟨RX10, "fewestWinding", "(I)I"⟩
abbrev cX10_addToSums : ByteArray := prog_1_method_43_code
def yX10_addToSums : MethodName := ⟨RX10, "addToSums", "(III)V"⟩
def RX11 : String := "RopeClockModel"
def TX11 : u_T := fun k => match k with
  | 0 => ("RopeClockModel", "told", "I", false)
  | 1 => ("RopeClockModel", "now", "[I", true)
  | 2 => ("RopeClockModel", "rows", "[I", true)
  | 3 => ("RopeClockModel", "undoable", "I", false)
  | 4 => ("RopeClockModel", "waiting", "[I", true)
  | 5 => ("RopeClockModel", "isThought", "Z", false)
  | 6 => ("RopeClockModel", "islanders", "I", false)
  | 7 => ("RopeClockModel", "weight", "[I", true)
  | 8 => ("RopeClockModel", "longing", "[I", true)
  | 9 => ("RopeClockModel", "book", "[I", true)
  | 10 => ("RopeClockModel", "tape", "[I", true)
  | 11 => ("RopeClockModel", "taped", "I", false)
  | 12 => ("RopeClockModel", "spot", "I", false)
  | 13 => ("RopeClockModel", "from", "I", false)
  | 14 => ("RopeClockModel", "token", "I", false)
  | 15 => ("RopeClockModel", "value", "I", false)
  | 16 => ("RopeClockModel", "words", "[I", true)
  | 17 => ("RopeClockModel", "lineMany", "[I", true)
  | 18 => ("RopeClockModel", "lineWord", "[I", true)
  | 19 => ("RopeClockModel", "lineFrom", "[I", true)
  | 20 => ("RopeClockModel", "lineWhen", "[I", true)
  | 21 => ("RopeClockModel", "lineTo", "[I", true)
  | 22 => ("RopeClockModel", "op", "[I", true)
  | 23 => ("RopeClockModel", "arg", "[I", true)
  | 24 => ("RopeClockModel", "which", "I", false)
  | 25 => ("RopeClockModel", "codes", "I", false)
  | 26 => ("RopeClockModel", "open", "I", false)
  | 27 => ("RopeClockModel", "pending", "[I", true)
  | 28 => ("RopeClockModel", "pendings", "I", false)
  | 29 => ("RopeClockModel", "readFault", "I", false)
  | 30 => ("RopeClockModel", "readPlace", "I", false)
  | 31 => ("RopeClockModel", "faultKind", "I", false)
  | 32 => ("RopeClockModel", "faultPlace", "I", false)
  | 33 => ("RopeClockModel", "boatMany", "I", false)
  | 34 => ("RopeClockModel", "boats", "[I", true)
  | 35 => ("RopeClockModel", "deedMany", "I", false)
  | 36 => ("RopeClockModel", "deeds", "[I", true)
  | 37 => ("RopeClockModel", "kinMany", "I", false)
  | 38 => ("RopeClockModel", "kinOf", "[I", true)
  | 39 => ("RopeClockModel", "asked", "[I", true)
  | 40 => ("RopeClockModel", "stack", "[I", true)
  | 41 => ("RopeClockModel", "windsBy", "[I", true)
  | 42 => ("RopeClockModel", "wheelMany", "I", false)
  | 43 => ("RopeClockModel", "teeth", "[I", true)
  | 44 => ("RopeClockModel", "isOnAxle", "[I", true)
  | 45 => ("RopeClockModel", "coupleMany", "I", false)
  | 46 => ("RopeClockModel", "notAlone", "[I", true)
  | 47 => ("RopeClockModel", "crossedBy", "[I", true)
  | 48 => ("RopeClockModel", "turnedBy", "[I", true)
  | 49 => ("RopeClockModel", "seatMany", "I", false)
  | 50 => ("RopeClockModel", "seated", "[I", true)
  | 51 => ("RopeClockModel", "quotients", "[I", true)
  | 52 => ("RopeClockModel", "rung", "[I", true)
  | 53 => ("RopeClockModel", "armMany", "I", false)
  | 54 => ("RopeClockModel", "arms", "[I", true)
  | 55 => ("RopeClockModel", "hungWeight", "[I", true)
  | 56 => ("RopeClockModel", "orde\x72", "[I", true)
  | 57 => ("RopeClockModel", "endsAs", "[I", true)
  | 58 => ("RopeClockModel", "isTaking", "Z", false)
  | 59 => ("RopeClockModel", "hasImage", "Z", false)
  | 60 => ("RopeClockModel", "keptAt", "I", false)
  | _ => ("RopeClockModel", "images", "[I", true)
def tyX11 : Nat → FieldType := fun k => match k with
  | 0 => .int
  | 1 => .array .int
  | 2 => .array .int
  | 3 => .int
  | 4 => .array .int
  | 5 => .boolean
  | 6 => .int
  | 7 => .array .int
  | 8 => .array .int
  | 9 => .array .int
  | 10 => .array .int
  | 11 => .int
  | 12 => .int
  | 13 => .int
  | 14 => .int
  | 15 => .int
  | 16 => .array .int
  | 17 => .array .int
  | 18 => .array .int
  | 19 => .array .int
  | 20 => .array .int
  | 21 => .array .int
  | 22 => .array .int
  | 23 => .array .int
  | 24 => .int
  | 25 => .int
  | 26 => .int
  | 27 => .array .int
  | 28 => .int
  | 29 => .int
  | 30 => .int
  | 31 => .int
  | 32 => .int
  | 33 => .int
  | 34 => .array .int
  | 35 => .int
  | 36 => .array .int
  | 37 => .int
  | 38 => .array .int
  | 39 => .array .int
  | 40 => .array .int
  | 41 => .array .int
  | 42 => .int
  | 43 => .array .int
  | 44 => .array .int
  | 45 => .int
  | 46 => .array .int
  | 47 => .array .int
  | 48 => .array .int
  | 49 => .int
  | 50 => .array .int
  | 51 => .array .int
  | 52 => .array .int
  | 53 => .int
  | 54 => .array .int
  | 55 => .array .int
  | 56 => .array .int
  | 57 => .array .int
  | 58 => .boolean
  | 59 => .boolean
  | 60 => .int
  | _ => .array .int
theorem nmX11 : ∀ a, a < 62 → ∀ b, b < 62 → a ≠ b → (TX11 a).2.1 ≠ (TX11 b).2.1 := by decide +kernel
theorem tyX11_ok : ∀ k, k < 62 → parseFieldDescriptor (TX11 k).2.2.1 = some (tyX11 k) := by decide +kernel
abbrev cX11_init : ByteArray := prog_13_method_1_code
def yX11_init : MethodName := ⟨RX11, "<init>", "()V"⟩
abbrev cX11_isIn : ByteArray := prog_13_method_3_code
def yX11_isIn : MethodName := ⟨RX11, "isIn", "(III)Z"⟩
abbrev cX11_held : ByteArray := prog_13_method_4_code
def yX11_held : MethodName := ⟨RX11, "held", "(III)I"⟩
abbrev cX11_greater : ByteArray := prog_13_method_5_code
def yX11_greater : MethodName := ⟨RX11, "greate\x72", "(II)I"⟩
abbrev cX11_lesser : ByteArray := prog_13_method_6_code
def yX11_lesser : MethodName := ⟨RX11, "lesse\x72", "(II)I"⟩
abbrev cX11_plain : ByteArray := prog_13_method_7_code
def yX11_plain : MethodName := ⟨RX11, "plain", "(I)I"⟩
abbrev cX11_common : ByteArray := prog_13_method_8_code
def yX11_common : MethodName := ⟨RX11, "common", "(II)I"⟩
abbrev cX11_onesOf : ByteArray := prog_13_method_9_code
def yX11_onesOf : MethodName := ⟨RX11, "onesOf", "(I)I"⟩
abbrev cX11_has : ByteArray := prog_13_method_10_code
def yX11_has : MethodName := ⟨RX11, "has", "(II)Z"⟩
abbrev cX11_keepsAhead : ByteArray := prog_13_method_11_code
def yX11_keepsAhead : MethodName := ⟨RX11, "keepsAhead", "()V"⟩
abbrev cX11_undo : ByteArray := prog_13_method_12_code
def yX11_undo : MethodName := ⟨RX11, "undo", "()Z"⟩
abbrev cX11_thinks : ByteArray := prog_13_method_13_code
def yX11_thinks : MethodName := ⟨RX11, "thinks", "()V"⟩
abbrev cX11_endsThought : ByteArray := prog_13_method_14_code
def yX11_endsThought : MethodName := ⟨RX11, "endsThought", "()V"⟩
abbrev cX11_state : ByteArray := prog_13_method_15_code
def yX11_state : MethodName := ⟨RX11, "state", "(I)I"⟩
abbrev cX11_draw : ByteArray := prog_13_method_16_code
def yX11_draw : MethodName := ⟨RX11, "draw", "(I)I"⟩
abbrev cX11_isIslander : ByteArray := prog_13_method_17_code
def yX11_isIslander : MethodName := ⟨RX11, "isIslande\x72", "(I)Z"⟩
abbrev cX11_isHere : ByteArray := prog_13_method_18_code
def yX11_isHere : MethodName := ⟨RX11, "isHere", "(I)Z"⟩
abbrev cX11_hereSet : ByteArray := prog_13_method_19_code
def yX11_hereSet : MethodName := ⟨RX11, "hereSet", "()I"⟩
abbrev cX11_islander : ByteArray := prog_13_method_20_code
def yX11_islander : MethodName := ⟨RX11, "islande\x72", "(II)I"⟩
abbrev cX11_canSet : ByteArray := prog_13_method_21_code
def yX11_canSet : MethodName := ⟨RX11, "canSet", "(III)Z"⟩
abbrev cX11_set : ByteArray := prog_13_method_22_code
def yX11_set : MethodName := ⟨RX11, "set", "(III)Z"⟩
abbrev cX11_types : ByteArray := prog_13_method_23_code
def yX11_types : MethodName := ⟨RX11, "types", "(I)V"⟩
abbrev cX11_feed : ByteArray := prog_13_method_24_code
def yX11_feed : MethodName := ⟨RX11, "feed", "(IIIII)I"⟩
abbrev cX11_end : ByteArray := prog_13_method_25_code
def yX11_end : MethodName := ⟨RX11, "end", "(I)Z"⟩
abbrev cX11_raw : ByteArray := prog_13_method_26_code
def yX11_raw : MethodName := ⟨RX11, "raw", "(I)I"⟩
abbrev cX11_isLetter : ByteArray := prog_13_method_27_code
def yX11_isLetter : MethodName := ⟨RX11, "isLette\x72", "(I)Z"⟩
abbrev cX11_isDigit : ByteArray := prog_13_method_28_code
def yX11_isDigit : MethodName := ⟨RX11, "isDigit", "(I)Z"⟩
abbrev cX11_isMarkSign : ByteArray := prog_13_method_29_code
def yX11_isMarkSign : MethodName := ⟨RX11, "isMarkSign", "(I)Z"⟩
abbrev cX11_wordAt : ByteArray := prog_13_method_30_code
def yX11_wordAt : MethodName := ⟨RX11, "wordAt", "(II)I"⟩
abbrev cX11_reads : ByteArray := prog_13_method_31_code
def yX11_reads : MethodName := ⟨RX11, "reads", "()V"⟩
abbrev cX11_errs : ByteArray := prog_13_method_32_code
def yX11_errs : MethodName := ⟨RX11, "errs", "(I)I"⟩
abbrev cX11_isWord : ByteArray := prog_13_method_33_code
def yX11_isWord : MethodName := ⟨RX11, "isWord", "(I)Z"⟩
abbrev cX11_isSign : ByteArray := prog_13_method_34_code
def yX11_isSign : MethodName := ⟨RX11, "isSign", "(I)Z"⟩
abbrev cX11_emits : ByteArray := prog_13_method_35_code
def yX11_emits : MethodName := ⟨RX11, "emits", "(II)V"⟩
abbrev cX11_canAsk : ByteArray := prog_13_method_36_code
def yX11_canAsk : MethodName := ⟨RX11, "canAsk", "(I)Z"⟩
abbrev cX11_readUnit : ByteArray := prog_13_method_37_code
def yX11_readUnit : MethodName := ⟨RX11, "readUnit", "()I"⟩
abbrev cX11_readProduct : ByteArray := prog_13_method_38_code
def yX11_readProduct : MethodName := ⟨RX11, "readProduct", "()I"⟩
abbrev cX11_readSum : ByteArray := prog_13_method_39_code
def yX11_readSum : MethodName := ⟨RX11, "readSum", "()I"⟩
abbrev cX11_readCompared : ByteArray := prog_13_method_40_code
def yX11_readCompared : MethodName := ⟨RX11, "readCompared", "()I"⟩
abbrev cX11_waits : ByteArray := prog_13_method_41_code
def yX11_waits : MethodName := ⟨RX11, "waits", "(I)V"⟩
abbrev cX11_settles : ByteArray := prog_13_method_42_code
def yX11_settles : MethodName := ⟨RX11, "settles", "(I)V"⟩
abbrev cX11_readAny : ByteArray := prog_13_method_43_code
def yX11_readAny : MethodName := ⟨RX11, "readAny", "()I"⟩
abbrev cX11_isLineWord : ByteArray := prog_13_method_44_code
def yX11_isLineWord : MethodName := ⟨RX11, "isLineWord", "()Z"⟩
abbrev cX11_readLaw : ByteArray := prog_13_method_45_code
def yX11_readLaw : MethodName := ⟨RX11, "readLaw", "()I"⟩
abbrev cX11_takesLaw : ByteArray := prog_13_method_46_code
def yX11_takesLaw : MethodName := ⟨RX11, "takesLaw", "(I)V"⟩
abbrev cX11_readNumber : ByteArray := prog_13_method_47_code
def yX11_readNumber : MethodName := ⟨RX11, "readNumbe\x72", "(II)I"⟩
abbrev cX11_readMark : ByteArray := prog_13_method_48_code
def yX11_readMark : MethodName := ⟨RX11, "readMark", "(I)I"⟩
abbrev cX11_readTold : ByteArray := prog_13_method_49_code
def yX11_readTold : MethodName := ⟨RX11, "readTold", "(III)I"⟩
abbrev cX11_readBoat : ByteArray := prog_13_method_50_code
def yX11_readBoat : MethodName := ⟨RX11, "readBoat", "(I)I"⟩
abbrev cX11_readBoats : ByteArray := prog_13_method_51_code
def yX11_readBoats : MethodName := ⟨RX11, "readBoats", "()I"⟩
abbrev cX11_kindOfDeed : ByteArray := prog_13_method_52_code
def yX11_kindOfDeed : MethodName := ⟨RX11, "kindOfDeed", "()I"⟩
abbrev cX11_readDeed : ByteArray := prog_13_method_53_code
def yX11_readDeed : MethodName := ⟨RX11, "readDeed", "(I)I"⟩
abbrev cX11_readTown : ByteArray := prog_13_method_54_code
def yX11_readTown : MethodName := ⟨RX11, "readTown", "()I"⟩
abbrev cX11_readKin : ByteArray := prog_13_method_55_code
def yX11_readKin : MethodName := ⟨RX11, "readKin", "()I"⟩
abbrev cX11_readAllKin : ByteArray := prog_13_method_56_code
def yX11_readAllKin : MethodName := ⟨RX11, "readAllKin", "()I"⟩
abbrev cX11_readsText : ByteArray := prog_13_method_57_code
def yX11_readsText : MethodName := ⟨RX11, "readsText", "(I)I"⟩
abbrev cX11_takesOther : ByteArray := prog_13_method_58_code
def yX11_takesOther : MethodName := ⟨RX11, "takesOthe\x72", "(II)V"⟩
abbrev cX11_text : ByteArray := prog_13_method_59_code
def yX11_text : MethodName := ⟨RX11, "text", "(I)I"⟩
abbrev cX11_fault : ByteArray := prog_13_method_60_code
def yX11_fault : MethodName := ⟨RX11, "fault", "(I)I"⟩
abbrev cX11_twoOf : ByteArray := prog_13_method_61_code
def yX11_twoOf : MethodName := ⟨RX11, "twoOf", "(III)I"⟩
abbrev cX11_runs : ByteArray := prog_13_method_62_code
def yX11_runs : MethodName := ⟨RX11, "runs", "(III)I"⟩
abbrev cX11_lineOf : ByteArray := prog_13_method_63_code
def yX11_lineOf : MethodName := ⟨RX11, "lineOf", "(I)I"⟩
abbrev cX11_kinApart : ByteArray := prog_13_method_64_code
def yX11_kinApart : MethodName := ⟨RX11, "kinApart", "(I)I"⟩
abbrev cX11_asks : ByteArray := prog_13_method_65_code
def yX11_asks : MethodName := ⟨RX11, "asks", "(I)V"⟩
abbrev cX11_lawTells : ByteArray := prog_13_method_66_code
def yX11_lawTells : MethodName := ⟨RX11, "lawTells", "(III)I"⟩
abbrev cX11_leavesOf : ByteArray := prog_13_method_67_code
def yX11_leavesOf : MethodName := ⟨RX11, "leavesOf", "(I)I"⟩
abbrev cX11_windsOf : ByteArray := prog_13_method_68_code
def yX11_windsOf : MethodName := ⟨RX11, "windsOf", "(I)I"⟩
abbrev cX11_returnsOf : ByteArray := prog_13_method_69_code
def yX11_returnsOf : MethodName := ⟨RX11, "returnsOf", "(I)I"⟩
abbrev cX11_notes : ByteArray := prog_13_method_70_code
def yX11_notes : MethodName := ⟨RX11, "notes", "(III)V"⟩
abbrev cX11_goesAboard : ByteArray := prog_13_method_71_code
def yX11_goesAboard : MethodName := ⟨RX11, "goesAboard", "(I)V"⟩
abbrev cX11_comesBack : ByteArray := prog_13_method_72_code
def yX11_comesBack : MethodName := ⟨RX11, "comesBack", "(I)V"⟩
abbrev cX11_canAct : ByteArray := prog_13_method_73_code
def yX11_canAct : MethodName := ⟨RX11, "canAct", "(II)Z"⟩
abbrev cX11_act : ByteArray := prog_13_method_74_code
def yX11_act : MethodName := ⟨RX11, "act", "(II)Z"⟩
abbrev cX11_happens : ByteArray := prog_13_method_75_code
def yX11_happens : MethodName := ⟨RX11, "happens", "(I)Z"⟩
abbrev cX11_isPushed : ByteArray := prog_13_method_76_code
def yX11_isPushed : MethodName := ⟨RX11, "isPushed", "(I)V"⟩
abbrev cX11_does : ByteArray := prog_13_method_77_code
def yX11_does : MethodName := ⟨RX11, "does", "(I)V"⟩
abbrev cX11_goesOut : ByteArray := prog_13_method_78_code
def yX11_goesOut : MethodName := ⟨RX11, "goesOut", "(I)V"⟩
abbrev cX11_bringsBack : ByteArray := prog_13_method_79_code
def yX11_bringsBack : MethodName := ⟨RX11, "bringsBack", "(I)V"⟩
abbrev cX11_strokesAt : ByteArray := prog_13_method_80_code
def yX11_strokesAt : MethodName := ⟨RX11, "strokesAt", "(I)I"⟩
abbrev cX11_clockRuns : ByteArray := prog_13_method_81_code
def yX11_clockRuns : MethodName := ⟨RX11, "clockRuns", "()I"⟩
abbrev cX11_goesBy : ByteArray := prog_13_method_82_code
def yX11_goesBy : MethodName := ⟨RX11, "goesBy", "()I"⟩
abbrev cX11_days : ByteArray := prog_13_method_83_code
def yX11_days : MethodName := ⟨RX11, "days", "(I)I"⟩
abbrev cX11_of : ByteArray := prog_13_method_84_code
def yX11_of : MethodName := ⟨RX11, "of", "(II)I"⟩
abbrev cX11_book : ByteArray := prog_13_method_85_code
def yX11_book : MethodName := ⟨RX11, "book", "(II)I"⟩
abbrev cX11_goes : ByteArray := prog_13_method_86_code
def yX11_goes : MethodName := ⟨RX11, "goes", "(II)I"⟩
abbrev cX11_lonely : ByteArray := prog_13_method_87_code
def yX11_lonely : MethodName := ⟨RX11, "lonely", "()I"⟩
abbrev cX11_must : ByteArray := prog_13_method_88_code
def yX11_must : MethodName := ⟨RX11, "must", "(II)I"⟩
abbrev cX11_strokes : ByteArray := prog_13_method_89_code
def yX11_strokes : MethodName := ⟨RX11, "strokes", "(II)I"⟩
abbrev cX11_handsAt : ByteArray := prog_13_method_90_code
def yX11_handsAt : MethodName := ⟨RX11, "handsAt", "(I)I"⟩
abbrev cX11_hands : ByteArray := prog_13_method_91_code
def yX11_hands : MethodName := ⟨RX11, "hands", "(II)I"⟩
abbrev cX11_wheel : ByteArray := prog_13_method_92_code
def yX11_wheel : MethodName := ⟨RX11, "wheel", "(IZ)I"⟩
abbrev cX11_wheels : ByteArray := prog_13_method_93_code
def yX11_wheels : MethodName := ⟨RX11, "wheels", "(I)I"⟩
abbrev cX11_couple : ByteArray := prog_13_method_94_code
def yX11_couple : MethodName := ⟨RX11, "couple", "(II)I"⟩
abbrev cX11_isPeace : ByteArray := prog_13_method_95_code
def yX11_isPeace : MethodName := ⟨RX11, "isPeace", "(I)Z"⟩
abbrev cX11_ferry : ByteArray := prog_13_method_96_code
def yX11_ferry : MethodName := ⟨RX11, "ferry", "(II)I"⟩
abbrev cX11_glassAt : ByteArray := prog_13_method_97_code
def yX11_glassAt : MethodName := ⟨RX11, "glassAt", "(III)I"⟩
abbrev cX11_turns : ByteArray := prog_13_method_98_code
def yX11_turns : MethodName := ⟨RX11, "turns", "(IIII)V"⟩
abbrev cX11_glasses : ByteArray := prog_13_method_99_code
def yX11_glasses : MethodName := ⟨RX11, "glasses", "(III)I"⟩
abbrev cX11_seat : ByteArray := prog_13_method_100_code
def yX11_seat : MethodName := ⟨RX11, "seat", "(I)I"⟩
abbrev cX11_isLevel : ByteArray := prog_13_method_101_code
def yX11_isLevel : MethodName := ⟨RX11, "isLevel", "(I)Z"⟩
abbrev cX11_level : ByteArray := prog_13_method_102_code
def yX11_level : MethodName := ⟨RX11, "level", "()I"⟩
abbrev cX11_findsQuotients : ByteArray := prog_13_method_103_code
def yX11_findsQuotients : MethodName := ⟨RX11, "findsQuotients", "(II)I"⟩
abbrev cX11_part : ByteArray := prog_13_method_104_code
def yX11_part : MethodName := ⟨RX11, "part", "(III)I"⟩
abbrev cX11_changes : ByteArray := prog_13_method_105_code
def yX11_changes : MethodName := ⟨RX11, "changes", "(II)V"⟩
abbrev cX11_areInOrder : ByteArray := prog_13_method_106_code
def yX11_areInOrder : MethodName := ⟨RX11, "areInOrde\x72", "(I)Z"⟩
abbrev cX11_againAt : ByteArray := prog_13_method_107_code
def yX11_againAt : MethodName := ⟨RX11, "againAt", "(I)I"⟩
abbrev cX11_bells : ByteArray := prog_13_method_108_code
def yX11_bells : MethodName := ⟨RX11, "bells", "(III)I"⟩
abbrev cX11_against : ByteArray := prog_13_method_109_code
def yX11_against : MethodName := ⟨RX11, "against", "(III)I"⟩
abbrev cX11_calendar : ByteArray := prog_13_method_110_code
def yX11_calendar : MethodName := ⟨RX11, "calenda\x72", "(III)I"⟩
abbrev cX11_rope : ByteArray := prog_13_method_111_code
def yX11_rope : MethodName := ⟨RX11, "rope", "(III)I"⟩
abbrev cX11_meets : ByteArray := prog_13_method_112_code
def yX11_meets : MethodName := ⟨RX11, "meets", "(IIII)I"⟩
abbrev cX11_arm : ByteArray := prog_13_method_113_code
def yX11_arm : MethodName := ⟨RX11, "arm", "(II)I"⟩
abbrev cX11_goesToNextOrder : ByteArray := prog_13_method_114_code
def yX11_goesToNextOrder : MethodName := ⟨RX11, "goesToNextOrde\x72", "()Z"⟩
abbrev cX11_hung : ByteArray := prog_13_method_115_code
def yX11_hung : MethodName := ⟨RX11, "hung", "(I)I"⟩
abbrev cX11_leadsTo : ByteArray := prog_13_method_116_code
def yX11_leadsTo : MethodName := ⟨RX11, "leadsTo", "(III)I"⟩
abbrev cX11_endOf : ByteArray := prog_13_method_117_code
def yX11_endOf : MethodName := ⟨RX11, "endOf", "(III)I"⟩
abbrev cX11_keepsSo : ByteArray := prog_13_method_118_code
def yX11_keepsSo : MethodName := ⟨RX11, "keepsSo", "(IIII)Z"⟩
abbrev cX11_game : ByteArray := prog_13_method_119_code
def yX11_game : MethodName := ⟨RX11, "game", "(IIII)I"⟩
abbrev cX11_keeps : ByteArray := prog_13_method_120_code
def yX11_keeps : MethodName := ⟨RX11, "keeps", "(I)I"⟩
abbrev cX11_keepsLaw : ByteArray := prog_13_method_121_code
def yX11_keepsLaw : MethodName := ⟨RX11, "keepsLaw", "()V"⟩
abbrev cX11_keepsTold : ByteArray := prog_13_method_122_code
def yX11_keepsTold : MethodName := ⟨RX11, "keepsTold", "()V"⟩
abbrev cX11_image : ByteArray := prog_13_method_123_code
def yX11_image : MethodName := ⟨RX11, "image", "(Z)Z"⟩
abbrev cX11_look : ByteArray := prog_13_method_124_code
def yX11_look : MethodName := ⟨RX11, "look", "(I)I"⟩
def RJx145de : String := "java/io/Serializable"
def RJx9f9b0 : String := "java/lang/CharSequence"
def RJ11 : String := "java/lang/Characte\x72"
abbrev cJ11_isValidCodePoint_9a6ad : ByteArray := prog_14_method_11_code
def yJ11_isValidCodePoint_9a6ad : MethodName := ⟨RJ11, "isValidCodePoint", "(I)Z"⟩
abbrev cJ11_highSurrogate_5068e : ByteArray := prog_14_method_28_code
def yJ11_highSurrogate_5068e : MethodName := ⟨RJ11, "highSurrogate", "(I)C"⟩
abbrev cJ11_lowSurrogate_5068e : ByteArray := prog_14_method_29_code
def yJ11_lowSurrogate_5068e : MethodName := ⟨RJ11, "lowSurrogate", "(I)C"⟩
def RJxb160c : String := "java/lang/Comparable"
def RJ6 : String := "java/lang/Intege\x72"
abbrev cJ6_bitCount_0f7a4 : ByteArray := prog_15_method_49_code
def yJ6_bitCount_0f7a4 : MethodName := ⟨RJ6, "bitCount", "(I)I"⟩
def RJ9 : String := "java/lang/Math"
abbrev cJ9_floorDiv_7cf53 : ByteArray := prog_16_method_47_code
def yJ9_floorDiv_7cf53 : MethodName := ⟨RJ9, "floorDiv", "(II)I"⟩
abbrev cJ9_floorMod_7cf53 : ByteArray := prog_16_method_50_code
def yJ9_floorMod_7cf53 : MethodName := ⟨RJ9, "floorMod", "(II)I"⟩
abbrev cJ9_abs_0f7a4 : ByteArray := prog_16_method_59_code
def yJ9_abs_0f7a4 : MethodName := ⟨RJ9, "abs", "(I)I"⟩
abbrev cJ9_max_7cf53 : ByteArray := prog_16_method_65_code
def yJ9_max_7cf53 : MethodName := ⟨RJ9, "max", "(II)I"⟩
abbrev cJ9_min_7cf53 : ByteArray := prog_16_method_69_code
def yJ9_min_7cf53 : MethodName := ⟨RJ9, "min", "(II)I"⟩
def RJ0 : String := "java/lang/String"
abbrev cJ0_length_8abf5 : ByteArray := prog_17_method_54_code
def yJ0_length_8abf5 : MethodName := ⟨RJ0, "length", "()I"⟩
abbrev cJ0_charAt_5068e : ByteArray := prog_17_method_56_code
def yJ0_charAt_5068e : MethodName := ⟨RJ0, "charAt", "(I)C"⟩
abbrev cJ0_indexOf_0f7a4 : ByteArray := prog_17_method_79_code
def yJ0_indexOf_0f7a4 : MethodName := ⟨RJ0, "indexOf", "(I)I"⟩
abbrev cJ0_indexOf_7cf53 : ByteArray := prog_17_method_80_code
def yJ0_indexOf_7cf53 : MethodName := ⟨RJ0, "indexOf", "(II)I"⟩
abbrev cJ0_coder_7d493 : ByteArray := prog_17_method_152_code
def yJ0_coder_7d493 : MethodName := ⟨RJ0, "code\x72", "()B"⟩
abbrev cJ0_isLatin1_aae02 : ByteArray := prog_17_method_154_code
def yJ0_isLatin1_aae02 : MethodName := ⟨RJ0, "isLatin1", "()Z"⟩
abbrev cJ0_checkIndex_df160 : ByteArray := prog_17_method_155_code
def yJ0_checkIndex_df160 : MethodName := ⟨RJ0, "checkIndex", "(II)V"⟩
abbrev cJ0_checkBoundsBeginEnd_23922 : ByteArray := prog_17_method_158_code
def yJ0_checkBoundsBeginEnd_23922 : MethodName := ⟨RJ0, "checkBoundsBeginEnd", "(III)V"⟩
def RJ1 : String := "java/lang/StringLatin1"
abbrev cJ1_charAt_3b067 : ByteArray := prog_18_method_2_code
def yJ1_charAt_3b067 : MethodName := ⟨RJ1, "charAt", "([BI)C"⟩
abbrev cJ1_canEncode_9a6ad : ByteArray := prog_18_method_4_code
def yJ1_canEncode_9a6ad : MethodName := ⟨RJ1, "canEncode", "(I)Z"⟩
abbrev cJ1_indexOf_4cfef : ByteArray := prog_18_method_22_code
def yJ1_indexOf_4cfef : MethodName := ⟨RJ1, "indexOf", "([BIII)I"⟩
abbrev cJ1_indexOfChar_4cfef : ByteArray := prog_18_method_23_code
def yJ1_indexOfChar_4cfef : MethodName := ⟨RJ1, "indexOfCha\x72", "([BIII)I"⟩
def RJ2 : String := "java/lang/StringUTF16"
abbrev cJ2_getChar_3b067 : ByteArray := prog_19_method_5_code
def yJ2_getChar_3b067 : MethodName := ⟨RJ2, "getCha\x72", "([BI)C"⟩
abbrev cJ2_length_9d52b : ByteArray := prog_19_method_6_code
def yJ2_length_9d52b : MethodName := ⟨RJ2, "length", "([B)I"⟩
abbrev cJ2_indexOf_4cfef : ByteArray := prog_19_method_40_code
def yJ2_indexOf_4cfef : MethodName := ⟨RJ2, "indexOf", "([BIII)I"⟩
abbrev cJ2_indexOfChar_4cfef : ByteArray := prog_19_method_47_code
def yJ2_indexOfChar_4cfef : MethodName := ⟨RJ2, "indexOfCha\x72", "([BIII)I"⟩
abbrev cJ2_indexOfCharUnsafe_4cfef : ByteArray := prog_19_method_48_code
def yJ2_indexOfCharUnsafe_4cfef : MethodName := ⟨RJ2, "indexOfCharUnsafe", "([BIII)I"⟩
abbrev cJ2_indexOfSupplementary_4cfef : ByteArray := prog_19_method_49_code
def yJ2_indexOfSupplementary_4cfef : MethodName := ⟨RJ2, "indexOfSupplementary", "([BIII)I"⟩
abbrev cJ2_charAt_3b067 : ByteArray := prog_19_method_83_code
def yJ2_charAt_3b067 : MethodName := ⟨RJ2, "charAt", "([BI)C"⟩
abbrev cJ2_checkIndex_2214a : ByteArray := prog_19_method_91_code
def yJ2_checkIndex_2214a : MethodName := ⟨RJ2, "checkIndex", "(I[B)V"⟩
abbrev cJ2_checkBoundsBeginEnd_d044e : ByteArray := prog_19_method_93_code
def yJ2_checkBoundsBeginEnd_d044e : MethodName := ⟨RJ2, "checkBoundsBeginEnd", "(II[B)V"⟩
def RJ10 : String := "java/lang/System"
def RJxfd54e : String := "java/lang/constant/Constable"
def RJx3cf43 : String := "java/lang/constant/ConstantDesc"
def RJ7 : String := "java/util/Arrays"
abbrev cJ7_rangeCheck_23922 : ByteArray := prog_21_method_30_code
def yJ7_rangeCheck_23922 : MethodName := ⟨RJ7, "rangeCheck", "(III)V"⟩
abbrev cJ7_fill_53178 : ByteArray := prog_21_method_103_code
def yJ7_fill_53178 : MethodName := ⟨RJ7, "fill", "([II)V"⟩
abbrev cJ7_fill_fda19 : ByteArray := prog_21_method_104_code
def yJ7_fill_fda19 : MethodName := ⟨RJ7, "fill", "([IIII)V"⟩
def RJ3 : String := "jdk/internal/util/Preconditions"
abbrev cJ3_checkIndex_8e157 : ByteArray := prog_22_method_11_code
def yJ3_checkIndex_8e157 : MethodName := ⟨RJ3, "checkIndex", "(IILjava/util/function/BiFunction;)I"⟩
abbrev cJ3_checkFromToIndex_8c36e : ByteArray := prog_22_method_12_code
def yJ3_checkFromToIndex_8c36e : MethodName := ⟨RJ3, "checkFromToIndex", "(IIILjava/util/function/BiFunction;)I"⟩
def RL : String := "RopeClockLaw"
abbrev cL_law : ByteArray := code
def yL_law : MethodName := ⟨RL, "law", "([I)Z"⟩
abbrev vwCl : List vw_C := [(RX0, TX0, 5), (RX1, TX1, 14), (RX2, TX2, 2), (RX3, TX3, 8), (RX4, TX4, 4), (RX5, TX5, 10), (RX6, TX6, 10), (RX7, TX7, 1), (RX8, TX8, 5), (RX9, TX9, 7), (RX10, TX10, 11), (RX11, TX11, 62)]
def zfkL : List (List Nat) := [[2, 2, 2, 2, 0], [2, 2, 2, 0, 0, 0, 0, 0, 0, 0, 0, 0, 0, 0], [2, 0], [2, 2, 2, 2, 2, 2, 0, 0], [2, 2, 2, 0], [2, 2, 0, 2, 0, 2, 0, 2, 2, 0], [2, 2, 2, 0, 0, 0, 0, 0, 0, 0], [2], [2, 2, 2, 2, 2], [2, 2, 2, 2, 2, 2, 2], [2, 2, 2, 2, 2, 2, 2, 2, 0, 1, 2], [0, 2, 2, 0, 2, 1, 0, 2, 2, 2, 2, 0, 0, 0, 0, 0, 2, 2, 2, 2, 2, 2, 2, 2, 0, 0, 0, 2, 0, 0, 0, 0, 0, 0, 2, 0, 2, 0, 2, 2, 2, 2, 0, 2, 2, 0, 2, 2, 2, 0, 2, 2, 2, 0, 2, 2, 2, 2, 1, 1, 0, 2]]
def zlen : List Nat := [92, 10, 17, 41, 13]
def zbyt : List (List Int32) := [[108, 101, 97, 118, 101, 115, 32, 119, 105, 110, 100, 115, 32, 114, 101, 116, 117, 114, 110, 115, 32, 119, 104, 101, 110, 32, 111, 114, 32, 97, 110, 100, 32, 110, 111, 116, 32, 119, 101, 105, 103, 104, 116, 32, 108, 111, 110, 103, 32, 108, 101, 102, 116, 32, 104, 101, 114, 101, 32, 112, 101, 111, 112, 108, 101, 32, 119, 111, 117, 110, 100, 32, 116, 105, 109, 101, 32, 115, 99, 104, 111, 111, 108, 32, 107, 105, 110, 32, 100, 97, 121, 32], [59, 43, 45, 42, 47, 40, 41, 60, 61, 62], [111, 110, 32, 98, 111, 97, 116, 32, 111, 117, 116, 32, 98, 97, 99, 107, 32], [111, 110, 32, 98, 101, 103, 32, 102, 114, 101, 101, 32, 115, 99, 104, 111, 111, 108, 32, 104, 111, 108, 105, 100, 97, 121, 32, 105, 110, 116, 101, 114, 101, 115, 116, 32, 112, 117, 115, 104, 32], [105, 115, 108, 97, 110, 100, 101, 114, 32, 107, 105, 110, 32]]
def zsc : List (String × Nat × String × Nat) := [("RopeClock$TextReade\x72", 17, "leaves winds returns when or and not weight long left here people wound time school kin day ", 0), ("RopeClock$Tape", 62, ";+-*/()<=>", 1), ("RopeClock$TextReade\x72", 94, "on boat out back ", 2), ("RopeClock$TextReade\x72", 119, "on beg free school holiday interest push ", 3), ("RopeClock$TextReade\x72", 130, "islander kin ", 4)]
def znl : List (String × Nat × MethodName × String) := [("RopeClock", 9, yX9_init, "RopeClock"), ("RopeClock", 24, yX6_init, "RopeClock"), ("RopeClock", 40, yX8_init, "RopeClock"), ("RopeClock", 66, yX1_init, "RopeClock"), ("RopeClock", 291, yX8_waysToSit, "RopeClock"), ("RopeClock", 318, yX8_leastLean, "RopeClock"), ("RopeClock$Kinship", 31, yX10_within, "RopeClock"), ("RopeClock$Puzzles", 50, yX10_within, "RopeClock"), ("RopeClock$Tape", 91, yX10_within, "RopeClock"), ("RopeClock$World", 11, yX1_init, "RopeClock"), ("RopeClock$World", 20, yX3_init, "RopeClock"), ("RopeClock$World", 27, yX4_init, "RopeClock"), ("RopeClock$World", 37, yX2_init, "RopeClock"), ("RopeClock$World", 44, yX0_init, "RopeClock"), ("RopeClock$World", 51, yX5_init, "RopeClock")]
