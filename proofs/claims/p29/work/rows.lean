section
-- ===== PART A: goes FIRST, ahead of the names: the tables' words, and 'selects' of the private methods out of them =====
/-- a private method of a class that the tables say can be made, by its rows of tables_1 -/
def lw_okq (q : MethodName × Nat) : Prop := (q.1.cls ≠ "java/lang/invoke/MethodHandle" ∧ q.1.cls ≠ "java/lang/invoke/VarHandle") ∧ Cond.instantiable q.1.cls q.2 ∈ tables_1 ∧ Cond.privateMethod q.1 ∈ tables_1 ∧ Cond.instanceMethod q.1 ∈ tables_1
theorem lw_p0 : lw_okq (⟨"RopeClock", "forget", "()V"⟩, 11) := ⟨⟨by decide +kernel, by decide +kernel⟩, List.mem_of_getElem? (i := 23) (by decide +kernel), List.mem_of_getElem? (i := 416) (by decide +kernel), List.mem_of_getElem? (i := 417) (by decide +kernel)⟩
theorem lw_p1 : lw_okq (⟨"RopeClock", "canBeSet", "(III)Z"⟩, 11) := ⟨⟨by decide +kernel, by decide +kernel⟩, List.mem_of_getElem? (i := 23) (by decide +kernel), List.mem_of_getElem? (i := 435) (by decide +kernel), List.mem_of_getElem? (i := 436) (by decide +kernel)⟩
theorem lw_p2 : lw_okq (⟨"RopeClock", "canAct", "(II)Z"⟩, 11) := ⟨⟨by decide +kernel, by decide +kernel⟩, List.mem_of_getElem? (i := 23) (by decide +kernel), List.mem_of_getElem? (i := 447) (by decide +kernel), List.mem_of_getElem? (i := 448) (by decide +kernel)⟩
theorem lw_p3 : lw_okq (⟨"RopeClock", "remembe\x72", "()V"⟩, 11) := ⟨⟨by decide +kernel, by decide +kernel⟩, List.mem_of_getElem? (i := 23) (by decide +kernel), List.mem_of_getElem? (i := 459) (by decide +kernel), List.mem_of_getElem? (i := 460) (by decide +kernel)⟩
theorem lw_p4 : lw_okq (⟨"RopeClock$World", "happen", "(II)V"⟩, 7) := ⟨⟨by decide +kernel, by decide +kernel⟩, List.mem_of_getElem? (i := 31) (by decide +kernel), List.mem_of_getElem? (i := 521) (by decide +kernel), List.mem_of_getElem? (i := 522) (by decide +kernel)⟩
theorem lw_p5 : lw_okq (⟨"RopeClock$World", "sailOut", "(IZ)V"⟩, 7) := ⟨⟨by decide +kernel, by decide +kernel⟩, List.mem_of_getElem? (i := 31) (by decide +kernel), List.mem_of_getElem? (i := 535) (by decide +kernel), List.mem_of_getElem? (i := 536) (by decide +kernel)⟩
theorem lw_p6 : lw_okq (⟨"RopeClock$World", "isWilling", "(IIZ)Z"⟩, 7) := ⟨⟨by decide +kernel, by decide +kernel⟩, List.mem_of_getElem? (i := 31) (by decide +kernel), List.mem_of_getElem? (i := 540) (by decide +kernel), List.mem_of_getElem? (i := 541) (by decide +kernel)⟩
theorem lw_p7 : lw_okq (⟨"RopeClock$World", "sailBack", "(IZ)V"⟩, 7) := ⟨⟨by decide +kernel, by decide +kernel⟩, List.mem_of_getElem? (i := 31) (by decide +kernel), List.mem_of_getElem? (i := 555) (by decide +kernel), List.mem_of_getElem? (i := 556) (by decide +kernel)⟩
theorem lw_p8 : lw_okq (⟨"RopeClock$World", "runClock", "()V"⟩, 7) := ⟨⟨by decide +kernel, by decide +kernel⟩, List.mem_of_getElem? (i := 31) (by decide +kernel), List.mem_of_getElem? (i := 560) (by decide +kernel), List.mem_of_getElem? (i := 561) (by decide +kernel)⟩
theorem lw_p9 : lw_okq (⟨"RopeClock$Tape", "wordAt", "(Ljava/lang/String;II)I"⟩, 10) := ⟨⟨by decide +kernel, by decide +kernel⟩, List.mem_of_getElem? (i := 300) (by decide +kernel), List.mem_of_getElem? (i := 599) (by decide +kernel), List.mem_of_getElem? (i := 600) (by decide +kernel)⟩
theorem lw_p10 : lw_okq (⟨"RopeClock$Tape", "isSame", "(Ljava/lang/String;III)Z"⟩, 10) := ⟨⟨by decide +kernel, by decide +kernel⟩, List.mem_of_getElem? (i := 300) (by decide +kernel), List.mem_of_getElem? (i := 651) (by decide +kernel), List.mem_of_getElem? (i := 652) (by decide +kernel)⟩
theorem lw_p11 : lw_okq (⟨"RopeClock$Tape", "putToken", "(II)V"⟩, 10) := ⟨⟨by decide +kernel, by decide +kernel⟩, List.mem_of_getElem? (i := 300) (by decide +kernel), List.mem_of_getElem? (i := 655) (by decide +kernel), List.mem_of_getElem? (i := 656) (by decide +kernel)⟩
theorem lw_p12 : lw_okq (⟨"RopeClock$Tape", "numberAt", "(II)I"⟩, 10) := ⟨⟨by decide +kernel, by decide +kernel⟩, List.mem_of_getElem? (i := 300) (by decide +kernel), List.mem_of_getElem? (i := 662) (by decide +kernel), List.mem_of_getElem? (i := 663) (by decide +kernel)⟩
theorem lw_p13 : lw_okq (⟨"RopeClock$TextReade\x72", "readLawLine", "(LRopeClock$Law;I)Z"⟩, 1) := ⟨⟨by decide +kernel, by decide +kernel⟩, List.mem_of_getElem? (i := 342) (by decide +kernel), List.mem_of_getElem? (i := 734) (by decide +kernel), List.mem_of_getElem? (i := 735) (by decide +kernel)⟩
theorem lw_p14 : lw_okq (⟨"RopeClock$TextReade\x72", "readSum", "(LRopeClock$Law;)Z"⟩, 1) := ⟨⟨by decide +kernel, by decide +kernel⟩, List.mem_of_getElem? (i := 342) (by decide +kernel), List.mem_of_getElem? (i := 742) (by decide +kernel), List.mem_of_getElem? (i := 743) (by decide +kernel)⟩
theorem lw_p15 : lw_okq (⟨"RopeClock$TextReade\x72", "readOperand", "(LRopeClock$Law;Z)Z"⟩, 1) := ⟨⟨by decide +kernel, by decide +kernel⟩, List.mem_of_getElem? (i := 342) (by decide +kernel), List.mem_of_getElem? (i := 746) (by decide +kernel), List.mem_of_getElem? (i := 747) (by decide +kernel)⟩
def lw_privs_1 : List (MethodName × Nat) := [(⟨"RopeClock", "forget", "()V"⟩, 11), (⟨"RopeClock", "canBeSet", "(III)Z"⟩, 11), (⟨"RopeClock", "canAct", "(II)Z"⟩, 11), (⟨"RopeClock", "remembe\x72", "()V"⟩, 11), (⟨"RopeClock$World", "happen", "(II)V"⟩, 7), (⟨"RopeClock$World", "sailOut", "(IZ)V"⟩, 7), (⟨"RopeClock$World", "isWilling", "(IIZ)Z"⟩, 7), (⟨"RopeClock$World", "sailBack", "(IZ)V"⟩, 7), (⟨"RopeClock$World", "runClock", "()V"⟩, 7), (⟨"RopeClock$Tape", "wordAt", "(Ljava/lang/String;II)I"⟩, 10), (⟨"RopeClock$Tape", "isSame", "(Ljava/lang/String;III)Z"⟩, 10), (⟨"RopeClock$Tape", "putToken", "(II)V"⟩, 10), (⟨"RopeClock$Tape", "numberAt", "(II)I"⟩, 10), (⟨"RopeClock$TextReade\x72", "readLawLine", "(LRopeClock$Law;I)Z"⟩, 1), (⟨"RopeClock$TextReade\x72", "readSum", "(LRopeClock$Law;)Z"⟩, 1), (⟨"RopeClock$TextReade\x72", "readOperand", "(LRopeClock$Law;Z)Z"⟩, 1)]
theorem lw_r1 : ∀ q ∈ lw_privs_1, lw_okq q := List.forall_mem_cons.mpr ⟨lw_p0, List.forall_mem_cons.mpr ⟨lw_p1, List.forall_mem_cons.mpr ⟨lw_p2, List.forall_mem_cons.mpr ⟨lw_p3, List.forall_mem_cons.mpr ⟨lw_p4, List.forall_mem_cons.mpr ⟨lw_p5, List.forall_mem_cons.mpr ⟨lw_p6, List.forall_mem_cons.mpr ⟨lw_p7, List.forall_mem_cons.mpr ⟨lw_p8, List.forall_mem_cons.mpr ⟨lw_p9, List.forall_mem_cons.mpr ⟨lw_p10, List.forall_mem_cons.mpr ⟨lw_p11, List.forall_mem_cons.mpr ⟨lw_p12, List.forall_mem_cons.mpr ⟨lw_p13, List.forall_mem_cons.mpr ⟨lw_p14, List.forall_mem_cons.mpr ⟨lw_p15, fun _ h => absurd h List.not_mem_nil⟩⟩⟩⟩⟩⟩⟩⟩⟩⟩⟩⟩⟩⟩⟩⟩
theorem lw_p16 : lw_okq (⟨"RopeClock$TextReade\x72", "readChoice", "(LRopeClock$Law;I)Z"⟩, 1) := ⟨⟨by decide +kernel, by decide +kernel⟩, List.mem_of_getElem? (i := 342) (by decide +kernel), List.mem_of_getElem? (i := 760) (by decide +kernel), List.mem_of_getElem? (i := 761) (by decide +kernel)⟩
theorem lw_p17 : lw_okq (⟨"RopeClock$TextReade\x72", "readSingle", "(LRopeClock$Law;I)Z"⟩, 1) := ⟨⟨by decide +kernel, by decide +kernel⟩, List.mem_of_getElem? (i := 342) (by decide +kernel), List.mem_of_getElem? (i := 764) (by decide +kernel), List.mem_of_getElem? (i := 765) (by decide +kernel)⟩
theorem lw_p18 : lw_okq (⟨"RopeClock$TextReade\x72", "readBoat", "(LRopeClock$Plan;I)Z"⟩, 1) := ⟨⟨by decide +kernel, by decide +kernel⟩, List.mem_of_getElem? (i := 342) (by decide +kernel), List.mem_of_getElem? (i := 783) (by decide +kernel), List.mem_of_getElem? (i := 784) (by decide +kernel)⟩
theorem lw_p19 : lw_okq (⟨"RopeClock$TextReade\x72", "readDay", "(LRopeClock$Plan;I)Z"⟩, 1) := ⟨⟨by decide +kernel, by decide +kernel⟩, List.mem_of_getElem? (i := 342) (by decide +kernel), List.mem_of_getElem? (i := 787) (by decide +kernel), List.mem_of_getElem? (i := 788) (by decide +kernel)⟩
theorem lw_p20 : lw_okq (⟨"RopeClock$TextReade\x72", "readDoing", "(LRopeClock$Plan;II)Z"⟩, 1) := ⟨⟨by decide +kernel, by decide +kernel⟩, List.mem_of_getElem? (i := 342) (by decide +kernel), List.mem_of_getElem? (i := 807) (by decide +kernel), List.mem_of_getElem? (i := 808) (by decide +kernel)⟩
theorem lw_p21 : lw_okq (⟨"RopeClock$TextReade\x72", "readAmount", "(II)Z"⟩, 1) := ⟨⟨by decide +kernel, by decide +kernel⟩, List.mem_of_getElem? (i := 342) (by decide +kernel), List.mem_of_getElem? (i := 811) (by decide +kernel), List.mem_of_getElem? (i := 812) (by decide +kernel)⟩
theorem lw_p22 : lw_okq (⟨"RopeClock$TextReade\x72", "readKinLine", "(LRopeClock$Kinship;I)Z"⟩, 1) := ⟨⟨by decide +kernel, by decide +kernel⟩, List.mem_of_getElem? (i := 342) (by decide +kernel), List.mem_of_getElem? (i := 827) (by decide +kernel), List.mem_of_getElem? (i := 828) (by decide +kernel)⟩
theorem lw_p23 : lw_okq (⟨"RopeClock", "fewestWinding", "(I)I"⟩, 11) := ⟨⟨by decide +kernel, by decide +kernel⟩, List.mem_of_getElem? (i := 23) (by decide +kernel), List.mem_of_getElem? (i := 886) (by decide +kernel), List.mem_of_getElem? (i := 887) (by decide +kernel)⟩
theorem lw_p24 : lw_okq (⟨"RopeClock", "addToSums", "(III)V"⟩, 11) := ⟨⟨by decide +kernel, by decide +kernel⟩, List.mem_of_getElem? (i := 23) (by decide +kernel), List.mem_of_getElem? (i := 899) (by decide +kernel), List.mem_of_getElem? (i := 900) (by decide +kernel)⟩
theorem lw_p25 : lw_okq (⟨"RopeClock$Thinke\x72", "turnInto", "(IIII)V"⟩, 5) := ⟨⟨by decide +kernel, by decide +kernel⟩, List.mem_of_getElem? (i := 352) (by decide +kernel), List.mem_of_getElem? (i := 977) (by decide +kernel), List.mem_of_getElem? (i := 978) (by decide +kernel)⟩
theorem lw_p26 : lw_okq (⟨"RopeClock$Thinke\x72", "ringInOrde\x72", "(I)V"⟩, 5) := ⟨⟨by decide +kernel, by decide +kernel⟩, List.mem_of_getElem? (i := 352) (by decide +kernel), List.mem_of_getElem? (i := 1016) (by decide +kernel), List.mem_of_getElem? (i := 1017) (by decide +kernel)⟩
theorem lw_p27 : lw_okq (⟨"RopeClock$Thinke\x72", "change", "(II)V"⟩, 5) := ⟨⟨by decide +kernel, by decide +kernel⟩, List.mem_of_getElem? (i := 352) (by decide +kernel), List.mem_of_getElem? (i := 1020) (by decide +kernel), List.mem_of_getElem? (i := 1021) (by decide +kernel)⟩
theorem lw_p28 : lw_okq (⟨"RopeClock$Thinke\x72", "isInOrde\x72", "(I)Z"⟩, 5) := ⟨⟨by decide +kernel, by decide +kernel⟩, List.mem_of_getElem? (i := 352) (by decide +kernel), List.mem_of_getElem? (i := 1024) (by decide +kernel), List.mem_of_getElem? (i := 1025) (by decide +kernel)⟩
theorem lw_p29 : lw_okq (⟨"RopeClock$Thinke\x72", "bestFrom", "(III)I"⟩, 5) := ⟨⟨by decide +kernel, by decide +kernel⟩, List.mem_of_getElem? (i := 352) (by decide +kernel), List.mem_of_getElem? (i := 1084) (by decide +kernel), List.mem_of_getElem? (i := 1085) (by decide +kernel)⟩
theorem lw_p30 : lw_okq (⟨"RopeClock$Thinke\x72", "worthOfStep", "(III)I"⟩, 5) := ⟨⟨by decide +kernel, by decide +kernel⟩, List.mem_of_getElem? (i := 352) (by decide +kernel), List.mem_of_getElem? (i := 1088) (by decide +kernel), List.mem_of_getElem? (i := 1089) (by decide +kernel)⟩
theorem lw_p31 : lw_okq (⟨"RopeClockModel", "isIn", "(III)Z"⟩, 62) := ⟨⟨by decide +kernel, by decide +kernel⟩, List.mem_of_getElem? (i := 1109) (by decide +kernel), List.mem_of_getElem? (i := 1315) (by decide +kernel), List.mem_of_getElem? (i := 1316) (by decide +kernel)⟩
def lw_privs_2 : List (MethodName × Nat) := [(⟨"RopeClock$TextReade\x72", "readChoice", "(LRopeClock$Law;I)Z"⟩, 1), (⟨"RopeClock$TextReade\x72", "readSingle", "(LRopeClock$Law;I)Z"⟩, 1), (⟨"RopeClock$TextReade\x72", "readBoat", "(LRopeClock$Plan;I)Z"⟩, 1), (⟨"RopeClock$TextReade\x72", "readDay", "(LRopeClock$Plan;I)Z"⟩, 1), (⟨"RopeClock$TextReade\x72", "readDoing", "(LRopeClock$Plan;II)Z"⟩, 1), (⟨"RopeClock$TextReade\x72", "readAmount", "(II)Z"⟩, 1), (⟨"RopeClock$TextReade\x72", "readKinLine", "(LRopeClock$Kinship;I)Z"⟩, 1), (⟨"RopeClock", "fewestWinding", "(I)I"⟩, 11), (⟨"RopeClock", "addToSums", "(III)V"⟩, 11), (⟨"RopeClock$Thinke\x72", "turnInto", "(IIII)V"⟩, 5), (⟨"RopeClock$Thinke\x72", "ringInOrde\x72", "(I)V"⟩, 5), (⟨"RopeClock$Thinke\x72", "change", "(II)V"⟩, 5), (⟨"RopeClock$Thinke\x72", "isInOrde\x72", "(I)Z"⟩, 5), (⟨"RopeClock$Thinke\x72", "bestFrom", "(III)I"⟩, 5), (⟨"RopeClock$Thinke\x72", "worthOfStep", "(III)I"⟩, 5), (⟨"RopeClockModel", "isIn", "(III)Z"⟩, 62)]
theorem lw_r2 : ∀ q ∈ lw_privs_2, lw_okq q := List.forall_mem_cons.mpr ⟨lw_p16, List.forall_mem_cons.mpr ⟨lw_p17, List.forall_mem_cons.mpr ⟨lw_p18, List.forall_mem_cons.mpr ⟨lw_p19, List.forall_mem_cons.mpr ⟨lw_p20, List.forall_mem_cons.mpr ⟨lw_p21, List.forall_mem_cons.mpr ⟨lw_p22, List.forall_mem_cons.mpr ⟨lw_p23, List.forall_mem_cons.mpr ⟨lw_p24, List.forall_mem_cons.mpr ⟨lw_p25, List.forall_mem_cons.mpr ⟨lw_p26, List.forall_mem_cons.mpr ⟨lw_p27, List.forall_mem_cons.mpr ⟨lw_p28, List.forall_mem_cons.mpr ⟨lw_p29, List.forall_mem_cons.mpr ⟨lw_p30, List.forall_mem_cons.mpr ⟨lw_p31, fun _ h => absurd h List.not_mem_nil⟩⟩⟩⟩⟩⟩⟩⟩⟩⟩⟩⟩⟩⟩⟩⟩
theorem lw_p32 : lw_okq (⟨"RopeClockModel", "canSet", "(III)Z"⟩, 62) := ⟨⟨by decide +kernel, by decide +kernel⟩, List.mem_of_getElem? (i := 1109) (by decide +kernel), List.mem_of_getElem? (i := 1323) (by decide +kernel), List.mem_of_getElem? (i := 1324) (by decide +kernel)⟩
theorem lw_p33 : lw_okq (⟨"RopeClockModel", "isIslande\x72", "(I)Z"⟩, 62) := ⟨⟨by decide +kernel, by decide +kernel⟩, List.mem_of_getElem? (i := 1109) (by decide +kernel), List.mem_of_getElem? (i := 1327) (by decide +kernel), List.mem_of_getElem? (i := 1328) (by decide +kernel)⟩
theorem lw_p34 : lw_okq (⟨"RopeClockModel", "types", "(I)V"⟩, 62) := ⟨⟨by decide +kernel, by decide +kernel⟩, List.mem_of_getElem? (i := 1109) (by decide +kernel), List.mem_of_getElem? (i := 1335) (by decide +kernel), List.mem_of_getElem? (i := 1336) (by decide +kernel)⟩
theorem lw_p35 : lw_okq (⟨"RopeClockModel", "readsText", "(I)I"⟩, 62) := ⟨⟨by decide +kernel, by decide +kernel⟩, List.mem_of_getElem? (i := 1109) (by decide +kernel), List.mem_of_getElem? (i := 1347) (by decide +kernel), List.mem_of_getElem? (i := 1348) (by decide +kernel)⟩
theorem lw_p36 : lw_okq (⟨"RopeClockModel", "reads", "()V"⟩, 62) := ⟨⟨by decide +kernel, by decide +kernel⟩, List.mem_of_getElem? (i := 1109) (by decide +kernel), List.mem_of_getElem? (i := 1351) (by decide +kernel), List.mem_of_getElem? (i := 1352) (by decide +kernel)⟩
theorem lw_p37 : lw_okq (⟨"RopeClockModel", "raw", "(I)I"⟩, 62) := ⟨⟨by decide +kernel, by decide +kernel⟩, List.mem_of_getElem? (i := 1109) (by decide +kernel), List.mem_of_getElem? (i := 1355) (by decide +kernel), List.mem_of_getElem? (i := 1356) (by decide +kernel)⟩
theorem lw_p38 : lw_okq (⟨"RopeClockModel", "isLette\x72", "(I)Z"⟩, 62) := ⟨⟨by decide +kernel, by decide +kernel⟩, List.mem_of_getElem? (i := 1109) (by decide +kernel), List.mem_of_getElem? (i := 1359) (by decide +kernel), List.mem_of_getElem? (i := 1360) (by decide +kernel)⟩
theorem lw_p39 : lw_okq (⟨"RopeClockModel", "wordAt", "(II)I"⟩, 62) := ⟨⟨by decide +kernel, by decide +kernel⟩, List.mem_of_getElem? (i := 1109) (by decide +kernel), List.mem_of_getElem? (i := 1363) (by decide +kernel), List.mem_of_getElem? (i := 1364) (by decide +kernel)⟩
theorem lw_p40 : lw_okq (⟨"RopeClockModel", "isDigit", "(I)Z"⟩, 62) := ⟨⟨by decide +kernel, by decide +kernel⟩, List.mem_of_getElem? (i := 1109) (by decide +kernel), List.mem_of_getElem? (i := 1367) (by decide +kernel), List.mem_of_getElem? (i := 1368) (by decide +kernel)⟩
theorem lw_p41 : lw_okq (⟨"RopeClockModel", "isMarkSign", "(I)Z"⟩, 62) := ⟨⟨by decide +kernel, by decide +kernel⟩, List.mem_of_getElem? (i := 1109) (by decide +kernel), List.mem_of_getElem? (i := 1371) (by decide +kernel), List.mem_of_getElem? (i := 1372) (by decide +kernel)⟩
theorem lw_p42 : lw_okq (⟨"RopeClockModel", "readBoats", "()I"⟩, 62) := ⟨⟨by decide +kernel, by decide +kernel⟩, List.mem_of_getElem? (i := 1109) (by decide +kernel), List.mem_of_getElem? (i := 1375) (by decide +kernel), List.mem_of_getElem? (i := 1376) (by decide +kernel)⟩
theorem lw_p43 : lw_okq (⟨"RopeClockModel", "isWord", "(I)Z"⟩, 62) := ⟨⟨by decide +kernel, by decide +kernel⟩, List.mem_of_getElem? (i := 1109) (by decide +kernel), List.mem_of_getElem? (i := 1379) (by decide +kernel), List.mem_of_getElem? (i := 1380) (by decide +kernel)⟩
theorem lw_p44 : lw_okq (⟨"RopeClockModel", "errs", "(I)I"⟩, 62) := ⟨⟨by decide +kernel, by decide +kernel⟩, List.mem_of_getElem? (i := 1109) (by decide +kernel), List.mem_of_getElem? (i := 1383) (by decide +kernel), List.mem_of_getElem? (i := 1384) (by decide +kernel)⟩
theorem lw_p45 : lw_okq (⟨"RopeClockModel", "readBoat", "(I)I"⟩, 62) := ⟨⟨by decide +kernel, by decide +kernel⟩, List.mem_of_getElem? (i := 1109) (by decide +kernel), List.mem_of_getElem? (i := 1387) (by decide +kernel), List.mem_of_getElem? (i := 1388) (by decide +kernel)⟩
theorem lw_p46 : lw_okq (⟨"RopeClockModel", "readTold", "(III)I"⟩, 62) := ⟨⟨by decide +kernel, by decide +kernel⟩, List.mem_of_getElem? (i := 1109) (by decide +kernel), List.mem_of_getElem? (i := 1391) (by decide +kernel), List.mem_of_getElem? (i := 1392) (by decide +kernel)⟩
theorem lw_p47 : lw_okq (⟨"RopeClockModel", "readNumbe\x72", "(II)I"⟩, 62) := ⟨⟨by decide +kernel, by decide +kernel⟩, List.mem_of_getElem? (i := 1109) (by decide +kernel), List.mem_of_getElem? (i := 1395) (by decide +kernel), List.mem_of_getElem? (i := 1396) (by decide +kernel)⟩
def lw_privs_3 : List (MethodName × Nat) := [(⟨"RopeClockModel", "canSet", "(III)Z"⟩, 62), (⟨"RopeClockModel", "isIslande\x72", "(I)Z"⟩, 62), (⟨"RopeClockModel", "types", "(I)V"⟩, 62), (⟨"RopeClockModel", "readsText", "(I)I"⟩, 62), (⟨"RopeClockModel", "reads", "()V"⟩, 62), (⟨"RopeClockModel", "raw", "(I)I"⟩, 62), (⟨"RopeClockModel", "isLette\x72", "(I)Z"⟩, 62), (⟨"RopeClockModel", "wordAt", "(II)I"⟩, 62), (⟨"RopeClockModel", "isDigit", "(I)Z"⟩, 62), (⟨"RopeClockModel", "isMarkSign", "(I)Z"⟩, 62), (⟨"RopeClockModel", "readBoats", "()I"⟩, 62), (⟨"RopeClockModel", "isWord", "(I)Z"⟩, 62), (⟨"RopeClockModel", "errs", "(I)I"⟩, 62), (⟨"RopeClockModel", "readBoat", "(I)I"⟩, 62), (⟨"RopeClockModel", "readTold", "(III)I"⟩, 62), (⟨"RopeClockModel", "readNumbe\x72", "(II)I"⟩, 62)]
theorem lw_r3 : ∀ q ∈ lw_privs_3, lw_okq q := List.forall_mem_cons.mpr ⟨lw_p32, List.forall_mem_cons.mpr ⟨lw_p33, List.forall_mem_cons.mpr ⟨lw_p34, List.forall_mem_cons.mpr ⟨lw_p35, List.forall_mem_cons.mpr ⟨lw_p36, List.forall_mem_cons.mpr ⟨lw_p37, List.forall_mem_cons.mpr ⟨lw_p38, List.forall_mem_cons.mpr ⟨lw_p39, List.forall_mem_cons.mpr ⟨lw_p40, List.forall_mem_cons.mpr ⟨lw_p41, List.forall_mem_cons.mpr ⟨lw_p42, List.forall_mem_cons.mpr ⟨lw_p43, List.forall_mem_cons.mpr ⟨lw_p44, List.forall_mem_cons.mpr ⟨lw_p45, List.forall_mem_cons.mpr ⟨lw_p46, List.forall_mem_cons.mpr ⟨lw_p47, fun _ h => absurd h List.not_mem_nil⟩⟩⟩⟩⟩⟩⟩⟩⟩⟩⟩⟩⟩⟩⟩⟩
theorem lw_p48 : lw_okq (⟨"RopeClockModel", "readMark", "(I)I"⟩, 62) := ⟨⟨by decide +kernel, by decide +kernel⟩, List.mem_of_getElem? (i := 1109) (by decide +kernel), List.mem_of_getElem? (i := 1399) (by decide +kernel), List.mem_of_getElem? (i := 1400) (by decide +kernel)⟩
theorem lw_p49 : lw_okq (⟨"RopeClockModel", "isSign", "(I)Z"⟩, 62) := ⟨⟨by decide +kernel, by decide +kernel⟩, List.mem_of_getElem? (i := 1109) (by decide +kernel), List.mem_of_getElem? (i := 1403) (by decide +kernel), List.mem_of_getElem? (i := 1404) (by decide +kernel)⟩
theorem lw_p50 : lw_okq (⟨"RopeClockModel", "readTown", "()I"⟩, 62) := ⟨⟨by decide +kernel, by decide +kernel⟩, List.mem_of_getElem? (i := 1109) (by decide +kernel), List.mem_of_getElem? (i := 1407) (by decide +kernel), List.mem_of_getElem? (i := 1408) (by decide +kernel)⟩
theorem lw_p51 : lw_okq (⟨"RopeClockModel", "readDeed", "(I)I"⟩, 62) := ⟨⟨by decide +kernel, by decide +kernel⟩, List.mem_of_getElem? (i := 1109) (by decide +kernel), List.mem_of_getElem? (i := 1411) (by decide +kernel), List.mem_of_getElem? (i := 1412) (by decide +kernel)⟩
theorem lw_p52 : lw_okq (⟨"RopeClockModel", "kindOfDeed", "()I"⟩, 62) := ⟨⟨by decide +kernel, by decide +kernel⟩, List.mem_of_getElem? (i := 1109) (by decide +kernel), List.mem_of_getElem? (i := 1415) (by decide +kernel), List.mem_of_getElem? (i := 1416) (by decide +kernel)⟩
theorem lw_p53 : lw_okq (⟨"RopeClockModel", "readAllKin", "()I"⟩, 62) := ⟨⟨by decide +kernel, by decide +kernel⟩, List.mem_of_getElem? (i := 1109) (by decide +kernel), List.mem_of_getElem? (i := 1419) (by decide +kernel), List.mem_of_getElem? (i := 1420) (by decide +kernel)⟩
theorem lw_p54 : lw_okq (⟨"RopeClockModel", "readKin", "()I"⟩, 62) := ⟨⟨by decide +kernel, by decide +kernel⟩, List.mem_of_getElem? (i := 1109) (by decide +kernel), List.mem_of_getElem? (i := 1423) (by decide +kernel), List.mem_of_getElem? (i := 1424) (by decide +kernel)⟩
theorem lw_p55 : lw_okq (⟨"RopeClockModel", "readLaw", "()I"⟩, 62) := ⟨⟨by decide +kernel, by decide +kernel⟩, List.mem_of_getElem? (i := 1109) (by decide +kernel), List.mem_of_getElem? (i := 1427) (by decide +kernel), List.mem_of_getElem? (i := 1428) (by decide +kernel)⟩
theorem lw_p56 : lw_okq (⟨"RopeClockModel", "isLineWord", "()Z"⟩, 62) := ⟨⟨by decide +kernel, by decide +kernel⟩, List.mem_of_getElem? (i := 1109) (by decide +kernel), List.mem_of_getElem? (i := 1431) (by decide +kernel), List.mem_of_getElem? (i := 1432) (by decide +kernel)⟩
theorem lw_p57 : lw_okq (⟨"RopeClockModel", "readSum", "()I"⟩, 62) := ⟨⟨by decide +kernel, by decide +kernel⟩, List.mem_of_getElem? (i := 1109) (by decide +kernel), List.mem_of_getElem? (i := 1435) (by decide +kernel), List.mem_of_getElem? (i := 1436) (by decide +kernel)⟩
theorem lw_p58 : lw_okq (⟨"RopeClockModel", "readProduct", "()I"⟩, 62) := ⟨⟨by decide +kernel, by decide +kernel⟩, List.mem_of_getElem? (i := 1109) (by decide +kernel), List.mem_of_getElem? (i := 1439) (by decide +kernel), List.mem_of_getElem? (i := 1440) (by decide +kernel)⟩
theorem lw_p59 : lw_okq (⟨"RopeClockModel", "readUnit", "()I"⟩, 62) := ⟨⟨by decide +kernel, by decide +kernel⟩, List.mem_of_getElem? (i := 1109) (by decide +kernel), List.mem_of_getElem? (i := 1443) (by decide +kernel), List.mem_of_getElem? (i := 1444) (by decide +kernel)⟩
theorem lw_p60 : lw_okq (⟨"RopeClockModel", "canAsk", "(I)Z"⟩, 62) := ⟨⟨by decide +kernel, by decide +kernel⟩, List.mem_of_getElem? (i := 1109) (by decide +kernel), List.mem_of_getElem? (i := 1447) (by decide +kernel), List.mem_of_getElem? (i := 1448) (by decide +kernel)⟩
theorem lw_p61 : lw_okq (⟨"RopeClockModel", "emits", "(II)V"⟩, 62) := ⟨⟨by decide +kernel, by decide +kernel⟩, List.mem_of_getElem? (i := 1109) (by decide +kernel), List.mem_of_getElem? (i := 1451) (by decide +kernel), List.mem_of_getElem? (i := 1452) (by decide +kernel)⟩
theorem lw_p62 : lw_okq (⟨"RopeClockModel", "readAny", "()I"⟩, 62) := ⟨⟨by decide +kernel, by decide +kernel⟩, List.mem_of_getElem? (i := 1109) (by decide +kernel), List.mem_of_getElem? (i := 1455) (by decide +kernel), List.mem_of_getElem? (i := 1456) (by decide +kernel)⟩
theorem lw_p63 : lw_okq (⟨"RopeClockModel", "waits", "(I)V"⟩, 62) := ⟨⟨by decide +kernel, by decide +kernel⟩, List.mem_of_getElem? (i := 1109) (by decide +kernel), List.mem_of_getElem? (i := 1459) (by decide +kernel), List.mem_of_getElem? (i := 1460) (by decide +kernel)⟩
def lw_privs_4 : List (MethodName × Nat) := [(⟨"RopeClockModel", "readMark", "(I)I"⟩, 62), (⟨"RopeClockModel", "isSign", "(I)Z"⟩, 62), (⟨"RopeClockModel", "readTown", "()I"⟩, 62), (⟨"RopeClockModel", "readDeed", "(I)I"⟩, 62), (⟨"RopeClockModel", "kindOfDeed", "()I"⟩, 62), (⟨"RopeClockModel", "readAllKin", "()I"⟩, 62), (⟨"RopeClockModel", "readKin", "()I"⟩, 62), (⟨"RopeClockModel", "readLaw", "()I"⟩, 62), (⟨"RopeClockModel", "isLineWord", "()Z"⟩, 62), (⟨"RopeClockModel", "readSum", "()I"⟩, 62), (⟨"RopeClockModel", "readProduct", "()I"⟩, 62), (⟨"RopeClockModel", "readUnit", "()I"⟩, 62), (⟨"RopeClockModel", "canAsk", "(I)Z"⟩, 62), (⟨"RopeClockModel", "emits", "(II)V"⟩, 62), (⟨"RopeClockModel", "readAny", "()I"⟩, 62), (⟨"RopeClockModel", "waits", "(I)V"⟩, 62)]
theorem lw_r4 : ∀ q ∈ lw_privs_4, lw_okq q := List.forall_mem_cons.mpr ⟨lw_p48, List.forall_mem_cons.mpr ⟨lw_p49, List.forall_mem_cons.mpr ⟨lw_p50, List.forall_mem_cons.mpr ⟨lw_p51, List.forall_mem_cons.mpr ⟨lw_p52, List.forall_mem_cons.mpr ⟨lw_p53, List.forall_mem_cons.mpr ⟨lw_p54, List.forall_mem_cons.mpr ⟨lw_p55, List.forall_mem_cons.mpr ⟨lw_p56, List.forall_mem_cons.mpr ⟨lw_p57, List.forall_mem_cons.mpr ⟨lw_p58, List.forall_mem_cons.mpr ⟨lw_p59, List.forall_mem_cons.mpr ⟨lw_p60, List.forall_mem_cons.mpr ⟨lw_p61, List.forall_mem_cons.mpr ⟨lw_p62, List.forall_mem_cons.mpr ⟨lw_p63, fun _ h => absurd h List.not_mem_nil⟩⟩⟩⟩⟩⟩⟩⟩⟩⟩⟩⟩⟩⟩⟩⟩
theorem lw_p64 : lw_okq (⟨"RopeClockModel", "readCompared", "()I"⟩, 62) := ⟨⟨by decide +kernel, by decide +kernel⟩, List.mem_of_getElem? (i := 1109) (by decide +kernel), List.mem_of_getElem? (i := 1463) (by decide +kernel), List.mem_of_getElem? (i := 1464) (by decide +kernel)⟩
theorem lw_p65 : lw_okq (⟨"RopeClockModel", "settles", "(I)V"⟩, 62) := ⟨⟨by decide +kernel, by decide +kernel⟩, List.mem_of_getElem? (i := 1109) (by decide +kernel), List.mem_of_getElem? (i := 1467) (by decide +kernel), List.mem_of_getElem? (i := 1468) (by decide +kernel)⟩
theorem lw_p66 : lw_okq (⟨"RopeClockModel", "takesLaw", "(I)V"⟩, 62) := ⟨⟨by decide +kernel, by decide +kernel⟩, List.mem_of_getElem? (i := 1109) (by decide +kernel), List.mem_of_getElem? (i := 1471) (by decide +kernel), List.mem_of_getElem? (i := 1472) (by decide +kernel)⟩
theorem lw_p67 : lw_okq (⟨"RopeClockModel", "takesOthe\x72", "(II)V"⟩, 62) := ⟨⟨by decide +kernel, by decide +kernel⟩, List.mem_of_getElem? (i := 1109) (by decide +kernel), List.mem_of_getElem? (i := 1475) (by decide +kernel), List.mem_of_getElem? (i := 1476) (by decide +kernel)⟩
theorem lw_p68 : lw_okq (⟨"RopeClockModel", "canAct", "(II)Z"⟩, 62) := ⟨⟨by decide +kernel, by decide +kernel⟩, List.mem_of_getElem? (i := 1109) (by decide +kernel), List.mem_of_getElem? (i := 1487) (by decide +kernel), List.mem_of_getElem? (i := 1488) (by decide +kernel)⟩
theorem lw_p69 : lw_okq (⟨"RopeClockModel", "isHere", "(I)Z"⟩, 62) := ⟨⟨by decide +kernel, by decide +kernel⟩, List.mem_of_getElem? (i := 1109) (by decide +kernel), List.mem_of_getElem? (i := 1491) (by decide +kernel), List.mem_of_getElem? (i := 1492) (by decide +kernel)⟩
theorem lw_p70 : lw_okq (⟨"RopeClockModel", "keepsAhead", "()V"⟩, 62) := ⟨⟨by decide +kernel, by decide +kernel⟩, List.mem_of_getElem? (i := 1109) (by decide +kernel), List.mem_of_getElem? (i := 1495) (by decide +kernel), List.mem_of_getElem? (i := 1496) (by decide +kernel)⟩
theorem lw_p71 : lw_okq (⟨"RopeClockModel", "goesAboard", "(I)V"⟩, 62) := ⟨⟨by decide +kernel, by decide +kernel⟩, List.mem_of_getElem? (i := 1109) (by decide +kernel), List.mem_of_getElem? (i := 1499) (by decide +kernel), List.mem_of_getElem? (i := 1500) (by decide +kernel)⟩
theorem lw_p72 : lw_okq (⟨"RopeClockModel", "windsOf", "(I)I"⟩, 62) := ⟨⟨by decide +kernel, by decide +kernel⟩, List.mem_of_getElem? (i := 1109) (by decide +kernel), List.mem_of_getElem? (i := 1503) (by decide +kernel), List.mem_of_getElem? (i := 1504) (by decide +kernel)⟩
theorem lw_p73 : lw_okq (⟨"RopeClockModel", "asks", "(I)V"⟩, 62) := ⟨⟨by decide +kernel, by decide +kernel⟩, List.mem_of_getElem? (i := 1109) (by decide +kernel), List.mem_of_getElem? (i := 1507) (by decide +kernel), List.mem_of_getElem? (i := 1508) (by decide +kernel)⟩
theorem lw_p74 : lw_okq (⟨"RopeClockModel", "hereSet", "()I"⟩, 62) := ⟨⟨by decide +kernel, by decide +kernel⟩, List.mem_of_getElem? (i := 1109) (by decide +kernel), List.mem_of_getElem? (i := 1511) (by decide +kernel), List.mem_of_getElem? (i := 1512) (by decide +kernel)⟩
theorem lw_p75 : lw_okq (⟨"RopeClockModel", "onesOf", "(I)I"⟩, 62) := ⟨⟨by decide +kernel, by decide +kernel⟩, List.mem_of_getElem? (i := 1109) (by decide +kernel), List.mem_of_getElem? (i := 1515) (by decide +kernel), List.mem_of_getElem? (i := 1516) (by decide +kernel)⟩
theorem lw_p76 : lw_okq (⟨"RopeClockModel", "held", "(III)I"⟩, 62) := ⟨⟨by decide +kernel, by decide +kernel⟩, List.mem_of_getElem? (i := 1109) (by decide +kernel), List.mem_of_getElem? (i := 1519) (by decide +kernel), List.mem_of_getElem? (i := 1520) (by decide +kernel)⟩
theorem lw_p77 : lw_okq (⟨"RopeClockModel", "kinApart", "(I)I"⟩, 62) := ⟨⟨by decide +kernel, by decide +kernel⟩, List.mem_of_getElem? (i := 1109) (by decide +kernel), List.mem_of_getElem? (i := 1523) (by decide +kernel), List.mem_of_getElem? (i := 1524) (by decide +kernel)⟩
theorem lw_p78 : lw_okq (⟨"RopeClockModel", "has", "(II)Z"⟩, 62) := ⟨⟨by decide +kernel, by decide +kernel⟩, List.mem_of_getElem? (i := 1109) (by decide +kernel), List.mem_of_getElem? (i := 1527) (by decide +kernel), List.mem_of_getElem? (i := 1528) (by decide +kernel)⟩
theorem lw_p79 : lw_okq (⟨"RopeClockModel", "lawTells", "(III)I"⟩, 62) := ⟨⟨by decide +kernel, by decide +kernel⟩, List.mem_of_getElem? (i := 1109) (by decide +kernel), List.mem_of_getElem? (i := 1531) (by decide +kernel), List.mem_of_getElem? (i := 1532) (by decide +kernel)⟩
def lw_privs_5 : List (MethodName × Nat) := [(⟨"RopeClockModel", "readCompared", "()I"⟩, 62), (⟨"RopeClockModel", "settles", "(I)V"⟩, 62), (⟨"RopeClockModel", "takesLaw", "(I)V"⟩, 62), (⟨"RopeClockModel", "takesOthe\x72", "(II)V"⟩, 62), (⟨"RopeClockModel", "canAct", "(II)Z"⟩, 62), (⟨"RopeClockModel", "isHere", "(I)Z"⟩, 62), (⟨"RopeClockModel", "keepsAhead", "()V"⟩, 62), (⟨"RopeClockModel", "goesAboard", "(I)V"⟩, 62), (⟨"RopeClockModel", "windsOf", "(I)I"⟩, 62), (⟨"RopeClockModel", "asks", "(I)V"⟩, 62), (⟨"RopeClockModel", "hereSet", "()I"⟩, 62), (⟨"RopeClockModel", "onesOf", "(I)I"⟩, 62), (⟨"RopeClockModel", "held", "(III)I"⟩, 62), (⟨"RopeClockModel", "kinApart", "(I)I"⟩, 62), (⟨"RopeClockModel", "has", "(II)Z"⟩, 62), (⟨"RopeClockModel", "lawTells", "(III)I"⟩, 62)]
theorem lw_r5 : ∀ q ∈ lw_privs_5, lw_okq q := List.forall_mem_cons.mpr ⟨lw_p64, List.forall_mem_cons.mpr ⟨lw_p65, List.forall_mem_cons.mpr ⟨lw_p66, List.forall_mem_cons.mpr ⟨lw_p67, List.forall_mem_cons.mpr ⟨lw_p68, List.forall_mem_cons.mpr ⟨lw_p69, List.forall_mem_cons.mpr ⟨lw_p70, List.forall_mem_cons.mpr ⟨lw_p71, List.forall_mem_cons.mpr ⟨lw_p72, List.forall_mem_cons.mpr ⟨lw_p73, List.forall_mem_cons.mpr ⟨lw_p74, List.forall_mem_cons.mpr ⟨lw_p75, List.forall_mem_cons.mpr ⟨lw_p76, List.forall_mem_cons.mpr ⟨lw_p77, List.forall_mem_cons.mpr ⟨lw_p78, List.forall_mem_cons.mpr ⟨lw_p79, fun _ h => absurd h List.not_mem_nil⟩⟩⟩⟩⟩⟩⟩⟩⟩⟩⟩⟩⟩⟩⟩⟩
theorem lw_p80 : lw_okq (⟨"RopeClockModel", "lineOf", "(I)I"⟩, 62) := ⟨⟨by decide +kernel, by decide +kernel⟩, List.mem_of_getElem? (i := 1109) (by decide +kernel), List.mem_of_getElem? (i := 1535) (by decide +kernel), List.mem_of_getElem? (i := 1536) (by decide +kernel)⟩
theorem lw_p81 : lw_okq (⟨"RopeClockModel", "runs", "(III)I"⟩, 62) := ⟨⟨by decide +kernel, by decide +kernel⟩, List.mem_of_getElem? (i := 1109) (by decide +kernel), List.mem_of_getElem? (i := 1539) (by decide +kernel), List.mem_of_getElem? (i := 1540) (by decide +kernel)⟩
theorem lw_p82 : lw_okq (⟨"RopeClockModel", "twoOf", "(III)I"⟩, 62) := ⟨⟨by decide +kernel, by decide +kernel⟩, List.mem_of_getElem? (i := 1109) (by decide +kernel), List.mem_of_getElem? (i := 1543) (by decide +kernel), List.mem_of_getElem? (i := 1544) (by decide +kernel)⟩
theorem lw_p83 : lw_okq (⟨"RopeClockModel", "notes", "(III)V"⟩, 62) := ⟨⟨by decide +kernel, by decide +kernel⟩, List.mem_of_getElem? (i := 1109) (by decide +kernel), List.mem_of_getElem? (i := 1547) (by decide +kernel), List.mem_of_getElem? (i := 1548) (by decide +kernel)⟩
theorem lw_p84 : lw_okq (⟨"RopeClockModel", "comesBack", "(I)V"⟩, 62) := ⟨⟨by decide +kernel, by decide +kernel⟩, List.mem_of_getElem? (i := 1109) (by decide +kernel), List.mem_of_getElem? (i := 1551) (by decide +kernel), List.mem_of_getElem? (i := 1552) (by decide +kernel)⟩
theorem lw_p85 : lw_okq (⟨"RopeClockModel", "goesBy", "()I"⟩, 62) := ⟨⟨by decide +kernel, by decide +kernel⟩, List.mem_of_getElem? (i := 1109) (by decide +kernel), List.mem_of_getElem? (i := 1559) (by decide +kernel), List.mem_of_getElem? (i := 1560) (by decide +kernel)⟩
theorem lw_p86 : lw_okq (⟨"RopeClockModel", "does", "(I)V"⟩, 62) := ⟨⟨by decide +kernel, by decide +kernel⟩, List.mem_of_getElem? (i := 1109) (by decide +kernel), List.mem_of_getElem? (i := 1563) (by decide +kernel), List.mem_of_getElem? (i := 1564) (by decide +kernel)⟩
theorem lw_p87 : lw_okq (⟨"RopeClockModel", "isPushed", "(I)V"⟩, 62) := ⟨⟨by decide +kernel, by decide +kernel⟩, List.mem_of_getElem? (i := 1109) (by decide +kernel), List.mem_of_getElem? (i := 1567) (by decide +kernel), List.mem_of_getElem? (i := 1568) (by decide +kernel)⟩
theorem lw_p88 : lw_okq (⟨"RopeClockModel", "goesOut", "(I)V"⟩, 62) := ⟨⟨by decide +kernel, by decide +kernel⟩, List.mem_of_getElem? (i := 1109) (by decide +kernel), List.mem_of_getElem? (i := 1571) (by decide +kernel), List.mem_of_getElem? (i := 1572) (by decide +kernel)⟩
theorem lw_p89 : lw_okq (⟨"RopeClockModel", "leavesOf", "(I)I"⟩, 62) := ⟨⟨by decide +kernel, by decide +kernel⟩, List.mem_of_getElem? (i := 1109) (by decide +kernel), List.mem_of_getElem? (i := 1575) (by decide +kernel), List.mem_of_getElem? (i := 1576) (by decide +kernel)⟩
theorem lw_p90 : lw_okq (⟨"RopeClockModel", "happens", "(I)Z"⟩, 62) := ⟨⟨by decide +kernel, by decide +kernel⟩, List.mem_of_getElem? (i := 1109) (by decide +kernel), List.mem_of_getElem? (i := 1579) (by decide +kernel), List.mem_of_getElem? (i := 1580) (by decide +kernel)⟩
theorem lw_p91 : lw_okq (⟨"RopeClockModel", "draw", "(I)I"⟩, 62) := ⟨⟨by decide +kernel, by decide +kernel⟩, List.mem_of_getElem? (i := 1109) (by decide +kernel), List.mem_of_getElem? (i := 1583) (by decide +kernel), List.mem_of_getElem? (i := 1584) (by decide +kernel)⟩
theorem lw_p92 : lw_okq (⟨"RopeClockModel", "bringsBack", "(I)V"⟩, 62) := ⟨⟨by decide +kernel, by decide +kernel⟩, List.mem_of_getElem? (i := 1109) (by decide +kernel), List.mem_of_getElem? (i := 1589) (by decide +kernel), List.mem_of_getElem? (i := 1590) (by decide +kernel)⟩
theorem lw_p93 : lw_okq (⟨"RopeClockModel", "returnsOf", "(I)I"⟩, 62) := ⟨⟨by decide +kernel, by decide +kernel⟩, List.mem_of_getElem? (i := 1109) (by decide +kernel), List.mem_of_getElem? (i := 1593) (by decide +kernel), List.mem_of_getElem? (i := 1594) (by decide +kernel)⟩
theorem lw_p94 : lw_okq (⟨"RopeClockModel", "clockRuns", "()I"⟩, 62) := ⟨⟨by decide +kernel, by decide +kernel⟩, List.mem_of_getElem? (i := 1109) (by decide +kernel), List.mem_of_getElem? (i := 1597) (by decide +kernel), List.mem_of_getElem? (i := 1598) (by decide +kernel)⟩
theorem lw_p95 : lw_okq (⟨"RopeClockModel", "plain", "(I)I"⟩, 62) := ⟨⟨by decide +kernel, by decide +kernel⟩, List.mem_of_getElem? (i := 1109) (by decide +kernel), List.mem_of_getElem? (i := 1601) (by decide +kernel), List.mem_of_getElem? (i := 1602) (by decide +kernel)⟩
def lw_privs_6 : List (MethodName × Nat) := [(⟨"RopeClockModel", "lineOf", "(I)I"⟩, 62), (⟨"RopeClockModel", "runs", "(III)I"⟩, 62), (⟨"RopeClockModel", "twoOf", "(III)I"⟩, 62), (⟨"RopeClockModel", "notes", "(III)V"⟩, 62), (⟨"RopeClockModel", "comesBack", "(I)V"⟩, 62), (⟨"RopeClockModel", "goesBy", "()I"⟩, 62), (⟨"RopeClockModel", "does", "(I)V"⟩, 62), (⟨"RopeClockModel", "isPushed", "(I)V"⟩, 62), (⟨"RopeClockModel", "goesOut", "(I)V"⟩, 62), (⟨"RopeClockModel", "leavesOf", "(I)I"⟩, 62), (⟨"RopeClockModel", "happens", "(I)Z"⟩, 62), (⟨"RopeClockModel", "draw", "(I)I"⟩, 62), (⟨"RopeClockModel", "bringsBack", "(I)V"⟩, 62), (⟨"RopeClockModel", "returnsOf", "(I)I"⟩, 62), (⟨"RopeClockModel", "clockRuns", "()I"⟩, 62), (⟨"RopeClockModel", "plain", "(I)I"⟩, 62)]
theorem lw_r6 : ∀ q ∈ lw_privs_6, lw_okq q := List.forall_mem_cons.mpr ⟨lw_p80, List.forall_mem_cons.mpr ⟨lw_p81, List.forall_mem_cons.mpr ⟨lw_p82, List.forall_mem_cons.mpr ⟨lw_p83, List.forall_mem_cons.mpr ⟨lw_p84, List.forall_mem_cons.mpr ⟨lw_p85, List.forall_mem_cons.mpr ⟨lw_p86, List.forall_mem_cons.mpr ⟨lw_p87, List.forall_mem_cons.mpr ⟨lw_p88, List.forall_mem_cons.mpr ⟨lw_p89, List.forall_mem_cons.mpr ⟨lw_p90, List.forall_mem_cons.mpr ⟨lw_p91, List.forall_mem_cons.mpr ⟨lw_p92, List.forall_mem_cons.mpr ⟨lw_p93, List.forall_mem_cons.mpr ⟨lw_p94, List.forall_mem_cons.mpr ⟨lw_p95, fun _ h => absurd h List.not_mem_nil⟩⟩⟩⟩⟩⟩⟩⟩⟩⟩⟩⟩⟩⟩⟩⟩
theorem lw_p96 : lw_okq (⟨"RopeClockModel", "lesse\x72", "(II)I"⟩, 62) := ⟨⟨by decide +kernel, by decide +kernel⟩, List.mem_of_getElem? (i := 1109) (by decide +kernel), List.mem_of_getElem? (i := 1605) (by decide +kernel), List.mem_of_getElem? (i := 1606) (by decide +kernel)⟩
theorem lw_p97 : lw_okq (⟨"RopeClockModel", "strokesAt", "(I)I"⟩, 62) := ⟨⟨by decide +kernel, by decide +kernel⟩, List.mem_of_getElem? (i := 1109) (by decide +kernel), List.mem_of_getElem? (i := 1609) (by decide +kernel), List.mem_of_getElem? (i := 1610) (by decide +kernel)⟩
theorem lw_p98 : lw_okq (⟨"RopeClockModel", "thinks", "()V"⟩, 62) := ⟨⟨by decide +kernel, by decide +kernel⟩, List.mem_of_getElem? (i := 1109) (by decide +kernel), List.mem_of_getElem? (i := 1625) (by decide +kernel), List.mem_of_getElem? (i := 1626) (by decide +kernel)⟩
theorem lw_p99 : lw_okq (⟨"RopeClockModel", "endsThought", "()V"⟩, 62) := ⟨⟨by decide +kernel, by decide +kernel⟩, List.mem_of_getElem? (i := 1109) (by decide +kernel), List.mem_of_getElem? (i := 1629) (by decide +kernel), List.mem_of_getElem? (i := 1630) (by decide +kernel)⟩
theorem lw_p100 : lw_okq (⟨"RopeClockModel", "handsAt", "(I)I"⟩, 62) := ⟨⟨by decide +kernel, by decide +kernel⟩, List.mem_of_getElem? (i := 1109) (by decide +kernel), List.mem_of_getElem? (i := 1649) (by decide +kernel), List.mem_of_getElem? (i := 1650) (by decide +kernel)⟩
theorem lw_p101 : lw_okq (⟨"RopeClockModel", "common", "(II)I"⟩, 62) := ⟨⟨by decide +kernel, by decide +kernel⟩, List.mem_of_getElem? (i := 1109) (by decide +kernel), List.mem_of_getElem? (i := 1662) (by decide +kernel), List.mem_of_getElem? (i := 1663) (by decide +kernel)⟩
theorem lw_p102 : lw_okq (⟨"RopeClockModel", "isPeace", "(I)Z"⟩, 62) := ⟨⟨by decide +kernel, by decide +kernel⟩, List.mem_of_getElem? (i := 1109) (by decide +kernel), List.mem_of_getElem? (i := 1675) (by decide +kernel), List.mem_of_getElem? (i := 1676) (by decide +kernel)⟩
theorem lw_p103 : lw_okq (⟨"RopeClockModel", "glassAt", "(III)I"⟩, 62) := ⟨⟨by decide +kernel, by decide +kernel⟩, List.mem_of_getElem? (i := 1109) (by decide +kernel), List.mem_of_getElem? (i := 1683) (by decide +kernel), List.mem_of_getElem? (i := 1684) (by decide +kernel)⟩
theorem lw_p104 : lw_okq (⟨"RopeClockModel", "greate\x72", "(II)I"⟩, 62) := ⟨⟨by decide +kernel, by decide +kernel⟩, List.mem_of_getElem? (i := 1109) (by decide +kernel), List.mem_of_getElem? (i := 1687) (by decide +kernel), List.mem_of_getElem? (i := 1688) (by decide +kernel)⟩
theorem lw_p105 : lw_okq (⟨"RopeClockModel", "turns", "(IIII)V"⟩, 62) := ⟨⟨by decide +kernel, by decide +kernel⟩, List.mem_of_getElem? (i := 1109) (by decide +kernel), List.mem_of_getElem? (i := 1691) (by decide +kernel), List.mem_of_getElem? (i := 1692) (by decide +kernel)⟩
theorem lw_p106 : lw_okq (⟨"RopeClockModel", "isLevel", "(I)Z"⟩, 62) := ⟨⟨by decide +kernel, by decide +kernel⟩, List.mem_of_getElem? (i := 1109) (by decide +kernel), List.mem_of_getElem? (i := 1703) (by decide +kernel), List.mem_of_getElem? (i := 1704) (by decide +kernel)⟩
theorem lw_p107 : lw_okq (⟨"RopeClockModel", "findsQuotients", "(II)I"⟩, 62) := ⟨⟨by decide +kernel, by decide +kernel⟩, List.mem_of_getElem? (i := 1109) (by decide +kernel), List.mem_of_getElem? (i := 1711) (by decide +kernel), List.mem_of_getElem? (i := 1712) (by decide +kernel)⟩
theorem lw_p108 : lw_okq (⟨"RopeClockModel", "againAt", "(I)I"⟩, 62) := ⟨⟨by decide +kernel, by decide +kernel⟩, List.mem_of_getElem? (i := 1109) (by decide +kernel), List.mem_of_getElem? (i := 1719) (by decide +kernel), List.mem_of_getElem? (i := 1720) (by decide +kernel)⟩
theorem lw_p109 : lw_okq (⟨"RopeClockModel", "changes", "(II)V"⟩, 62) := ⟨⟨by decide +kernel, by decide +kernel⟩, List.mem_of_getElem? (i := 1109) (by decide +kernel), List.mem_of_getElem? (i := 1723) (by decide +kernel), List.mem_of_getElem? (i := 1724) (by decide +kernel)⟩
theorem lw_p110 : lw_okq (⟨"RopeClockModel", "areInOrde\x72", "(I)Z"⟩, 62) := ⟨⟨by decide +kernel, by decide +kernel⟩, List.mem_of_getElem? (i := 1109) (by decide +kernel), List.mem_of_getElem? (i := 1727) (by decide +kernel), List.mem_of_getElem? (i := 1728) (by decide +kernel)⟩
theorem lw_p111 : lw_okq (⟨"RopeClockModel", "goesToNextOrde\x72", "()Z"⟩, 62) := ⟨⟨by decide +kernel, by decide +kernel⟩, List.mem_of_getElem? (i := 1109) (by decide +kernel), List.mem_of_getElem? (i := 1757) (by decide +kernel), List.mem_of_getElem? (i := 1758) (by decide +kernel)⟩
def lw_privs_7 : List (MethodName × Nat) := [(⟨"RopeClockModel", "lesse\x72", "(II)I"⟩, 62), (⟨"RopeClockModel", "strokesAt", "(I)I"⟩, 62), (⟨"RopeClockModel", "thinks", "()V"⟩, 62), (⟨"RopeClockModel", "endsThought", "()V"⟩, 62), (⟨"RopeClockModel", "handsAt", "(I)I"⟩, 62), (⟨"RopeClockModel", "common", "(II)I"⟩, 62), (⟨"RopeClockModel", "isPeace", "(I)Z"⟩, 62), (⟨"RopeClockModel", "glassAt", "(III)I"⟩, 62), (⟨"RopeClockModel", "greate\x72", "(II)I"⟩, 62), (⟨"RopeClockModel", "turns", "(IIII)V"⟩, 62), (⟨"RopeClockModel", "isLevel", "(I)Z"⟩, 62), (⟨"RopeClockModel", "findsQuotients", "(II)I"⟩, 62), (⟨"RopeClockModel", "againAt", "(I)I"⟩, 62), (⟨"RopeClockModel", "changes", "(II)V"⟩, 62), (⟨"RopeClockModel", "areInOrde\x72", "(I)Z"⟩, 62), (⟨"RopeClockModel", "goesToNextOrde\x72", "()Z"⟩, 62)]
theorem lw_r7 : ∀ q ∈ lw_privs_7, lw_okq q := List.forall_mem_cons.mpr ⟨lw_p96, List.forall_mem_cons.mpr ⟨lw_p97, List.forall_mem_cons.mpr ⟨lw_p98, List.forall_mem_cons.mpr ⟨lw_p99, List.forall_mem_cons.mpr ⟨lw_p100, List.forall_mem_cons.mpr ⟨lw_p101, List.forall_mem_cons.mpr ⟨lw_p102, List.forall_mem_cons.mpr ⟨lw_p103, List.forall_mem_cons.mpr ⟨lw_p104, List.forall_mem_cons.mpr ⟨lw_p105, List.forall_mem_cons.mpr ⟨lw_p106, List.forall_mem_cons.mpr ⟨lw_p107, List.forall_mem_cons.mpr ⟨lw_p108, List.forall_mem_cons.mpr ⟨lw_p109, List.forall_mem_cons.mpr ⟨lw_p110, List.forall_mem_cons.mpr ⟨lw_p111, fun _ h => absurd h List.not_mem_nil⟩⟩⟩⟩⟩⟩⟩⟩⟩⟩⟩⟩⟩⟩⟩⟩
theorem lw_p112 : lw_okq (⟨"RopeClockModel", "endOf", "(III)I"⟩, 62) := ⟨⟨by decide +kernel, by decide +kernel⟩, List.mem_of_getElem? (i := 1109) (by decide +kernel), List.mem_of_getElem? (i := 1765) (by decide +kernel), List.mem_of_getElem? (i := 1766) (by decide +kernel)⟩
theorem lw_p113 : lw_okq (⟨"RopeClockModel", "leadsTo", "(III)I"⟩, 62) := ⟨⟨by decide +kernel, by decide +kernel⟩, List.mem_of_getElem? (i := 1109) (by decide +kernel), List.mem_of_getElem? (i := 1769) (by decide +kernel), List.mem_of_getElem? (i := 1770) (by decide +kernel)⟩
theorem lw_p114 : lw_okq (⟨"RopeClockModel", "keepsSo", "(IIII)Z"⟩, 62) := ⟨⟨by decide +kernel, by decide +kernel⟩, List.mem_of_getElem? (i := 1109) (by decide +kernel), List.mem_of_getElem? (i := 1773) (by decide +kernel), List.mem_of_getElem? (i := 1774) (by decide +kernel)⟩
theorem lw_p115 : lw_okq (⟨"RopeClockModel", "keeps", "(I)I"⟩, 62) := ⟨⟨by decide +kernel, by decide +kernel⟩, List.mem_of_getElem? (i := 1109) (by decide +kernel), List.mem_of_getElem? (i := 1781) (by decide +kernel), List.mem_of_getElem? (i := 1782) (by decide +kernel)⟩
theorem lw_p116 : lw_okq (⟨"RopeClockModel", "keepsTold", "()V"⟩, 62) := ⟨⟨by decide +kernel, by decide +kernel⟩, List.mem_of_getElem? (i := 1109) (by decide +kernel), List.mem_of_getElem? (i := 1785) (by decide +kernel), List.mem_of_getElem? (i := 1786) (by decide +kernel)⟩
theorem lw_p117 : lw_okq (⟨"RopeClockModel", "keepsLaw", "()V"⟩, 62) := ⟨⟨by decide +kernel, by decide +kernel⟩, List.mem_of_getElem? (i := 1109) (by decide +kernel), List.mem_of_getElem? (i := 1789) (by decide +kernel), List.mem_of_getElem? (i := 1790) (by decide +kernel)⟩
def lw_privs_8 : List (MethodName × Nat) := [(⟨"RopeClockModel", "endOf", "(III)I"⟩, 62), (⟨"RopeClockModel", "leadsTo", "(III)I"⟩, 62), (⟨"RopeClockModel", "keepsSo", "(IIII)Z"⟩, 62), (⟨"RopeClockModel", "keeps", "(I)I"⟩, 62), (⟨"RopeClockModel", "keepsTold", "()V"⟩, 62), (⟨"RopeClockModel", "keepsLaw", "()V"⟩, 62)]
theorem lw_r8 : ∀ q ∈ lw_privs_8, lw_okq q := List.forall_mem_cons.mpr ⟨lw_p112, List.forall_mem_cons.mpr ⟨lw_p113, List.forall_mem_cons.mpr ⟨lw_p114, List.forall_mem_cons.mpr ⟨lw_p115, List.forall_mem_cons.mpr ⟨lw_p116, List.forall_mem_cons.mpr ⟨lw_p117, fun _ h => absurd h List.not_mem_nil⟩⟩⟩⟩⟩⟩
def lw_privs : List (MethodName × Nat) := lw_privs_1 ++ (lw_privs_2 ++ (lw_privs_3 ++ (lw_privs_4 ++ (lw_privs_5 ++ (lw_privs_6 ++ (lw_privs_7 ++ (lw_privs_8)))))))
def lw_tbl : List Cond := k2_sels lw_privs ++ tables_1
theorem lw_privs_ok : ∀ q ∈ lw_privs, lw_okq q := by
  show ∀ q ∈ lw_privs_1 ++ (lw_privs_2 ++ (lw_privs_3 ++ (lw_privs_4 ++ (lw_privs_5 ++ (lw_privs_6 ++ (lw_privs_7 ++ (lw_privs_8))))))), lw_okq q
  exact List.forall_mem_append.mpr ⟨lw_r1, List.forall_mem_append.mpr ⟨lw_r2, List.forall_mem_append.mpr ⟨lw_r3, List.forall_mem_append.mpr ⟨lw_r4, List.forall_mem_append.mpr ⟨lw_r5, List.forall_mem_append.mpr ⟨lw_r6, List.forall_mem_append.mpr ⟨lw_r7, lw_r8⟩⟩⟩⟩⟩⟩⟩

def RX0 : String := "RopeClock$Book"
def TX0 : u_T := fun k => match k with
  | 0 => ("RopeClock$Book", "day", "[I", true)
  | 1 => ("RopeClock$Book", "kind", "[I", true)
  | 2 => ("RopeClock$Book", "who", "[I", true)
  | 3 => ("RopeClock$Book", "much", "[I", true)
  | _ => ("RopeClock$Book", "lines", "I", false)
def tyX0 : Nat → FieldType := fun k => match k with
  | 0 => .array .int
  | 1 => .array .int
  | 2 => .array .int
  | 3 => .array .int
  | _ => .int
theorem nmX0 : ∀ a, a < 5 → ∀ b, b < 5 → a ≠ b → (TX0 a).2.1 ≠ (TX0 b).2.1 := by decide +kernel
theorem tyX0_ok : ∀ k, k < 5 → parseFieldDescriptor (TX0 k).2.2.1 = some (tyX0 k) := by decide +kernel
abbrev cX0_init : ByteArray := prog_2_method_1_code
def yX0_init : MethodName := ⟨RX0, "<init>", "()V"⟩
abbrev cX0_copyFrom : ByteArray := prog_2_method_2_code
def yX0_copyFrom : MethodName := ⟨RX0, "copyFrom", "(LRopeClock$Book;)V"⟩
abbrev cX0_write : ByteArray := prog_2_method_3_code
def yX0_write : MethodName := ⟨RX0, "write", "(IIII)V"⟩
def RX1 : String := "RopeClock$Island"
def TX1 : u_T := fun k => match k with
  | 0 => ("RopeClock$Island", "weight", "[I", true)
  | 1 => ("RopeClock$Island", "longs", "[I", true)
  | 2 => ("RopeClock$Island", "left", "[I", true)
  | 3 => ("RopeClock$Island", "people", "I", false)
  | 4 => ("RopeClock$Island", "here", "I", false)
  | 5 => ("RopeClock$Island", "stays", "I", false)
  | 6 => ("RopeClock$Island", "time", "I", false)
  | 7 => ("RopeClock$Island", "wound", "I", false)
  | 8 => ("RopeClock$Island", "struck", "I", false)
  | 9 => ("RopeClock$Island", "turns", "I", false)
  | 10 => ("RopeClock$Island", "school", "I", false)
  | 11 => ("RopeClock$Island", "due", "I", false)
  | 12 => ("RopeClock$Island", "day", "I", false)
  | _ => ("RopeClock$Island", "draws", "I", false)
def tyX1 : Nat → FieldType := fun k => match k with
  | 0 => .array .int
  | 1 => .array .int
  | 2 => .array .int
  | 3 => .int
  | 4 => .int
  | 5 => .int
  | 6 => .int
  | 7 => .int
  | 8 => .int
  | 9 => .int
  | 10 => .int
  | 11 => .int
  | 12 => .int
  | _ => .int
theorem nmX1 : ∀ a, a < 14 → ∀ b, b < 14 → a ≠ b → (TX1 a).2.1 ≠ (TX1 b).2.1 := by decide +kernel
theorem tyX1_ok : ∀ k, k < 14 → parseFieldDescriptor (TX1 k).2.2.1 = some (tyX1 k) := by decide +kernel
abbrev cX1_init : ByteArray := prog_3_method_1_code
def yX1_init : MethodName := ⟨RX1, "<init>", "()V"⟩
abbrev cX1_copyFrom : ByteArray := prog_3_method_2_code
def yX1_copyFrom : MethodName := ⟨RX1, "copyFrom", "(LRopeClock$Island;)V"⟩
abbrev cX1_comes : ByteArray := prog_3_method_3_code
def yX1_comes : MethodName := ⟨RX1, "comes", "(II)I"⟩
abbrev cX1_knows : ByteArray := prog_3_method_4_code
def yX1_knows : MethodName := ⟨RX1, "knows", "(I)Z"⟩
abbrev cX1_isHere : ByteArray := prog_3_method_5_code
def yX1_isHere : MethodName := ⟨RX1, "isHere", "(I)Z"⟩
abbrev cX1_isBegged : ByteArray := prog_3_method_6_code
def yX1_isBegged : MethodName := ⟨RX1, "isBegged", "(I)Z"⟩
abbrev cX1_drawOfThousand : ByteArray := prog_3_method_7_code
def yX1_drawOfThousand : MethodName := ⟨RX1, "drawOfThousand", "()I"⟩
abbrev cX1_moveHands : ByteArray := prog_3_method_8_code
def yX1_moveHands : MethodName := ⟨RX1, "moveHands", "(I)V"⟩
def RX2 : String := "RopeClock$Kinship"
def TX2 : u_T := fun k => match k with
  | 0 => ("RopeClock$Kinship", "sets", "[I", true)
  | _ => ("RopeClock$Kinship", "lines", "I", false)
def tyX2 : Nat → FieldType := fun k => match k with
  | 0 => .array .int
  | _ => .int
theorem nmX2 : ∀ a, a < 2 → ∀ b, b < 2 → a ≠ b → (TX2 a).2.1 ≠ (TX2 b).2.1 := by decide +kernel
theorem tyX2_ok : ∀ k, k < 2 → parseFieldDescriptor (TX2 k).2.2.1 = some (tyX2 k) := by decide +kernel
abbrev cX2_init : ByteArray := prog_4_method_1_code
def yX2_init : MethodName := ⟨RX2, "<init>", "()V"⟩
abbrev cX2_copyFrom : ByteArray := prog_4_method_2_code
def yX2_copyFrom : MethodName := ⟨RX2, "copyFrom", "(LRopeClock$Kinship;)V"⟩
abbrev cX2_clear : ByteArray := prog_4_method_3_code
def yX2_clear : MethodName := ⟨RX2, "clea\x72", "()V"⟩
abbrev cX2_join : ByteArray := prog_4_method_4_code
def yX2_join : MethodName := ⟨RX2, "join", "(II)V"⟩
abbrev cX2_areKin : ByteArray := prog_4_method_5_code
def yX2_areKin : MethodName := ⟨RX2, "areKin", "(II)Z"⟩
def RX3 : String := "RopeClock$Law"
def TX3 : u_T := fun k => match k with
  | 0 => ("RopeClock$Law", "word", "[I", true)
  | 1 => ("RopeClock$Law", "start", "[I", true)
  | 2 => ("RopeClock$Law", "when", "[I", true)
  | 3 => ("RopeClock$Law", "stop", "[I", true)
  | 4 => ("RopeClock$Law", "code", "[I", true)
  | 5 => ("RopeClock$Law", "stack", "[I", true)
  | 6 => ("RopeClock$Law", "lines", "I", false)
  | _ => ("RopeClock$Law", "length", "I", false)
def tyX3 : Nat → FieldType := fun k => match k with
  | 0 => .array .int
  | 1 => .array .int
  | 2 => .array .int
  | 3 => .array .int
  | 4 => .array .int
  | 5 => .array .int
  | 6 => .int
  | _ => .int
theorem nmX3 : ∀ a, a < 8 → ∀ b, b < 8 → a ≠ b → (TX3 a).2.1 ≠ (TX3 b).2.1 := by decide +kernel
theorem tyX3_ok : ∀ k, k < 8 → parseFieldDescriptor (TX3 k).2.2.1 = some (tyX3 k) := by decide +kernel
abbrev cX3_init : ByteArray := prog_5_method_1_code
def yX3_init : MethodName := ⟨RX3, "<init>", "()V"⟩
abbrev cX3_copyFrom : ByteArray := prog_5_method_2_code
def yX3_copyFrom : MethodName := ⟨RX3, "copyFrom", "(LRopeClock$Law;)V"⟩
abbrev cX3_put : ByteArray := prog_5_method_3_code
def yX3_put : MethodName := ⟨RX3, "put", "(I)V"⟩
abbrev cX3_run : ByteArray := prog_5_method_4_code
def yX3_run : MethodName := ⟨RX3, "run", "(IILRopeClock$World;I)I"⟩
abbrev cX3_joined : ByteArray := prog_5_method_5_code
def yX3_joined : MethodName := ⟨RX3, "joined", "(III)I"⟩
def RX4 : String := "RopeClock$Plan"
def TX4 : u_T := fun k => match k with
  | 0 => ("RopeClock$Plan", "day", "[I", true)
  | 1 => ("RopeClock$Plan", "what", "[I", true)
  | 2 => ("RopeClock$Plan", "numbe\x72", "[I", true)
  | _ => ("RopeClock$Plan", "lines", "I", false)
def tyX4 : Nat → FieldType := fun k => match k with
  | 0 => .array .int
  | 1 => .array .int
  | 2 => .array .int
  | _ => .int
theorem nmX4 : ∀ a, a < 4 → ∀ b, b < 4 → a ≠ b → (TX4 a).2.1 ≠ (TX4 b).2.1 := by decide +kernel
theorem tyX4_ok : ∀ k, k < 4 → parseFieldDescriptor (TX4 k).2.2.1 = some (tyX4 k) := by decide +kernel
abbrev cX4_init : ByteArray := prog_6_method_1_code
def yX4_init : MethodName := ⟨RX4, "<init>", "()V"⟩
abbrev cX4_copyFrom : ByteArray := prog_6_method_2_code
def yX4_copyFrom : MethodName := ⟨RX4, "copyFrom", "(LRopeClock$Plan;)V"⟩
def RX5 : String := "RopeClock$Puzzles"
def TX5 : u_T := fun k => match k with
  | 0 => ("RopeClock$Puzzles", "teeth", "[I", true)
  | 1 => ("RopeClock$Puzzles", "onAxle", "[Z", true)
  | 2 => ("RopeClock$Puzzles", "wheels", "I", false)
  | 3 => ("RopeClock$Puzzles", "pai\x72", "[I", true)
  | 4 => ("RopeClock$Puzzles", "couples", "I", false)
  | 5 => ("RopeClock$Puzzles", "sitte\x72", "[I", true)
  | 6 => ("RopeClock$Puzzles", "sitters", "I", false)
  | 7 => ("RopeClock$Puzzles", "fa\x72", "[I", true)
  | 8 => ("RopeClock$Puzzles", "load", "[I", true)
  | _ => ("RopeClock$Puzzles", "arms", "I", false)
def tyX5 : Nat → FieldType := fun k => match k with
  | 0 => .array .int
  | 1 => .array .boolean
  | 2 => .int
  | 3 => .array .int
  | 4 => .int
  | 5 => .array .int
  | 6 => .int
  | 7 => .array .int
  | 8 => .array .int
  | _ => .int
theorem nmX5 : ∀ a, a < 10 → ∀ b, b < 10 → a ≠ b → (TX5 a).2.1 ≠ (TX5 b).2.1 := by decide +kernel
theorem tyX5_ok : ∀ k, k < 10 → parseFieldDescriptor (TX5 k).2.2.1 = some (tyX5 k) := by decide +kernel
abbrev cX5_init : ByteArray := prog_7_method_1_code
def yX5_init : MethodName := ⟨RX5, "<init>", "()V"⟩
abbrev cX5_copyFrom : ByteArray := prog_7_method_2_code
def yX5_copyFrom : MethodName := ⟨RX5, "copyFrom", "(LRopeClock$Puzzles;)V"⟩
abbrev cX5_tellWheel : ByteArray := prog_7_method_3_code
def yX5_tellWheel : MethodName := ⟨RX5, "tellWheel", "(IZ)I"⟩
abbrev cX5_tellCouple : ByteArray := prog_7_method_4_code
def yX5_tellCouple : MethodName := ⟨RX5, "tellCouple", "(II)I"⟩
abbrev cX5_tellSeat : ByteArray := prog_7_method_5_code
def yX5_tellSeat : MethodName := ⟨RX5, "tellSeat", "(I)I"⟩
abbrev cX5_tellArm : ByteArray := prog_7_method_6_code
def yX5_tellArm : MethodName := ⟨RX5, "tellArm", "(II)I"⟩
abbrev cX5_isSafe : ByteArray := prog_7_method_7_code
def yX5_isSafe : MethodName := ⟨RX5, "isSafe", "(I)Z"⟩
abbrev cX5_turnOf : ByteArray := prog_7_method_8_code
def yX5_turnOf : MethodName := ⟨RX5, "turnOf", "(I)I"⟩
def RX6 : String := "RopeClock$Tape"
def TX6 : u_T := fun k => match k with
  | 0 => ("RopeClock$Tape", "bytes", "[I", true)
  | 1 => ("RopeClock$Tape", "tokens", "[I", true)
  | 2 => ("RopeClock$Tape", "places", "[I", true)
  | 3 => ("RopeClock$Tape", "length", "I", false)
  | 4 => ("RopeClock$Tape", "count", "I", false)
  | 5 => ("RopeClock$Tape", "at", "I", false)
  | 6 => ("RopeClock$Tape", "token", "I", false)
  | 7 => ("RopeClock$Tape", "fault", "I", false)
  | 8 => ("RopeClock$Tape", "place", "I", false)
  | _ => ("RopeClock$Tape", "value", "I", false)
def tyX6 : Nat → FieldType := fun k => match k with
  | 0 => .array .int
  | 1 => .array .int
  | 2 => .array .int
  | 3 => .int
  | 4 => .int
  | 5 => .int
  | 6 => .int
  | 7 => .int
  | 8 => .int
  | _ => .int
theorem nmX6 : ∀ a, a < 10 → ∀ b, b < 10 → a ≠ b → (TX6 a).2.1 ≠ (TX6 b).2.1 := by decide +kernel
theorem tyX6_ok : ∀ k, k < 10 → parseFieldDescriptor (TX6 k).2.2.1 = some (tyX6 k) := by decide +kernel
abbrev cX6_init : ByteArray := prog_8_method_1_code
def yX6_init : MethodName := ⟨RX6, "<init>", "()V"⟩
abbrev cX6_putFour : ByteArray := prog_8_method_2_code
def yX6_putFour : MethodName := ⟨RX6, "putFou\x72", "(I)V"⟩
abbrev cX6_rewind : ByteArray := prog_8_method_3_code
def yX6_rewind : MethodName := ⟨RX6, "rewind", "()V"⟩
abbrev cX6_cut : ByteArray := prog_8_method_4_code
def yX6_cut : MethodName := ⟨RX6, "cut", "(Ljava/lang/String;)V"⟩
abbrev cX6_putToken : ByteArray := prog_8_method_5_code
def yX6_putToken : MethodName := ⟨RX6, "putToken", "(II)V"⟩
abbrev cX6_isLetter : ByteArray := prog_8_method_6_code
def yX6_isLetter : MethodName := ⟨RX6, "isLette\x72", "(I)Z"⟩
abbrev cX6_isDigit : ByteArray := prog_8_method_7_code
def yX6_isDigit : MethodName := ⟨RX6, "isDigit", "(I)Z"⟩
abbrev cX6_numberAt : ByteArray := prog_8_method_8_code
def yX6_numberAt : MethodName := ⟨RX6, "numberAt", "(II)I"⟩
abbrev cX6_wordAt : ByteArray := prog_8_method_9_code
def yX6_wordAt : MethodName := ⟨RX6, "wordAt", "(Ljava/lang/String;II)I"⟩
abbrev cX6_isSame : ByteArray := prog_8_method_10_code
def yX6_isSame : MethodName := ⟨RX6, "isSame", "(Ljava/lang/String;III)Z"⟩
abbrev cX6_pass : ByteArray := prog_8_method_11_code
def yX6_pass : MethodName := ⟨RX6, "pass", "()V"⟩
abbrev cX6_isNumber : ByteArray := prog_8_method_12_code
def yX6_isNumber : MethodName := ⟨RX6, "isNumbe\x72", "()Z"⟩
abbrev cX6_isWord : ByteArray := prog_8_method_13_code
def yX6_isWord : MethodName := ⟨RX6, "isWord", "(II)Z"⟩
abbrev cX6_refuse : ByteArray := prog_8_method_14_code
def yX6_refuse : MethodName := ⟨RX6, "refuse", "(I)Z"⟩
abbrev cX6_takes : ByteArray := prog_8_method_15_code
def yX6_takes : MethodName := ⟨RX6, "takes", "(I)Z"⟩
abbrev cX6_takesNumber : ByteArray := prog_8_method_16_code
def yX6_takesNumber : MethodName := ⟨RX6, "takesNumbe\x72", "(II)Z"⟩
abbrev cX6_opensLine : ByteArray := prog_8_method_17_code
def yX6_opensLine : MethodName := ⟨RX6, "opensLine", "(III)Z"⟩
def RX7 : String := "RopeClock$TextReade\x72"
def TX7 : u_T := fun k => match k with
  | _ => ("RopeClock$TextReade\x72", "tape", "LRopeClock$Tape;", true)
def tyX7 : Nat → FieldType := fun k => match k with
  | _ => .object "RopeClock$Tape"
theorem nmX7 : ∀ a, a < 1 → ∀ b, b < 1 → a ≠ b → (TX7 a).2.1 ≠ (TX7 b).2.1 := by decide +kernel
theorem tyX7_ok : ∀ k, k < 1 → parseFieldDescriptor (TX7 k).2.2.1 = some (tyX7 k) := by decide +kernel
abbrev cX7_init : ByteArray := prog_9_method_1_code
def yX7_init : MethodName := ⟨RX7, "<init>", "(LRopeClock$Tape;)V"⟩
abbrev cX7_readLaw : ByteArray := prog_9_method_2_code
def yX7_readLaw : MethodName := ⟨RX7, "readLaw", "(LRopeClock$Law;)Z"⟩
abbrev cX7_readLawLine : ByteArray := prog_9_method_3_code
def yX7_readLawLine : MethodName := ⟨RX7, "readLawLine", "(LRopeClock$Law;I)Z"⟩
abbrev cX7_readChoice : ByteArray := prog_9_method_4_code
def yX7_readChoice : MethodName := ⟨RX7, "readChoice", "(LRopeClock$Law;I)Z"⟩
abbrev cX7_readSingle : ByteArray := prog_9_method_5_code
def yX7_readSingle : MethodName := ⟨RX7, "readSingle", "(LRopeClock$Law;I)Z"⟩
abbrev cX7_readSum : ByteArray := prog_9_method_6_code
def yX7_readSum : MethodName := ⟨RX7, "readSum", "(LRopeClock$Law;)Z"⟩
abbrev cX7_readOperand : ByteArray := prog_9_method_7_code
def yX7_readOperand : MethodName := ⟨RX7, "readOperand", "(LRopeClock$Law;Z)Z"⟩
abbrev cX7_readBoats : ByteArray := prog_9_method_8_code
def yX7_readBoats : MethodName := ⟨RX7, "readBoats", "(LRopeClock$Plan;)Z"⟩
abbrev cX7_readBoat : ByteArray := prog_9_method_9_code
def yX7_readBoat : MethodName := ⟨RX7, "readBoat", "(LRopeClock$Plan;I)Z"⟩
abbrev cX7_readDay : ByteArray := prog_9_method_10_code
def yX7_readDay : MethodName := ⟨RX7, "readDay", "(LRopeClock$Plan;I)Z"⟩
abbrev cX7_readTown : ByteArray := prog_9_method_11_code
def yX7_readTown : MethodName := ⟨RX7, "readTown", "(LRopeClock$Plan;I)Z"⟩
abbrev cX7_readDoing : ByteArray := prog_9_method_12_code
def yX7_readDoing : MethodName := ⟨RX7, "readDoing", "(LRopeClock$Plan;II)Z"⟩
abbrev cX7_readAmount : ByteArray := prog_9_method_13_code
def yX7_readAmount : MethodName := ⟨RX7, "readAmount", "(II)Z"⟩
abbrev cX7_readKin : ByteArray := prog_9_method_14_code
def yX7_readKin : MethodName := ⟨RX7, "readKin", "(LRopeClock$Kinship;I)Z"⟩
abbrev cX7_readKinLine : ByteArray := prog_9_method_15_code
def yX7_readKinLine : MethodName := ⟨RX7, "readKinLine", "(LRopeClock$Kinship;I)Z"⟩
def RX8 : String := "RopeClock$Thinke\x72"
def TX8 : u_T := fun k => match k with
  | 0 => ("RopeClock$Thinke\x72", "worth", "[I", true)
  | 1 => ("RopeClock$Thinke\x72", "bell", "[I", true)
  | 2 => ("RopeClock$Thinke\x72", "crossings", "[I", true)
  | 3 => ("RopeClock$Thinke\x72", "queue", "[I", true)
  | _ => ("RopeClock$Thinke\x72", "turnings", "[I", true)
def tyX8 : Nat → FieldType := fun k => match k with
  | 0 => .array .int
  | 1 => .array .int
  | 2 => .array .int
  | 3 => .array .int
  | _ => .array .int
theorem nmX8 : ∀ a, a < 5 → ∀ b, b < 5 → a ≠ b → (TX8 a).2.1 ≠ (TX8 b).2.1 := by decide +kernel
theorem tyX8_ok : ∀ k, k < 5 → parseFieldDescriptor (TX8 k).2.2.1 = some (tyX8 k) := by decide +kernel
abbrev cX8_init : ByteArray := prog_10_method_1_code
def yX8_init : MethodName := ⟨RX8, "<init>", "()V"⟩
abbrev cX8_strokesOver : ByteArray := prog_10_method_2_code
def yX8_strokesOver : MethodName := ⟨RX8, "strokesOve\x72", "(II)I"⟩
abbrev cX8_handsApart : ByteArray := prog_10_method_3_code
def yX8_handsApart : MethodName := ⟨RX8, "handsApart", "(I)I"⟩
abbrev cX8_minutesApartBy : ByteArray := prog_10_method_4_code
def yX8_minutesApartBy : MethodName := ⟨RX8, "minutesApartBy", "(I)I"⟩
abbrev cX8_commonPart : ByteArray := prog_10_method_5_code
def yX8_commonPart : MethodName := ⟨RX8, "commonPart", "(II)I"⟩
abbrev cX8_fewestCrossings : ByteArray := prog_10_method_6_code
def yX8_fewestCrossings : MethodName := ⟨RX8, "fewestCrossings", "(LRopeClock$Puzzles;II)I"⟩
abbrev cX8_fewestTurnings : ByteArray := prog_10_method_7_code
def yX8_fewestTurnings : MethodName := ⟨RX8, "fewestTurnings", "(III)I"⟩
abbrev cX8_turnInto : ByteArray := prog_10_method_8_code
def yX8_turnInto : MethodName := ⟨RX8, "turnInto", "(IIII)V"⟩
abbrev cX8_waysToSit : ByteArray := prog_10_method_9_code
def yX8_waysToSit : MethodName := ⟨RX8, "waysToSit", "(LRopeClock$Puzzles;III)I"⟩
abbrev cX8_leastLean : ByteArray := prog_10_method_10_code
def yX8_leastLean : MethodName := ⟨RX8, "leastLean", "(LRopeClock$Puzzles;IIII)I"⟩
abbrev cX8_quotients : ByteArray := prog_10_method_11_code
def yX8_quotients : MethodName := ⟨RX8, "quotients", "(II)I"⟩
abbrev cX8_partOf : ByteArray := prog_10_method_12_code
def yX8_partOf : MethodName := ⟨RX8, "partOf", "(IIII)I"⟩
abbrev cX8_ringInOrder : ByteArray := prog_10_method_13_code
def yX8_ringInOrder : MethodName := ⟨RX8, "ringInOrde\x72", "(I)V"⟩
abbrev cX8_change : ByteArray := prog_10_method_14_code
def yX8_change : MethodName := ⟨RX8, "change", "(II)V"⟩
abbrev cX8_isInOrder : ByteArray := prog_10_method_15_code
def yX8_isInOrder : MethodName := ⟨RX8, "isInOrde\x72", "(I)Z"⟩
abbrev cX8_changesTillInOrder : ByteArray := prog_10_method_16_code
def yX8_changesTillInOrder : MethodName := ⟨RX8, "changesTillInOrde\x72", "(I)I"⟩
abbrev cX8_bellAt : ByteArray := prog_10_method_17_code
def yX8_bellAt : MethodName := ⟨RX8, "bellAt", "(III)I"⟩
abbrev cX8_opponent : ByteArray := prog_10_method_18_code
def yX8_opponent : MethodName := ⟨RX8, "opponent", "(III)I"⟩
abbrev cX8_meetsLast : ByteArray := prog_10_method_19_code
def yX8_meetsLast : MethodName := ⟨RX8, "meetsLast", "(II)I"⟩
abbrev cX8_firstMeeting : ByteArray := prog_10_method_20_code
def yX8_firstMeeting : MethodName := ⟨RX8, "firstMeeting", "(IIII)I"⟩
abbrev cX8_judgeHours : ByteArray := prog_10_method_21_code
def yX8_judgeHours : MethodName := ⟨RX8, "judgeHours", "(II)V"⟩
abbrev cX8_bestFrom : ByteArray := prog_10_method_22_code
def yX8_bestFrom : MethodName := ⟨RX8, "bestFrom", "(III)I"⟩
abbrev cX8_worthOfStep : ByteArray := prog_10_method_23_code
def yX8_worthOfStep : MethodName := ⟨RX8, "worthOfStep", "(III)I"⟩
abbrev cX8_stepThatKeeps : ByteArray := prog_10_method_24_code
def yX8_stepThatKeeps : MethodName := ⟨RX8, "stepThatKeeps", "(III)I"⟩
def RX9 : String := "RopeClock$World"
def TX9 : u_T := fun k => match k with
  | 0 => ("RopeClock$World", "island", "LRopeClock$Island;", true)
  | 1 => ("RopeClock$World", "law", "LRopeClock$Law;", true)
  | 2 => ("RopeClock$World", "boats", "LRopeClock$Plan;", true)
  | 3 => ("RopeClock$World", "town", "LRopeClock$Plan;", true)
  | 4 => ("RopeClock$World", "kin", "LRopeClock$Kinship;", true)
  | 5 => ("RopeClock$World", "book", "LRopeClock$Book;", true)
  | _ => ("RopeClock$World", "puzzles", "LRopeClock$Puzzles;", true)
def tyX9 : Nat → FieldType := fun k => match k with
  | 0 => .object "RopeClock$Island"
  | 1 => .object "RopeClock$Law"
  | 2 => .object "RopeClock$Plan"
  | 3 => .object "RopeClock$Plan"
  | 4 => .object "RopeClock$Kinship"
  | 5 => .object "RopeClock$Book"
  | _ => .object "RopeClock$Puzzles"
theorem nmX9 : ∀ a, a < 7 → ∀ b, b < 7 → a ≠ b → (TX9 a).2.1 ≠ (TX9 b).2.1 := by decide +kernel
theorem tyX9_ok : ∀ k, k < 7 → parseFieldDescriptor (TX9 k).2.2.1 = some (tyX9 k) := by decide +kernel
abbrev cX9_init : ByteArray := prog_11_method_1_code
def yX9_init : MethodName := ⟨RX9, "<init>", "()V"⟩
abbrev cX9_copyFrom : ByteArray := prog_11_method_2_code
def yX9_copyFrom : MethodName := ⟨RX9, "copyFrom", "(LRopeClock$World;)V"⟩
abbrev cX9_passDay : ByteArray := prog_11_method_3_code
def yX9_passDay : MethodName := ⟨RX9, "passDay", "(Z)V"⟩
abbrev cX9_happen : ByteArray := prog_11_method_4_code
def yX9_happen : MethodName := ⟨RX9, "happen", "(II)V"⟩
abbrev cX9_sailOut : ByteArray := prog_11_method_5_code
def yX9_sailOut : MethodName := ⟨RX9, "sailOut", "(IZ)V"⟩
abbrev cX9_sailBack : ByteArray := prog_11_method_6_code
def yX9_sailBack : MethodName := ⟨RX9, "sailBack", "(IZ)V"⟩
abbrev cX9_isWilling : ByteArray := prog_11_method_7_code
def yX9_isWilling : MethodName := ⟨RX9, "isWilling", "(IIZ)Z"⟩
abbrev cX9_goAboard : ByteArray := prog_11_method_8_code
def yX9_goAboard : MethodName := ⟨RX9, "goAboard", "(I)V"⟩
abbrev cX9_comeBack : ByteArray := prog_11_method_9_code
def yX9_comeBack : MethodName := ⟨RX9, "comeBack", "(I)V"⟩
abbrev cX9_runClock : ByteArray := prog_11_method_10_code
def yX9_runClock : MethodName := ⟨RX9, "runClock", "()V"⟩
abbrev cX9_tells : ByteArray := prog_11_method_11_code
def yX9_tells : MethodName := ⟨RX9, "tells", "(II)I"⟩
abbrev cX9_held : ByteArray := prog_11_method_12_code
def yX9_held : MethodName := ⟨RX9, "held", "(II)I"⟩
abbrev cX9_valueOf : ByteArray := prog_11_method_13_code
def yX9_valueOf : MethodName := ⟨RX9, "valueOf", "(II)I"⟩
def RX10 : String := "RopeClock"
def TX10 : u_T := fun k => match k with
  | 0 => ("RopeClock", "now", "LRopeClock$World;", true)
  | 1 => ("RopeClock", "pictured", "LRopeClock$World;", true)
  | 2 => ("RopeClock", "scratch", "LRopeClock$World;", true)
  | 3 => ("RopeClock", "tape", "LRopeClock$Tape;", true)
  | 4 => ("RopeClock", "reade\x72", "LRopeClock$TextReader;", true)
  | 5 => ("RopeClock", "thinke\x72", "LRopeClock$Thinker;", true)
  | 6 => ("RopeClock", "past", "[LRopeClock$Island;", true)
  | 7 => ("RopeClock", "pastLines", "[I", true)
  | 8 => ("RopeClock", "undoable", "I", false)
  | 9 => ("RopeClock", "hasImage", "Z", false)
  | _ => ("RopeClock", "sums", "[I", false)
def tyX10 : Nat → FieldType := fun k => match k with
  | 0 => .object "RopeClock$World"
  | 1 => .object "RopeClock$World"
  | 2 => .object "RopeClock$World"
  | 3 => .object "RopeClock$Tape"
  | 4 => .object "RopeClock$TextReade\x72"
  | 5 => .object "RopeClock$Thinke\x72"
  | 6 => .array (.object "RopeClock$Island")
  | 7 => .array .int
  | 8 => .int
  | 9 => .boolean
  | _ => .array .int
theorem nmX10 : ∀ a, a < 11 → ∀ b, b < 11 → a ≠ b → (TX10 a).2.1 ≠ (TX10 b).2.1 := by decide +kernel
theorem tyX10_ok : ∀ k, k < 11 → parseFieldDescriptor (TX10 k).2.2.1 = some (tyX10 k) := by decide +kernel
abbrev cX10_init : ByteArray := prog_1_method_1_code
def yX10_init : MethodName := ⟨RX10, "<init>", "()V"⟩
abbrev cX10_state : ByteArray := prog_1_method_2_code
def yX10_state : MethodName := ⟨RX10, "state", "(I)I"⟩
abbrev cX10_islander : ByteArray := prog_1_method_3_code
def yX10_islander : MethodName := ⟨RX10, "islande\x72", "(II)I"⟩
abbrev cX10_set : ByteArray := prog_1_method_4_code
def yX10_set : MethodName := ⟨RX10, "set", "(III)Z"⟩
abbrev cX10_act : ByteArray := prog_1_method_5_code
def yX10_act : MethodName := ⟨RX10, "act", "(II)Z"⟩
abbrev cX10_days : ByteArray := prog_1_method_6_code
def yX10_days : MethodName := ⟨RX10, "days", "(I)I"⟩
abbrev cX10_feed : ByteArray := prog_1_method_7_code
def yX10_feed : MethodName := ⟨RX10, "feed", "(IIIII)I"⟩
abbrev cX10_end : ByteArray := prog_1_method_8_code
def yX10_end : MethodName := ⟨RX10, "end", "(I)Z"⟩
abbrev cX10_text : ByteArray := prog_1_method_9_code
def yX10_text : MethodName := ⟨RX10, "text", "(I)I"⟩
abbrev cX10_fault : ByteArray := prog_1_method_10_code
def yX10_fault : MethodName := ⟨RX10, "fault", "(I)I"⟩
abbrev cX10_of : ByteArray := prog_1_method_11_code
def yX10_of : MethodName := ⟨RX10, "of", "(II)I"⟩
abbrev cX10_book : ByteArray := prog_1_method_12_code
def yX10_book : MethodName := ⟨RX10, "book", "(II)I"⟩
abbrev cX10_goes : ByteArray := prog_1_method_13_code
def yX10_goes : MethodName := ⟨RX10, "goes", "(II)I"⟩
abbrev cX10_lonely : ByteArray := prog_1_method_14_code
def yX10_lonely : MethodName := ⟨RX10, "lonely", "()I"⟩
abbrev cX10_must : ByteArray := prog_1_method_15_code
def yX10_must : MethodName := ⟨RX10, "must", "(II)I"⟩
abbrev cX10_strokes : ByteArray := prog_1_method_16_code
def yX10_strokes : MethodName := ⟨RX10, "strokes", "(II)I"⟩
abbrev cX10_hands : ByteArray := prog_1_method_17_code
def yX10_hands : MethodName := ⟨RX10, "hands", "(II)I"⟩
abbrev cX10_wheel : ByteArray := prog_1_method_18_code
def yX10_wheel : MethodName := ⟨RX10, "wheel", "(IZ)I"⟩
abbrev cX10_wheels : ByteArray := prog_1_method_19_code
def yX10_wheels : MethodName := ⟨RX10, "wheels", "(I)I"⟩
abbrev cX10_couple : ByteArray := prog_1_method_20_code
def yX10_couple : MethodName := ⟨RX10, "couple", "(II)I"⟩
abbrev cX10_ferry : ByteArray := prog_1_method_21_code
def yX10_ferry : MethodName := ⟨RX10, "ferry", "(II)I"⟩
abbrev cX10_glasses : ByteArray := prog_1_method_22_code
def yX10_glasses : MethodName := ⟨RX10, "glasses", "(III)I"⟩
abbrev cX10_seat : ByteArray := prog_1_method_23_code
def yX10_seat : MethodName := ⟨RX10, "seat", "(I)I"⟩
abbrev cX10_level : ByteArray := prog_1_method_24_code
def yX10_level : MethodName := ⟨RX10, "level", "()I"⟩
abbrev cX10_part : ByteArray := prog_1_method_25_code
def yX10_part : MethodName := ⟨RX10, "part", "(III)I"⟩
abbrev cX10_bells : ByteArray := prog_1_method_26_code
def yX10_bells : MethodName := ⟨RX10, "bells", "(III)I"⟩
abbrev cX10_against : ByteArray := prog_1_method_27_code
def yX10_against : MethodName := ⟨RX10, "against", "(III)I"⟩
abbrev cX10_calendar : ByteArray := prog_1_method_28_code
def yX10_calendar : MethodName := ⟨RX10, "calenda\x72", "(III)I"⟩
abbrev cX10_rope : ByteArray := prog_1_method_29_code
def yX10_rope : MethodName := ⟨RX10, "rope", "(III)I"⟩
abbrev cX10_meets : ByteArray := prog_1_method_30_code
def yX10_meets : MethodName := ⟨RX10, "meets", "(IIII)I"⟩
abbrev cX10_arm : ByteArray := prog_1_method_31_code
def yX10_arm : MethodName := ⟨RX10, "arm", "(II)I"⟩
abbrev cX10_hung : ByteArray := prog_1_method_32_code
def yX10_hung : MethodName := ⟨RX10, "hung", "(I)I"⟩
abbrev cX10_game : ByteArray := prog_1_method_33_code
def yX10_game : MethodName := ⟨RX10, "game", "(IIII)I"⟩
abbrev cX10_undo : ByteArray := prog_1_method_34_code
def yX10_undo : MethodName := ⟨RX10, "undo", "()Z"⟩
abbrev cX10_image : ByteArray := prog_1_method_35_code
def yX10_image : MethodName := ⟨RX10, "image", "(Z)Z"⟩
abbrev cX10_look : ByteArray := prog_1_method_36_code
def yX10_look : MethodName := ⟨RX10, "look", "(I)I"⟩
abbrev cX10_within : ByteArray := prog_1_method_37_code
def yX10_within : MethodName := ⟨RX10, "within", "(III)Z"⟩
abbrev cX10_canBeSet : ByteArray := prog_1_method_38_code
def yX10_canBeSet : MethodName := ⟨RX10, "canBeSet", "(III)Z"⟩
abbrev cX10_canAct : ByteArray := prog_1_method_39_code
def yX10_canAct : MethodName := ⟨RX10, "canAct", "(II)Z"⟩
abbrev cX10_forget : ByteArray := prog_1_method_40_code
def yX10_forget : MethodName := ⟨RX10, "forget", "()V"⟩
abbrev cX10_remember : ByteArray := prog_1_method_41_code
def yX10_remember : MethodName := ⟨RX10, "remembe\x72", "()V"⟩
abbrev cX10_fewestWinding : ByteArray := prog_1_method_42_code
def yX10_fewestWinding : MethodName := ⟨RX10, "fewestWinding", "(I)I"⟩
abbrev cX10_addToSums : ByteArray := prog_1_method_43_code
def yX10_addToSums : MethodName := ⟨RX10, "addToSums", "(III)V"⟩
def RX11 : String := "RopeClockModel"
def TX11 : u_T := fun k => match k with
  | 0 => ("RopeClockModel", "told", "I", false)
  | 1 => ("RopeClockModel", "now", "[I", true)
  | 2 => ("RopeClockModel", "rows", "[I", true)
  | 3 => ("RopeClockModel", "undoable", "I", false)
  | 4 => ("RopeClockModel", "waiting", "[I", true)
  | 5 => ("RopeClockModel", "isThought", "Z", false)
  | 6 => ("RopeClockModel", "islanders", "I", false)
  | 7 => ("RopeClockModel", "weight", "[I", true)
  | 8 => ("RopeClockModel", "longing", "[I", true)
  | 9 => ("RopeClockModel", "book", "[I", true)
  | 10 => ("RopeClockModel", "tape", "[I", true)
  | 11 => ("RopeClockModel", "taped", "I", false)
  | 12 => ("RopeClockModel", "spot", "I", false)
  | 13 => ("RopeClockModel", "from", "I", false)
  | 14 => ("RopeClockModel", "token", "I", false)
  | 15 => ("RopeClockModel", "value", "I", false)
  | 16 => ("RopeClockModel", "words", "[I", true)
  | 17 => ("RopeClockModel", "lineMany", "[I", true)
  | 18 => ("RopeClockModel", "lineWord", "[I", true)
  | 19 => ("RopeClockModel", "lineFrom", "[I", true)
  | 20 => ("RopeClockModel", "lineWhen", "[I", true)
  | 21 => ("RopeClockModel", "lineTo", "[I", true)
  | 22 => ("RopeClockModel", "op", "[I", true)
  | 23 => ("RopeClockModel", "arg", "[I", true)
  | 24 => ("RopeClockModel", "which", "I", false)
  | 25 => ("RopeClockModel", "codes", "I", false)
  | 26 => ("RopeClockModel", "open", "I", false)
  | 27 => ("RopeClockModel", "pending", "[I", true)
  | 28 => ("RopeClockModel", "pendings", "I", false)
  | 29 => ("RopeClockModel", "readFault", "I", false)
  | 30 => ("RopeClockModel", "readPlace", "I", false)
  | 31 => ("RopeClockModel", "faultKind", "I", false)
  | 32 => ("RopeClockModel", "faultPlace", "I", false)
  | 33 => ("RopeClockModel", "boatMany", "I", false)
  | 34 => ("RopeClockModel", "boats", "[I", true)
  | 35 => ("RopeClockModel", "deedMany", "I", false)
  | 36 => ("RopeClockModel", "deeds", "[I", true)
  | 37 => ("RopeClockModel", "kinMany", "I", false)
  | 38 => ("RopeClockModel", "kinOf", "[I", true)
  | 39 => ("RopeClockModel", "asked", "[I", true)
  | 40 => ("RopeClockModel", "stack", "[I", true)
  | 41 => ("RopeClockModel", "windsBy", "[I", true)
  | 42 => ("RopeClockModel", "wheelMany", "I", false)
  | 43 => ("RopeClockModel", "teeth", "[I", true)
  | 44 => ("RopeClockModel", "isOnAxle", "[I", true)
  | 45 => ("RopeClockModel", "coupleMany", "I", false)
  | 46 => ("RopeClockModel", "notAlone", "[I", true)
  | 47 => ("RopeClockModel", "crossedBy", "[I", true)
  | 48 => ("RopeClockModel", "turnedBy", "[I", true)
  | 49 => ("RopeClockModel", "seatMany", "I", false)
  | 50 => ("RopeClockModel", "seated", "[I", true)
  | 51 => ("RopeClockModel", "quotients", "[I", true)
  | 52 => ("RopeClockModel", "rung", "[I", true)
  | 53 => ("RopeClockModel", "armMany", "I", false)
  | 54 => ("RopeClockModel", "arms", "[I", true)
  | 55 => ("RopeClockModel", "hungWeight", "[I", true)
  | 56 => ("RopeClockModel", "orde\x72", "[I", true)
  | 57 => ("RopeClockModel", "endsAs", "[I", true)
  | 58 => ("RopeClockModel", "isTaking", "Z", false)
  | 59 => ("RopeClockModel", "hasImage", "Z", false)
  | 60 => ("RopeClockModel", "keptAt", "I", false)
  | _ => ("RopeClockModel", "images", "[I", true)
def tyX11 : Nat → FieldType := fun k => match k with
  | 0 => .int
  | 1 => .array .int
  | 2 => .array .int
  | 3 => .int
  | 4 => .array .int
  | 5 => .boolean
  | 6 => .int
  | 7 => .array .int
  | 8 => .array .int
  | 9 => .array .int
  | 10 => .array .int
  | 11 => .int
  | 12 => .int
  | 13 => .int
  | 14 => .int
  | 15 => .int
  | 16 => .array .int
  | 17 => .array .int
  | 18 => .array .int
  | 19 => .array .int
  | 20 => .array .int
  | 21 => .array .int
  | 22 => .array .int
  | 23 => .array .int
  | 24 => .int
  | 25 => .int
  | 26 => .int
  | 27 => .array .int
  | 28 => .int
  | 29 => .int
  | 30 => .int
  | 31 => .int
  | 32 => .int
  | 33 => .int
  | 34 => .array .int
  | 35 => .int
  | 36 => .array .int
  | 37 => .int
  | 38 => .array .int
  | 39 => .array .int
  | 40 => .array .int
  | 41 => .array .int
  | 42 => .int
  | 43 => .array .int
  | 44 => .array .int
  | 45 => .int
  | 46 => .array .int
  | 47 => .array .int
  | 48 => .array .int
  | 49 => .int
  | 50 => .array .int
  | 51 => .array .int
  | 52 => .array .int
  | 53 => .int
  | 54 => .array .int
  | 55 => .array .int
  | 56 => .array .int
  | 57 => .array .int
  | 58 => .boolean
  | 59 => .boolean
  | 60 => .int
  | _ => .array .int
theorem nmX11 : ∀ a, a < 62 → ∀ b, b < 62 → a ≠ b → (TX11 a).2.1 ≠ (TX11 b).2.1 := by decide +kernel
theorem tyX11_ok : ∀ k, k < 62 → parseFieldDescriptor (TX11 k).2.2.1 = some (tyX11 k) := by decide +kernel
abbrev cX11_init : ByteArray := prog_13_method_1_code
def yX11_init : MethodName := ⟨RX11, "<init>", "()V"⟩
abbrev cX11_isIn : ByteArray := prog_13_method_3_code
def yX11_isIn : MethodName := ⟨RX11, "isIn", "(III)Z"⟩
abbrev cX11_held : ByteArray := prog_13_method_4_code
def yX11_held : MethodName := ⟨RX11, "held", "(III)I"⟩
abbrev cX11_greater : ByteArray := prog_13_method_5_code
def yX11_greater : MethodName := ⟨RX11, "greate\x72", "(II)I"⟩
abbrev cX11_lesser : ByteArray := prog_13_method_6_code
def yX11_lesser : MethodName := ⟨RX11, "lesse\x72", "(II)I"⟩
abbrev cX11_plain : ByteArray := prog_13_method_7_code
def yX11_plain : MethodName := ⟨RX11, "plain", "(I)I"⟩
abbrev cX11_common : ByteArray := prog_13_method_8_code
def yX11_common : MethodName := ⟨RX11, "common", "(II)I"⟩
abbrev cX11_onesOf : ByteArray := prog_13_method_9_code
def yX11_onesOf : MethodName := ⟨RX11, "onesOf", "(I)I"⟩
abbrev cX11_has : ByteArray := prog_13_method_10_code
def yX11_has : MethodName := ⟨RX11, "has", "(II)Z"⟩
abbrev cX11_keepsAhead : ByteArray := prog_13_method_11_code
def yX11_keepsAhead : MethodName := ⟨RX11, "keepsAhead", "()V"⟩
abbrev cX11_undo : ByteArray := prog_13_method_12_code
def yX11_undo : MethodName := ⟨RX11, "undo", "()Z"⟩
abbrev cX11_thinks : ByteArray := prog_13_method_13_code
def yX11_thinks : MethodName := ⟨RX11, "thinks", "()V"⟩
abbrev cX11_endsThought : ByteArray := prog_13_method_14_code
def yX11_endsThought : MethodName := ⟨RX11, "endsThought", "()V"⟩
abbrev cX11_state : ByteArray := prog_13_method_15_code
def yX11_state : MethodName := ⟨RX11, "state", "(I)I"⟩
abbrev cX11_draw : ByteArray := prog_13_method_16_code
def yX11_draw : MethodName := ⟨RX11, "draw", "(I)I"⟩
abbrev cX11_isIslander : ByteArray := prog_13_method_17_code
def yX11_isIslander : MethodName := ⟨RX11, "isIslande\x72", "(I)Z"⟩
abbrev cX11_isHere : ByteArray := prog_13_method_18_code
def yX11_isHere : MethodName := ⟨RX11, "isHere", "(I)Z"⟩
abbrev cX11_hereSet : ByteArray := prog_13_method_19_code
def yX11_hereSet : MethodName := ⟨RX11, "hereSet", "()I"⟩
abbrev cX11_islander : ByteArray := prog_13_method_20_code
def yX11_islander : MethodName := ⟨RX11, "islande\x72", "(II)I"⟩
abbrev cX11_canSet : ByteArray := prog_13_method_21_code
def yX11_canSet : MethodName := ⟨RX11, "canSet", "(III)Z"⟩
abbrev cX11_set : ByteArray := prog_13_method_22_code
def yX11_set : MethodName := ⟨RX11, "set", "(III)Z"⟩
abbrev cX11_types : ByteArray := prog_13_method_23_code
def yX11_types : MethodName := ⟨RX11, "types", "(I)V"⟩
abbrev cX11_feed : ByteArray := prog_13_method_24_code
def yX11_feed : MethodName := ⟨RX11, "feed", "(IIIII)I"⟩
abbrev cX11_end : ByteArray := prog_13_method_25_code
def yX11_end : MethodName := ⟨RX11, "end", "(I)Z"⟩
abbrev cX11_raw : ByteArray := prog_13_method_26_code
def yX11_raw : MethodName := ⟨RX11, "raw", "(I)I"⟩
abbrev cX11_isLetter : ByteArray := prog_13_method_27_code
def yX11_isLetter : MethodName := ⟨RX11, "isLette\x72", "(I)Z"⟩
abbrev cX11_isDigit : ByteArray := prog_13_method_28_code
def yX11_isDigit : MethodName := ⟨RX11, "isDigit", "(I)Z"⟩
abbrev cX11_isMarkSign : ByteArray := prog_13_method_29_code
def yX11_isMarkSign : MethodName := ⟨RX11, "isMarkSign", "(I)Z"⟩
abbrev cX11_wordAt : ByteArray := prog_13_method_30_code
def yX11_wordAt : MethodName := ⟨RX11, "wordAt", "(II)I"⟩
abbrev cX11_reads : ByteArray := prog_13_method_31_code
def yX11_reads : MethodName := ⟨RX11, "reads", "()V"⟩
abbrev cX11_errs : ByteArray := prog_13_method_32_code
def yX11_errs : MethodName := ⟨RX11, "errs", "(I)I"⟩
abbrev cX11_isWord : ByteArray := prog_13_method_33_code
def yX11_isWord : MethodName := ⟨RX11, "isWord", "(I)Z"⟩
abbrev cX11_isSign : ByteArray := prog_13_method_34_code
def yX11_isSign : MethodName := ⟨RX11, "isSign", "(I)Z"⟩
abbrev cX11_emits : ByteArray := prog_13_method_35_code
def yX11_emits : MethodName := ⟨RX11, "emits", "(II)V"⟩
abbrev cX11_canAsk : ByteArray := prog_13_method_36_code
def yX11_canAsk : MethodName := ⟨RX11, "canAsk", "(I)Z"⟩
abbrev cX11_readUnit : ByteArray := prog_13_method_37_code
def yX11_readUnit : MethodName := ⟨RX11, "readUnit", "()I"⟩
abbrev cX11_readProduct : ByteArray := prog_13_method_38_code
def yX11_readProduct : MethodName := ⟨RX11, "readProduct", "()I"⟩
abbrev cX11_readSum : ByteArray := prog_13_method_39_code
def yX11_readSum : MethodName := ⟨RX11, "readSum", "()I"⟩
abbrev cX11_readCompared : ByteArray := prog_13_method_40_code
def yX11_readCompared : MethodName := ⟨RX11, "readCompared", "()I"⟩
abbrev cX11_waits : ByteArray := prog_13_method_41_code
def yX11_waits : MethodName := ⟨RX11, "waits", "(I)V"⟩
abbrev cX11_settles : ByteArray := prog_13_method_42_code
def yX11_settles : MethodName := ⟨RX11, "settles", "(I)V"⟩
abbrev cX11_readAny : ByteArray := prog_13_method_43_code
def yX11_readAny : MethodName := ⟨RX11, "readAny", "()I"⟩
abbrev cX11_isLineWord : ByteArray := prog_13_method_44_code
def yX11_isLineWord : MethodName := ⟨RX11, "isLineWord", "()Z"⟩
abbrev cX11_readLaw : ByteArray := prog_13_method_45_code
def yX11_readLaw : MethodName := ⟨RX11, "readLaw", "()I"⟩
abbrev cX11_takesLaw : ByteArray := prog_13_method_46_code
def yX11_takesLaw : MethodName := ⟨RX11, "takesLaw", "(I)V"⟩
abbrev cX11_readNumber : ByteArray := prog_13_method_47_code
def yX11_readNumber : MethodName := ⟨RX11, "readNumbe\x72", "(II)I"⟩
abbrev cX11_readMark : ByteArray := prog_13_method_48_code
def yX11_readMark : MethodName := ⟨RX11, "readMark", "(I)I"⟩
abbrev cX11_readTold : ByteArray := prog_13_method_49_code
def yX11_readTold : MethodName := ⟨RX11, "readTold", "(III)I"⟩
abbrev cX11_readBoat : ByteArray := prog_13_method_50_code
def yX11_readBoat : MethodName := ⟨RX11, "readBoat", "(I)I"⟩
abbrev cX11_readBoats : ByteArray := prog_13_method_51_code
def yX11_readBoats : MethodName := ⟨RX11, "readBoats", "()I"⟩
abbrev cX11_kindOfDeed : ByteArray := prog_13_method_52_code
def yX11_kindOfDeed : MethodName := ⟨RX11, "kindOfDeed", "()I"⟩
abbrev cX11_readDeed : ByteArray := prog_13_method_53_code
def yX11_readDeed : MethodName := ⟨RX11, "readDeed", "(I)I"⟩
abbrev cX11_readTown : ByteArray := prog_13_method_54_code
def yX11_readTown : MethodName := ⟨RX11, "readTown", "()I"⟩
abbrev cX11_readKin : ByteArray := prog_13_method_55_code
def yX11_readKin : MethodName := ⟨RX11, "readKin", "()I"⟩
abbrev cX11_readAllKin : ByteArray := prog_13_method_56_code
def yX11_readAllKin : MethodName := ⟨RX11, "readAllKin", "()I"⟩
abbrev cX11_readsText : ByteArray := prog_13_method_57_code
def yX11_readsText : MethodName := ⟨RX11, "readsText", "(I)I"⟩
abbrev cX11_takesOther : ByteArray := prog_13_method_58_code
def yX11_takesOther : MethodName := ⟨RX11, "takesOthe\x72", "(II)V"⟩
abbrev cX11_text : ByteArray := prog_13_method_59_code
def yX11_text : MethodName := ⟨RX11, "text", "(I)I"⟩
abbrev cX11_fault : ByteArray := prog_13_method_60_code
def yX11_fault : MethodName := ⟨RX11, "fault", "(I)I"⟩
abbrev cX11_twoOf : ByteArray := prog_13_method_61_code
def yX11_twoOf : MethodName := ⟨RX11, "twoOf", "(III)I"⟩
abbrev cX11_runs : ByteArray := prog_13_method_62_code
def yX11_runs : MethodName := ⟨RX11, "runs", "(III)I"⟩
abbrev cX11_lineOf : ByteArray := prog_13_method_63_code
def yX11_lineOf : MethodName := ⟨RX11, "lineOf", "(I)I"⟩
abbrev cX11_kinApart : ByteArray := prog_13_method_64_code
def yX11_kinApart : MethodName := ⟨RX11, "kinApart", "(I)I"⟩
abbrev cX11_asks : ByteArray := prog_13_method_65_code
def yX11_asks : MethodName := ⟨RX11, "asks", "(I)V"⟩
abbrev cX11_lawTells : ByteArray := prog_13_method_66_code
def yX11_lawTells : MethodName := ⟨RX11, "lawTells", "(III)I"⟩
abbrev cX11_leavesOf : ByteArray := prog_13_method_67_code
def yX11_leavesOf : MethodName := ⟨RX11, "leavesOf", "(I)I"⟩
abbrev cX11_windsOf : ByteArray := prog_13_method_68_code
def yX11_windsOf : MethodName := ⟨RX11, "windsOf", "(I)I"⟩
abbrev cX11_returnsOf : ByteArray := prog_13_method_69_code
def yX11_returnsOf : MethodName := ⟨RX11, "returnsOf", "(I)I"⟩
abbrev cX11_notes : ByteArray := prog_13_method_70_code
def yX11_notes : MethodName := ⟨RX11, "notes", "(III)V"⟩
abbrev cX11_goesAboard : ByteArray := prog_13_method_71_code
def yX11_goesAboard : MethodName := ⟨RX11, "goesAboard", "(I)V"⟩
abbrev cX11_comesBack : ByteArray := prog_13_method_72_code
def yX11_comesBack : MethodName := ⟨RX11, "comesBack", "(I)V"⟩
abbrev cX11_canAct : ByteArray := prog_13_method_73_code
def yX11_canAct : MethodName := ⟨RX11, "canAct", "(II)Z"⟩
abbrev cX11_act : ByteArray := prog_13_method_74_code
def yX11_act : MethodName := ⟨RX11, "act", "(II)Z"⟩
abbrev cX11_happens : ByteArray := prog_13_method_75_code
def yX11_happens : MethodName := ⟨RX11, "happens", "(I)Z"⟩
abbrev cX11_isPushed : ByteArray := prog_13_method_76_code
def yX11_isPushed : MethodName := ⟨RX11, "isPushed", "(I)V"⟩
abbrev cX11_does : ByteArray := prog_13_method_77_code
def yX11_does : MethodName := ⟨RX11, "does", "(I)V"⟩
abbrev cX11_goesOut : ByteArray := prog_13_method_78_code
def yX11_goesOut : MethodName := ⟨RX11, "goesOut", "(I)V"⟩
abbrev cX11_bringsBack : ByteArray := prog_13_method_79_code
def yX11_bringsBack : MethodName := ⟨RX11, "bringsBack", "(I)V"⟩
abbrev cX11_strokesAt : ByteArray := prog_13_method_80_code
def yX11_strokesAt : MethodName := ⟨RX11, "strokesAt", "(I)I"⟩
abbrev cX11_clockRuns : ByteArray := prog_13_method_81_code
def yX11_clockRuns : MethodName := ⟨RX11, "clockRuns", "()I"⟩
abbrev cX11_goesBy : ByteArray := prog_13_method_82_code
def yX11_goesBy : MethodName := ⟨RX11, "goesBy", "()I"⟩
abbrev cX11_days : ByteArray := prog_13_method_83_code
def yX11_days : MethodName := ⟨RX11, "days", "(I)I"⟩
abbrev cX11_of : ByteArray := prog_13_method_84_code
def yX11_of : MethodName := ⟨RX11, "of", "(II)I"⟩
abbrev cX11_book : ByteArray := prog_13_method_85_code
def yX11_book : MethodName := ⟨RX11, "book", "(II)I"⟩
abbrev cX11_goes : ByteArray := prog_13_method_86_code
def yX11_goes : MethodName := ⟨RX11, "goes", "(II)I"⟩
abbrev cX11_lonely : ByteArray := prog_13_method_87_code
def yX11_lonely : MethodName := ⟨RX11, "lonely", "()I"⟩
abbrev cX11_must : ByteArray := prog_13_method_88_code
def yX11_must : MethodName := ⟨RX11, "must", "(II)I"⟩
abbrev cX11_strokes : ByteArray := prog_13_method_89_code
def yX11_strokes : MethodName := ⟨RX11, "strokes", "(II)I"⟩
abbrev cX11_handsAt : ByteArray := prog_13_method_90_code
def yX11_handsAt : MethodName := ⟨RX11, "handsAt", "(I)I"⟩
abbrev cX11_hands : ByteArray := prog_13_method_91_code
def yX11_hands : MethodName := ⟨RX11, "hands", "(II)I"⟩
abbrev cX11_wheel : ByteArray := prog_13_method_92_code
def yX11_wheel : MethodName := ⟨RX11, "wheel", "(IZ)I"⟩
abbrev cX11_wheels : ByteArray := prog_13_method_93_code
def yX11_wheels : MethodName := ⟨RX11, "wheels", "(I)I"⟩
abbrev cX11_couple : ByteArray := prog_13_method_94_code
def yX11_couple : MethodName := ⟨RX11, "couple", "(II)I"⟩
abbrev cX11_isPeace : ByteArray := prog_13_method_95_code
def yX11_isPeace : MethodName := ⟨RX11, "isPeace", "(I)Z"⟩
abbrev cX11_ferry : ByteArray := prog_13_method_96_code
def yX11_ferry : MethodName := ⟨RX11, "ferry", "(II)I"⟩
abbrev cX11_glassAt : ByteArray := prog_13_method_97_code
def yX11_glassAt : MethodName := ⟨RX11, "glassAt", "(III)I"⟩
abbrev cX11_turns : ByteArray := prog_13_method_98_code
def yX11_turns : MethodName := ⟨RX11, "turns", "(IIII)V"⟩
abbrev cX11_glasses : ByteArray := prog_13_method_99_code
def yX11_glasses : MethodName := ⟨RX11, "glasses", "(III)I"⟩
abbrev cX11_seat : ByteArray := prog_13_method_100_code
def yX11_seat : MethodName := ⟨RX11, "seat", "(I)I"⟩
abbrev cX11_isLevel : ByteArray := prog_13_method_101_code
def yX11_isLevel : MethodName := ⟨RX11, "isLevel", "(I)Z"⟩
abbrev cX11_level : ByteArray := prog_13_method_102_code
def yX11_level : MethodName := ⟨RX11, "level", "()I"⟩
abbrev cX11_findsQuotients : ByteArray := prog_13_method_103_code
def yX11_findsQuotients : MethodName := ⟨RX11, "findsQuotients", "(II)I"⟩
abbrev cX11_part : ByteArray := prog_13_method_104_code
def yX11_part : MethodName := ⟨RX11, "part", "(III)I"⟩
abbrev cX11_changes : ByteArray := prog_13_method_105_code
def yX11_changes : MethodName := ⟨RX11, "changes", "(II)V"⟩
abbrev cX11_areInOrder : ByteArray := prog_13_method_106_code
def yX11_areInOrder : MethodName := ⟨RX11, "areInOrde\x72", "(I)Z"⟩
abbrev cX11_againAt : ByteArray := prog_13_method_107_code
def yX11_againAt : MethodName := ⟨RX11, "againAt", "(I)I"⟩
abbrev cX11_bells : ByteArray := prog_13_method_108_code
def yX11_bells : MethodName := ⟨RX11, "bells", "(III)I"⟩
abbrev cX11_against : ByteArray := prog_13_method_109_code
def yX11_against : MethodName := ⟨RX11, "against", "(III)I"⟩
abbrev cX11_calendar : ByteArray := prog_13_method_110_code
def yX11_calendar : MethodName := ⟨RX11, "calenda\x72", "(III)I"⟩
abbrev cX11_rope : ByteArray := prog_13_method_111_code
def yX11_rope : MethodName := ⟨RX11, "rope", "(III)I"⟩
abbrev cX11_meets : ByteArray := prog_13_method_112_code
def yX11_meets : MethodName := ⟨RX11, "meets", "(IIII)I"⟩
abbrev cX11_arm : ByteArray := prog_13_method_113_code
def yX11_arm : MethodName := ⟨RX11, "arm", "(II)I"⟩
abbrev cX11_goesToNextOrder : ByteArray := prog_13_method_114_code
def yX11_goesToNextOrder : MethodName := ⟨RX11, "goesToNextOrde\x72", "()Z"⟩
abbrev cX11_hung : ByteArray := prog_13_method_115_code
def yX11_hung : MethodName := ⟨RX11, "hung", "(I)I"⟩
abbrev cX11_leadsTo : ByteArray := prog_13_method_116_code
def yX11_leadsTo : MethodName := ⟨RX11, "leadsTo", "(III)I"⟩
abbrev cX11_endOf : ByteArray := prog_13_method_117_code
def yX11_endOf : MethodName := ⟨RX11, "endOf", "(III)I"⟩
abbrev cX11_keepsSo : ByteArray := prog_13_method_118_code
def yX11_keepsSo : MethodName := ⟨RX11, "keepsSo", "(IIII)Z"⟩
abbrev cX11_game : ByteArray := prog_13_method_119_code
def yX11_game : MethodName := ⟨RX11, "game", "(IIII)I"⟩
abbrev cX11_keeps : ByteArray := prog_13_method_120_code
def yX11_keeps : MethodName := ⟨RX11, "keeps", "(I)I"⟩
abbrev cX11_keepsLaw : ByteArray := prog_13_method_121_code
def yX11_keepsLaw : MethodName := ⟨RX11, "keepsLaw", "()V"⟩
abbrev cX11_keepsTold : ByteArray := prog_13_method_122_code
def yX11_keepsTold : MethodName := ⟨RX11, "keepsTold", "()V"⟩
abbrev cX11_image : ByteArray := prog_13_method_123_code
def yX11_image : MethodName := ⟨RX11, "image", "(Z)Z"⟩
abbrev cX11_look : ByteArray := prog_13_method_124_code
def yX11_look : MethodName := ⟨RX11, "look", "(I)I"⟩
def RJx145de : String := "java/io/Serializable"
def RJx9f9b0 : String := "java/lang/CharSequence"
def RJ11 : String := "java/lang/Characte\x72"
abbrev cJ11_isValidCodePoint_9a6ad : ByteArray := prog_14_method_11_code
def yJ11_isValidCodePoint_9a6ad : MethodName := ⟨RJ11, "isValidCodePoint", "(I)Z"⟩
abbrev cJ11_highSurrogate_5068e : ByteArray := prog_14_method_28_code
def yJ11_highSurrogate_5068e : MethodName := ⟨RJ11, "highSurrogate", "(I)C"⟩
abbrev cJ11_lowSurrogate_5068e : ByteArray := prog_14_method_29_code
def yJ11_lowSurrogate_5068e : MethodName := ⟨RJ11, "lowSurrogate", "(I)C"⟩
def RJxb160c : String := "java/lang/Comparable"
def RJ6 : String := "java/lang/Intege\x72"
abbrev cJ6_bitCount_0f7a4 : ByteArray := prog_15_method_49_code
def yJ6_bitCount_0f7a4 : MethodName := ⟨RJ6, "bitCount", "(I)I"⟩
def RJ9 : String := "java/lang/Math"
abbrev cJ9_floorDiv_7cf53 : ByteArray := prog_16_method_47_code
def yJ9_floorDiv_7cf53 : MethodName := ⟨RJ9, "floorDiv", "(II)I"⟩
abbrev cJ9_floorMod_7cf53 : ByteArray := prog_16_method_50_code
def yJ9_floorMod_7cf53 : MethodName := ⟨RJ9, "floorMod", "(II)I"⟩
abbrev cJ9_abs_0f7a4 : ByteArray := prog_16_method_59_code
def yJ9_abs_0f7a4 : MethodName := ⟨RJ9, "abs", "(I)I"⟩
abbrev cJ9_max_7cf53 : ByteArray := prog_16_method_65_code
def yJ9_max_7cf53 : MethodName := ⟨RJ9, "max", "(II)I"⟩
abbrev cJ9_min_7cf53 : ByteArray := prog_16_method_69_code
def yJ9_min_7cf53 : MethodName := ⟨RJ9, "min", "(II)I"⟩
def RJ0 : String := "java/lang/String"
abbrev cJ0_length_8abf5 : ByteArray := prog_17_method_54_code
def yJ0_length_8abf5 : MethodName := ⟨RJ0, "length", "()I"⟩
abbrev cJ0_charAt_5068e : ByteArray := prog_17_method_56_code
def yJ0_charAt_5068e : MethodName := ⟨RJ0, "charAt", "(I)C"⟩
abbrev cJ0_indexOf_0f7a4 : ByteArray := prog_17_method_79_code
def yJ0_indexOf_0f7a4 : MethodName := ⟨RJ0, "indexOf", "(I)I"⟩
abbrev cJ0_indexOf_7cf53 : ByteArray := prog_17_method_80_code
def yJ0_indexOf_7cf53 : MethodName := ⟨RJ0, "indexOf", "(II)I"⟩
abbrev cJ0_coder_7d493 : ByteArray := prog_17_method_152_code
def yJ0_coder_7d493 : MethodName := ⟨RJ0, "code\x72", "()B"⟩
abbrev cJ0_isLatin1_aae02 : ByteArray := prog_17_method_154_code
def yJ0_isLatin1_aae02 : MethodName := ⟨RJ0, "isLatin1", "()Z"⟩
abbrev cJ0_checkIndex_df160 : ByteArray := prog_17_method_155_code
def yJ0_checkIndex_df160 : MethodName := ⟨RJ0, "checkIndex", "(II)V"⟩
abbrev cJ0_checkBoundsBeginEnd_23922 : ByteArray := prog_17_method_158_code
def yJ0_checkBoundsBeginEnd_23922 : MethodName := ⟨RJ0, "checkBoundsBeginEnd", "(III)V"⟩
def RJ1 : String := "java/lang/StringLatin1"
abbrev cJ1_charAt_3b067 : ByteArray := prog_18_method_2_code
def yJ1_charAt_3b067 : MethodName := ⟨RJ1, "charAt", "([BI)C"⟩
abbrev cJ1_canEncode_9a6ad : ByteArray := prog_18_method_4_code
def yJ1_canEncode_9a6ad : MethodName := ⟨RJ1, "canEncode", "(I)Z"⟩
abbrev cJ1_indexOf_4cfef : ByteArray := prog_18_method_22_code
def yJ1_indexOf_4cfef : MethodName := ⟨RJ1, "indexOf", "([BIII)I"⟩
abbrev cJ1_indexOfChar_4cfef : ByteArray := prog_18_method_23_code
def yJ1_indexOfChar_4cfef : MethodName := ⟨RJ1, "indexOfCha\x72", "([BIII)I"⟩
def RJ2 : String := "java/lang/StringUTF16"
abbrev cJ2_getChar_3b067 : ByteArray := prog_19_method_5_code
def yJ2_getChar_3b067 : MethodName := ⟨RJ2, "getCha\x72", "([BI)C"⟩
abbrev cJ2_length_9d52b : ByteArray := prog_19_method_6_code
def yJ2_length_9d52b : MethodName := ⟨RJ2, "length", "([B)I"⟩
abbrev cJ2_indexOf_4cfef : ByteArray := prog_19_method_40_code
def yJ2_indexOf_4cfef : MethodName := ⟨RJ2, "indexOf", "([BIII)I"⟩
abbrev cJ2_indexOfChar_4cfef : ByteArray := prog_19_method_47_code
def yJ2_indexOfChar_4cfef : MethodName := ⟨RJ2, "indexOfCha\x72", "([BIII)I"⟩
abbrev cJ2_indexOfCharUnsafe_4cfef : ByteArray := prog_19_method_48_code
def yJ2_indexOfCharUnsafe_4cfef : MethodName := ⟨RJ2, "indexOfCharUnsafe", "([BIII)I"⟩
abbrev cJ2_indexOfSupplementary_4cfef : ByteArray := prog_19_method_49_code
def yJ2_indexOfSupplementary_4cfef : MethodName := ⟨RJ2, "indexOfSupplementary", "([BIII)I"⟩
abbrev cJ2_charAt_3b067 : ByteArray := prog_19_method_83_code
def yJ2_charAt_3b067 : MethodName := ⟨RJ2, "charAt", "([BI)C"⟩
abbrev cJ2_checkIndex_2214a : ByteArray := prog_19_method_91_code
def yJ2_checkIndex_2214a : MethodName := ⟨RJ2, "checkIndex", "(I[B)V"⟩
abbrev cJ2_checkBoundsBeginEnd_d044e : ByteArray := prog_19_method_93_code
def yJ2_checkBoundsBeginEnd_d044e : MethodName := ⟨RJ2, "checkBoundsBeginEnd", "(II[B)V"⟩
def RJ10 : String := "java/lang/System"
def RJxfd54e : String := "java/lang/constant/Constable"
def RJx3cf43 : String := "java/lang/constant/ConstantDesc"
def RJ7 : String := "java/util/Arrays"
abbrev cJ7_rangeCheck_23922 : ByteArray := prog_21_method_30_code
def yJ7_rangeCheck_23922 : MethodName := ⟨RJ7, "rangeCheck", "(III)V"⟩
abbrev cJ7_fill_53178 : ByteArray := prog_21_method_103_code
def yJ7_fill_53178 : MethodName := ⟨RJ7, "fill", "([II)V"⟩
abbrev cJ7_fill_fda19 : ByteArray := prog_21_method_104_code
def yJ7_fill_fda19 : MethodName := ⟨RJ7, "fill", "([IIII)V"⟩
def RJ3 : String := "jdk/internal/util/Preconditions"
abbrev cJ3_checkIndex_8e157 : ByteArray := prog_22_method_11_code
def yJ3_checkIndex_8e157 : MethodName := ⟨RJ3, "checkIndex", "(IILjava/util/function/BiFunction;)I"⟩
abbrev cJ3_checkFromToIndex_8c36e : ByteArray := prog_22_method_12_code
def yJ3_checkFromToIndex_8c36e : MethodName := ⟨RJ3, "checkFromToIndex", "(IIILjava/util/function/BiFunction;)I"⟩
def RL : String := "RopeClockLaw"
abbrev cL_law : ByteArray := code
def yL_law : MethodName := ⟨RL, "law", "([I)Z"⟩
abbrev vwCl : List vw_C := [(RX0, TX0, 5), (RX1, TX1, 14), (RX2, TX2, 2), (RX3, TX3, 8), (RX4, TX4, 4), (RX5, TX5, 10), (RX6, TX6, 10), (RX7, TX7, 1), (RX8, TX8, 5), (RX9, TX9, 7), (RX10, TX10, 11), (RX11, TX11, 62)]
def zfkL : List (List Nat) := [[2, 2, 2, 2, 0], [2, 2, 2, 0, 0, 0, 0, 0, 0, 0, 0, 0, 0, 0], [2, 0], [2, 2, 2, 2, 2, 2, 0, 0], [2, 2, 2, 0], [2, 2, 0, 2, 0, 2, 0, 2, 2, 0], [2, 2, 2, 0, 0, 0, 0, 0, 0, 0], [2], [2, 2, 2, 2, 2], [2, 2, 2, 2, 2, 2, 2], [2, 2, 2, 2, 2, 2, 2, 2, 0, 1, 2], [0, 2, 2, 0, 2, 1, 0, 2, 2, 2, 2, 0, 0, 0, 0, 0, 2, 2, 2, 2, 2, 2, 2, 2, 0, 0, 0, 2, 0, 0, 0, 0, 0, 0, 2, 0, 2, 0, 2, 2, 2, 2, 0, 2, 2, 0, 2, 2, 2, 0, 2, 2, 2, 0, 2, 2, 2, 2, 1, 1, 0, 2]]
def zlen : List Nat := [92, 10, 17, 41, 13]
def zbyt : List (List Int32) := [[108, 101, 97, 118, 101, 115, 32, 119, 105, 110, 100, 115, 32, 114, 101, 116, 117, 114, 110, 115, 32, 119, 104, 101, 110, 32, 111, 114, 32, 97, 110, 100, 32, 110, 111, 116, 32, 119, 101, 105, 103, 104, 116, 32, 108, 111, 110, 103, 32, 108, 101, 102, 116, 32, 104, 101, 114, 101, 32, 112, 101, 111, 112, 108, 101, 32, 119, 111, 117, 110, 100, 32, 116, 105, 109, 101, 32, 115, 99, 104, 111, 111, 108, 32, 107, 105, 110, 32, 100, 97, 121, 32], [59, 43, 45, 42, 47, 40, 41, 60, 61, 62], [111, 110, 32, 98, 111, 97, 116, 32, 111, 117, 116, 32, 98, 97, 99, 107, 32], [111, 110, 32, 98, 101, 103, 32, 102, 114, 101, 101, 32, 115, 99, 104, 111, 111, 108, 32, 104, 111, 108, 105, 100, 97, 121, 32, 105, 110, 116, 101, 114, 101, 115, 116, 32, 112, 117, 115, 104, 32], [105, 115, 108, 97, 110, 100, 101, 114, 32, 107, 105, 110, 32]]
def zsc : List (String × Nat × String × Nat) := [("RopeClock$TextReade\x72", 17, "leaves winds returns when or and not weight long left here people wound time school kin day ", 0), ("RopeClock$Tape", 62, ";+-*/()<=>", 1), ("RopeClock$TextReade\x72", 94, "on boat out back ", 2), ("RopeClock$TextReade\x72", 119, "on beg free school holiday interest push ", 3), ("RopeClock$TextReade\x72", 130, "islander kin ", 4)]
def znl : List (String × Nat × MethodName × String) := [("RopeClock", 9, yX9_init, "RopeClock"), ("RopeClock", 24, yX6_init, "RopeClock"), ("RopeClock", 40, yX8_init, "RopeClock"), ("RopeClock", 66, yX1_init, "RopeClock"), ("RopeClock", 291, yX8_waysToSit, "RopeClock"), ("RopeClock", 318, yX8_leastLean, "RopeClock"), ("RopeClock$Kinship", 31, yX10_within, "RopeClock"), ("RopeClock$Puzzles", 50, yX10_within, "RopeClock"), ("RopeClock$Tape", 91, yX10_within, "RopeClock"), ("RopeClock$World", 11, yX1_init, "RopeClock"), ("RopeClock$World", 20, yX3_init, "RopeClock"), ("RopeClock$World", 27, yX4_init, "RopeClock"), ("RopeClock$World", 37, yX2_init, "RopeClock"), ("RopeClock$World", 44, yX0_init, "RopeClock"), ("RopeClock$World", 51, yX5_init, "RopeClock")]
end
section
/-! ===== the simple machine: ints as Int, cells by number, one memory ===== -/
abbrev zV : Type := Int ⊕ Int
abbrev zM : Type := Nat × (Int → Int → Int)
abbrev zSh : Type := Int → Nat ⊕ (Nat × Nat)
abbrev zG : Type := (Int → Nat) × ClassId × ClassId × ClassId
abbrev zin (x : Int) : Prop := -2147483648 ≤ x ∧ x ≤ 2147483647
def zwr (h : zM) (c k v : Int) : zM := (h.1, fun a b => if a = c ∧ b = k then v else h.2 a b)
theorem zwr_1 (h : zM) (c k v : Int) : (zwr h c k v).1 = h.1 := rfl
theorem zwr_s (h : zM) (c k v : Int) : (zwr h c k v).2 c k = v := by simp [zwr]
theorem zwr_n {h : zM} {c k v a b : Int} (e : ¬ (a = c ∧ b = k)) : (zwr h c k v).2 a b = h.2 a b := by simp [zwr, e]
def zv (ad : Int → Nat) : zV → Value
  | .inl n => .int (Int32.ofInt n)
  | .inr r => if r = -1 then .null else .ref (ad r)
def zo (ad : Int → Nat) (r : Int) : Option Nat := if r = -1 then none else some (ad r)
theorem zo_rf (ad : Int → Nat) (r : Int) : va_rf (zo ad r) = zv ad (.inr r) := by
  show va_rf (if r = -1 then none else some (ad r)) = (if r = -1 then .null else .ref (ad r))
  split <;> rfl
theorem zv_ref (ad : Int → Nat) {r : Int} (h : ¬ r = -1) : zv ad (.inr r) = .ref (ad r) := if_neg h
theorem zv_cat (ad : Int → Nat) (v : zV) : (zv ad v).category = 1 := by
  unfold zv
  split
  · rfl
  · split <;> rfl
def zfk (ci k : Nat) : Nat := (zfkL.getD ci []).getD k 0
def znf (ci : Nat) : Nat := (zfkL.getD ci []).length
def zfv (ad : Int → Nat) (ci k : Nat) (v : Int) : Value := if zfk ci k = 2 then zv ad (.inr v) else .int (Int32.ofInt v)
def zc (sh : zSh) (g : zG) (h : zM) (c : Int) : va_E := match sh c with
  | .inl ci => .inr (ci, (List.range (znf ci)).map fun (k : Nat) => zfv g.1 ci k (h.2 c k))
  | .inr (0, n) => .inl (g.2.1, n, .inl fun (j : Nat) => Int32.ofInt (h.2 c j))
  | .inr (1, n) => .inl (g.2.2.1, n, .inl fun (j : Nat) => Int32.ofInt (h.2 c j))
  | .inr (_ + 2, n) => .inl (g.2.2.2, n, .inr (.inr (.inr (.inr fun (j : Nat) => zo g.1 (h.2 c j)))))
def zw (sh : zSh) (g : zG) (h : zM) : va_W := (List.range h.1).map fun (c : Nat) => (g.1 (c : Int), zc sh g h (c : Int))
theorem zc_cong {sh : zSh} {g : zG} {h h' : zM} {c : Int} (e : ∀ k : Int, h'.2 c k = h.2 c k) : zc sh g h' c = zc sh g h c := by
  have e2 : h'.2 c = h.2 c := funext e
  unfold zc
  rw [e2]
theorem zw_at (sh : zSh) (g : zG) (h : zM) {c : Nat} (hc : c < h.1) : (zw sh g h)[c]? = some (g.1 (c : Int), zc sh g h (c : Int)) := by
  unfold zw
  rw [List.getElem?_map, List.getElem?_range hc]
  rfl
theorem zw_out (sh : zSh) (g : zG) (h : zM) {c : Nat} (hc : h.1 ≤ c) : (zw sh g h)[c]? = none := by
  unfold zw
  rw [List.getElem?_map, List.getElem?_eq_none (by simpa using hc)]
  rfl
theorem zw_len (sh : zSh) (g : zG) (h : zM) : (zw sh g h).length = h.1 := by simp [zw]
theorem zw_set {sh : zSh} {g : zG} {h h' : zM} {c : Nat} {x : va_E} (hc : c < h.1) (h1 : h'.1 = h.1) (ho : ∀ a k : Int, a ≠ c → h'.2 a k = h.2 a k) (hx : zc sh g h' (c : Int) = x) : (zw sh g h).set c (g.1 (c : Int), x) = zw sh g h' := by
  apply List.ext_getElem?
  intro i
  by_cases hi : i = c
  · subst hi
    rw [List.getElem?_set_self (by rw [zw_len]; exact hc), zw_at sh g h' (by rw [h1]; exact hc), hx]
  · rw [List.getElem?_set_ne (Ne.symm hi)]
    by_cases hl : i < h.1
    · rw [zw_at sh g h hl, zw_at sh g h' (by rw [h1]; exact hl), zc_cong (h := h) (h' := h') (fun k => ho _ k (by omega))]
    · rw [zw_out sh g h (by omega), zw_out sh g h' (by rw [h1]; omega)]
theorem zw_push {sh : zSh} {g : zG} {h h' : zM} {a : Nat} {x : va_E} (h1 : h'.1 = h.1 + 1) (ho : ∀ a k : Int, a ≠ h.1 → h'.2 a k = h.2 a k) (ha : g.1 (h.1 : Int) = a) (hx : zc sh g h' (h.1 : Int) = x) : zw sh g h ++ [(a, x)] = zw sh g h' := by
  apply List.ext_getElem?
  intro i
  by_cases hi : i < h.1
  · rw [List.getElem?_append_left (by rw [zw_len]; exact hi), zw_at sh g h hi, zw_at sh g h' (by omega), zc_cong (h := h) (h' := h') (fun k => ho _ k (by omega))]
  · rw [List.getElem?_append_right (by rw [zw_len]; omega), zw_len]
    by_cases hl : i = h.1
    · subst hl
      rw [Nat.sub_self, zw_at sh g h' (by omega), hx, ha]
      rfl
    · rw [zw_out sh g h' (by omega)]
      simp
      omega
/-- objects, arrays: what a cell is, by its shape -/
theorem zc_obj {sh : zSh} {g : zG} {h : zM} {c : Int} {ci : Nat} (e : sh c = .inl ci) : zc sh g h c = .inr (ci, (List.range (znf ci)).map fun (k : Nat) => zfv g.1 ci k (h.2 c k)) := by unfold zc; rw [e]
theorem zc_ia {sh : zSh} {g : zG} {h : zM} {c : Int} {n : Nat} (e : sh c = .inr (0, n)) : zc sh g h c = .inl (g.2.1, n, .inl fun (j : Nat) => Int32.ofInt (h.2 c j)) := by unfold zc; rw [e]
theorem zc_za {sh : zSh} {g : zG} {h : zM} {c : Int} {n : Nat} (e : sh c = .inr (1, n)) : zc sh g h c = .inl (g.2.2.1, n, .inl fun (j : Nat) => Int32.ofInt (h.2 c j)) := by unfold zc; rw [e]
theorem zc_ra {sh : zSh} {g : zG} {h : zM} {c : Int} {n : Nat} (e : sh c = .inr (2, n)) : zc sh g h c = .inl (g.2.2.2, n, .inr (.inr (.inr (.inr fun (j : Nat) => zo g.1 (h.2 c j))))) := by unfold zc; rw [e]
/-- the words that every method may use -/
def zt : List Cond := lw_tbl.filter goodWord
theorem zt_in {w : Cond} (h : w ∈ lw_tbl) (hg : goodWord w = true) : w ∈ zt := List.mem_filter.mpr ⟨h, hg⟩
theorem zt_of {args : Array Value} {s : State} (h : ∀ w ∈ lw_tbl, w.before args s = true) : ∀ w ∈ zt, w.before args s = true := fun w hw => h w (List.mem_filter.mp hw).1
theorem zt_good : GoodIn zt zt := fun w hw => ⟨hw, good_of_word (List.mem_filter.mp hw).2⟩
def zws (y : MethodName) (cc : ByteArray) (nL : Nat) (ret : Option FieldType) : List Cond := Cond.code y cc nL ret :: zt
theorem zws_good {y : MethodName} {cc : ByteArray} {nL : Nat} {ret : Option FieldType} (h : Cond.code y cc nL ret ∈ zt) : GoodIn zt (zws y cc nL ret) := fun w hw => (List.mem_cons.mp hw).elim (fun e => by rw [e]; exact zt_good _ h) (zt_good w)
def ztys (g : zG) : List (ClassId × FieldType) := [(g.2.1, .int), (g.2.2.1, .boolean), (g.2.2.2, .object RX1)]
/-- the strings of the claim, as cells -2 - i, their bytes as cells -10 - i -/
def zStr (g : zG) (A : Nat → Prop) (U : State) : Prop :=
  vk_S 5 zlen zbyt (fun i => g.1 (-2 - (i : Int))) (fun i => g.1 (-10 - (i : Int))) A U U.heap ∧ va_Z "java/lang/String" "COMPACT_STRINGS" "Z" (.int 1) A U U.heap ∧ (∀ q ∈ zsc, vk_R q.1 q.2.1 q.2.2.1 (g.1 (-2 - (q.2.2.2 : Int))) U) ∧ (∀ q ∈ znl, va_Nw (.methodLinkNest q.1 q.2.1 q.2.2.1 q.2.2.2) U) ∧ va_AO RX1 U ∧ (va_Z "jdk/internal/util/Preconditions" "SIOOBE_FORMATTER" "Ljava/util/function/BiFunction;" .null A U U.heap ∨ va_Z "jdk/internal/util/Preconditions" "SIOOBE_FORMATTER" "Ljava/util/function/BiFunction;" (.ref (g.1 (-20))) A U U.heap)
def zX (y : MethodName) (cc : ByteArray) (nL : Nat) (ret : Option FieldType) (D : va_G) (g : zG) (p : Program) (s : State) (m : MethodId) (args : Array Value) (meth : Method) (c : Code) (A : Nat → Prop) : Prop :=
  p.tables.exec = Jvm.exec ∧ c.code = cc ∧ c.maxLocals = nL ∧ meth.sig.returnType = ret ∧ s.vm.findClass y.cls = some m.cls ∧ (∀ w ∈ zt, w.before args s = true) ∧ meth.locks = false ∧ va_K D vwCl (ztys g) s ∧ meth.name = y.name ∧ (∀ q, s.heap.size ≤ q → A q) ∧ zStr g A s
def zI (sh : zSh) (D : va_G) (g : zG) (A : Nat → Prop) (H0 : Heap) (h : zM) (H : Heap) (locs : List Loc) : Prop :=
  va_P D vwCl (zw sh g h) H ∧ va_D A (zw sh g h) ∧ va_S A H0 H locs ∧ ∀ c : Nat, h.1 ≤ c → g.1 (c : Int) = H.size + (c - h.1)
def zl (ad : Int → Nat) (L : List (Option zV)) : List (Nat × Value) := (List.range L.length).filterMap fun k => (L.getD k none).map fun v => (k, zv ad v)
def zL (ad : Int → Nat) (nL : Nat) (L : List (Option zV)) (ls : Array Slot) : Prop := L.length = nL ∧ lv_has ls nL (zl ad L)
theorem zl_mem {ad : Int → Nat} {L : List (Option zV)} {q : Nat × Value} : q ∈ zl ad L ↔ ∃ v, L[q.1]? = some (some v) ∧ q.2 = zv ad v := by
  unfold zl
  rw [List.mem_filterMap]
  constructor
  · rintro ⟨k, hk, he⟩
    have hk' := List.mem_range.mp hk
    cases hg : L.getD k none with
    | none => rw [hg] at he; cases he
    | some v =>
      rw [hg] at he
      have he : some (k, zv ad v) = some q := he
      cases he
      refine ⟨v, ?_, rfl⟩
      rw [List.getD_eq_getElem?_getD] at hg
      show L[k]? = _
      rw [List.getElem?_eq_getElem hk'] at hg ⊢
      exact congrArg some hg
  · rintro ⟨v, h1, h2⟩
    refine ⟨q.1, List.mem_range.mpr (List.getElem?_eq_some_iff.mp h1).1, ?_⟩
    rw [List.getD_eq_getElem?_getD, h1]
    show some (q.1, zv ad v) = some q
    rw [← h2]
theorem zL_at {ad : Int → Nat} {nL : Nat} {L : List (Option zV)} {ls : Array Slot} (Z : zL ad nL L ls) {k : Nat} {v : zV} (h : L[k]? = some (some v)) : ls[k]? = some (.val (zv ad v)) := Z.2.2.2 (k, zv ad v) (zl_mem.mpr ⟨v, h, rfl⟩)
theorem zL_set {ad : Int → Nat} {nL : Nat} {L L' : List (Option zV)} {ls ls' : Array Slot} {i : Nat} {v : zV} (Z : zL ad nL L ls) (hi : i < nL) (hL : L.set i (some v) = L') (h : lv_has ls' nL ((i, zv ad v) :: (zl ad L).filter (fun q => !(q.1 == i) && !(q.1 + 1 == i && q.2.category == 2)))) : zL ad nL L' ls' := by
  subst hL
  refine ⟨by rw [List.length_set]; exact Z.1, h.1, h.2.1, fun q hq => ?_⟩
  obtain ⟨w, h1, h2⟩ := zl_mem.mp hq
  by_cases hqi : q.1 = i
  · rw [hqi, List.getElem?_set_self (by rw [Z.1]; exact hi)] at h1
    have hw : v = w := Option.some.inj (Option.some.inj h1)
    have h3 := h.2.2 (i, zv ad v) List.mem_cons_self
    rw [hqi, h2, ← hw]
    exact h3
  · rw [List.getElem?_set_ne (Ne.symm hqi)] at h1
    refine h.2.2 q (List.mem_cons_of_mem _ (List.mem_filter.mpr ⟨zl_mem.mpr ⟨w, h1, h2⟩, ?_⟩))
    rw [h2, zv_cat]
    simp [hqi]
def zQ (sh : zSh) (D : va_G) (g : zG) (A : Nat → Prop) (Q : Option zV → zM → Prop) : Array Value → State → Outcome → State → Prop := fun _ st oc t =>
  (∃ (r : Option zV) (h' : zM), oc = .returned (r.map (zv g.1)) ∧ Q r h' ∧ va_P D vwCl (zw sh g h') t.heap ∧ va_D A (zw sh g h') ∧ ∀ c : Nat, h'.1 ≤ c → g.1 (c : Int) = t.heap.size + (c - h'.1)) ∧ va_F A st t
def zJ (sh : zSh) (l : Launch) (y : MethodName) (cc : ByteArray) (nL : Nat) (ret : Option FieldType) (R : Room) (mc ms : Nat) (Q : Option zV → zM → Prop) (u1 u2 pc : Nat) (L : List (Option zV)) (st : List zV) (h : zM) : Prop :=
  ∀ (D : va_G) (g : zG) (p : Program) (e : Env) (s : State) (m : MethodId) (args : Array Value) (below : List Frame) (meth : Method) (c : Code) (A : Nat → Prop) (H : Heap) (locs : List Loc) (ls : Array Slot),
    zX y cc nL ret D g p s m args meth c A → zI sh D g A s.heap h H locs → zL g.1 nL L ls →
    W p l e R s m args below meth c H locs u1 u2 (MQ below (zQ sh D g A Q) args s mc ms A) (F0 m pc ls (st.map (zv g.1)))
def zT (sh : zSh) (l : Launch) (y : MethodName) (cc : ByteArray) (nL : Nat) (ret : Option FieldType) (rm : Room) (mc ms : Nat) (av : List zV) (h : zM) (Q : Option zV → zM → Prop) : Prop :=
  ∀ (D : va_G) (g : zG) (sz : Nat), Met l y (zws y cc nL ret) rm
    (fun v U => v = (av.map (zv g.1)).toArray ∧ U.heap.size = sz ∧ va_P D vwCl (zw sh g h) U.heap ∧ va_D (fun _ => True) (zw sh g h) ∧ (∀ c : Nat, h.1 ≤ c → g.1 (c : Int) = sz + (c - h.1)) ∧ va_K D vwCl (ztys g) U ∧ zStr g (va_A (zw sh g h) sz) U)
    (zQ sh D g (va_A (zw sh g h) sz) Q) mc ms (va_A (zw sh g h) sz)
def zd (cc : ByteArray) (pc : Nat) (i : Instr) (len n : Nat) : Prop := decode cc pc = .ok (i, len) ∧ pc + len = n
theorem zD_weak {A B : Nat → Prop} {ws : va_W} (h : va_D A ws) (hAB : ∀ q, A q → B q) : va_D B ws := h.weaken fun _ q _ => hAB q.1

section Z0
variable {p : Program} {l : Launch} {e : Env} {R : Room} {s : State} {m : MethodId} {args : Array Value} {below : List Frame} {meth : Method} {c : Code} {H : Heap} {locs : List Loc} {cells slots : Nat} {Q : State → Prop}
variable {cc : ByteArray} {pc : Nat} {ls : Array Slot} {rest : List Value} {D : va_G} {cl : List vw_C} {A : Nat → Prop} {a : Nat} {tys : List (ClassId × FieldType)} {ws : va_W} {H0 : Heap}
/-- a field is written; the heap stays as long as it is -/
theorem z_put (hexec : p.tables.exec = Jvm.exec) (hb : c.code = cc) {own C : String} {T : u_T} {N ci index : Nat} {Ts : List Cond} (hts : ∀ w ∈ Ts, w.before args s = true) (hin : ∀ w ∈ u_ws C T N, w ∈ Ts) (ty0 : Nat → FieldType) (hty : ∀ k, k < N → parseFieldDescriptor (T k).2.2.1 = some (ty0 k)) (hnm : ∀ a, a < N → ∀ b, b < N → a ≠ b → (T a).2.1 ≠ (T b).2.1) (hown : s.vm.findClass own = some m.cls) (hK : va_K D cl tys s) (hP : va_P D cl ws H) (hD : va_D A ws) (hS0 : va_S A H0 H locs) (q0 : Nat) {fs : List Value} (he : ws[q0]? = some (a, .inr (ci, fs))) (hc : cl[ci]? = some (C, T, N)) (k : Nat) (hk : k < N) (hlink : (Cond.fieldLink own index (T k).1 (T k).2.1 (T k).2.2.1).before args s = true) (hsame : ∀ x, s.fieldFound? (T k).1 (T k).2.1 (T k).2.2.1 = some x → s.fieldFound? (T k).1 (T k).2.1 (T k).2.2.1 = some x) (hfin : (T k).2.2.2 = false ∨ ((T k).2.2.2 = true ∧ meth.name = "<init>" ∧ (T k).1 = own)) {ty : FieldType} {v : Value} (hd : parseFieldDescriptor (T k).2.2.1 = some ty) (hn : narrow ty v = v) (hfit : fits ty v = true) (hl : k < fs.length)
    (hdg : decode cc pc = .ok (.putfield index, 3)) (kk : ∀ (H1 : Heap) (locs1 : List Loc), va_P D cl (ws.set q0 (a, .inr (ci, fs.set k v))) H1 → va_D A (ws.set q0 (a, .inr (ci, fs.set k v))) → va_S A H0 H1 locs1 → H1.size = H.size → W p l e R s m args below meth c H1 locs1 cells slots Q (F0 m (pc + 3) ls rest)) : W p l e R s m args below meth c H locs cells slots Q (F0 m pc ls (v :: .ref a :: rest)) := by
  have hap := va_apart (own := own) hts hin ty0 hty hnm hK hc
  obtain ⟨r, h1, cell, q1, q2, q3, q4⟩ := hP q0 _ he
  have hr : r = (C, T, N) := Option.some.inj (h1.symm.trans hc)
  subst hr
  obtain ⟨hS, hfc, kC, hkC, hkind⟩ := hK.1 ci _ hc
  obtain ⟨cf, kf, fi, f, hi, hsl⟩ := hS k hk
  have hlay := hts _ (hin _ (u_in_lay hk))
  have hst := (u_facts hfc hkC (u_lays hts hin hk) hi).1
  have go : ∀ (H' : Heap) (i : Nat), i = D.2 ci k → H'[a]? = some (cell.setSlot i v) → H'.size = H.size → (∀ q, q ≠ a → H'[q]? = H[q]?) → W p l e R s m args below meth c H' (locs ++ [⟨a, i⟩]) cells slots Q (F0 m (pc + 3) ls rest) := by
    intro H' i hi e1 e2 e3
    subst hi
    exact kk H' _ (hP.set hD he ⟨_, hc, t_OB.to (V := updV (vp_V fs) k v) ⟨_, e1, q2, q3, t_set q4 hap hk v⟩ (fun j _ => vp_updV_set hl v j)⟩ e3) (hD.set he) (hS0.put e2 e3 (hD.2 q0 _ he)) e2
  rcases hfin with hf | ⟨hf, hin2, hdecl⟩
  · unfold u_lay at hlay
    rw [if_neg (by rw [hf]; decide)] at hlay
    have h6 := u_store hfc hkC hkind hlay hi hd hn hfit
    exact W.putK hexec hb (f := f) ⟨hown, hlink, ⟨_, _, _, hsame _ hi⟩, hst⟩ (by rw [q2]; exact h6) q1 q3 (by rw [hsl]; exact k2_hasslot (q4 k hk)) rfl rfl hdg fun H' e1 e2 e3 => go H' f.slot hsl e1 e2 e3
  · unfold u_lay at hlay
    rw [if_pos hf] at hlay
    have hcf : m.cls = cf := by
      obtain ⟨_, _, c', _, _, _, -, -, hf', -, -, -, hown2, -⟩ := Cond.laysFinal_spec hlay
      have e1 : c' = cf := by have := hi.symm.trans hf'; simp at this; exact this.1.symm
      rw [hdecl] at hown2
      rw [← e1]; exact Option.some.inj (hown.symm.trans hown2)
    have h6 := u_fits hfc hkC hkind (Or.inr hlay) hi hd hn hfit
    exact W.putFinK hexec hb hown hlink (hsame _ hi) hst hcf hin2 (by rw [q2]; exact h6) q1 q3 (by rw [hsl]; exact k2_hasslot (q4 k hk)) rfl rfl hdg fun H' e1 e2 e3 => go H' f.slot hsl e1 e2 e3
theorem z_iast (hexec : p.tables.exec = Jvm.exec) (hb : c.code = cc) (hK : va_K D cl tys s) (hP : va_P D cl ws H) (hD : va_D A ws) (hS : va_S A H0 H locs) (q0 t0 : Nat) {cA : ClassId} {n : Nat} {f : Nat → Int32} (ha : ws[q0]? = some (a, .inl (cA, n, .inl f))) (ht : tys[t0]? = some (cA, .int)) {i : Int32} {x : Int32} (hin : vp_in i n) (hdg : decode cc pc = .ok (.iastore, 1))
    (kk : ∀ (H1 : Heap) (locs1 : List Loc), va_P D cl (ws.set q0 (a, .inl (cA, n, .inl (upd f i.toNatClampNeg x)))) H1 → va_D A (ws.set q0 (a, .inl (cA, n, .inl (upd f i.toNatClampNeg x)))) → va_S A H0 H1 locs1 → H1.size = H.size → W p l e R s m args below meth c H1 locs1 cells slots Q (F0 m (pc + 1) ls rest)) : W p l e R s m args below meth c H locs cells slots Q (F0 m pc ls (.int x :: .int i :: .ref a :: rest)) := by
  refine W.iast hexec hb (hP q0 _ ha) ((hK.2 t0 _ ht).1 n (fun j => .int (f j))) (fun q => by cases q) (by show ¬ (i < 0 ∨ (arrV _ _ _).slots.size ≤ _); rw [arrV_size]; exact hin) rfl rfl hdg fun H1 e z oq => ?_
  refine kk H1 _ (hP.set hD ha ?_ oq) (hD.set ha) (hS.put z oq (hD.2 q0 _ ha)) z
  show H1[a]? = some (vp_cell _ _)
  rw [e]
  rw [vp_cell_i, vp_cell_i, arrV_store]
  congr 2
  funext q
  by_cases hq : q = i.toNatClampNeg
  · subst hq
    simp [updV, upd]
  · simp [updV, upd, hq]
theorem z_zast (hexec : p.tables.exec = Jvm.exec) (hb : c.code = cc) (hK : va_K D cl tys s) (hP : va_P D cl ws H) (hD : va_D A ws) (hS : va_S A H0 H locs) (q0 t0 : Nat) {cA : ClassId} {n : Nat} {f : Nat → Int32} (ha : ws[q0]? = some (a, .inl (cA, n, .inl f))) (ht : tys[t0]? = some (cA, .boolean)) {i : Int32} {x : Int32} (hin : vp_in i n) (hdg : decode cc pc = .ok (.bastore, 1))
    (kk : ∀ (H1 : Heap) (locs1 : List Loc), va_P D cl (ws.set q0 (a, .inl (cA, n, .inl (upd f i.toNatClampNeg (vp_nar .boolean x))))) H1 → va_D A (ws.set q0 (a, .inl (cA, n, .inl (upd f i.toNatClampNeg (vp_nar .boolean x))))) → va_S A H0 H1 locs1 → H1.size = H.size → W p l e R s m args below meth c H1 locs1 cells slots Q (F0 m (pc + 1) ls rest)) : W p l e R s m args below meth c H locs cells slots Q (F0 m pc ls (.int x :: .int i :: .ref a :: rest)) := by
  refine W.zast hexec hb (hP q0 _ ha) ((hK.2 t0 _ ht).1 n (fun j => .int (f j))) (fun q => by cases q) (by show ¬ (i < 0 ∨ (arrV _ _ _).slots.size ≤ _); rw [arrV_size]; exact hin) rfl rfl hdg fun H1 e z oq => ?_
  refine kk H1 _ (hP.set hD ha ?_ oq) (hD.set ha) (hS.put z oq (hD.2 q0 _ ha)) z
  show H1[a]? = some (vp_cell _ _)
  rw [e]
  rw [vp_cell_i, vp_cell_i, arrV_store]
  congr 2
  funext q
  by_cases hq : q = i.toNatClampNeg
  · subst hq
    simp [updV, upd, vp_nar]
    try rfl
  · simp [updV, upd, hq]
end Z0

theorem zl_sl (ad : Int → Nat) (av : List zV) : lg_sl (av.map (zv ad)) = av.map fun v => Slot.val (zv ad v) := by
  induction av with
  | nil => rfl
  | cons v t ih =>
    have hc := zv_cat ad v
    unfold lg_sl at ih ⊢
    rw [List.map_cons, List.flatMap_cons, ih, hc]
    rfl
theorem z_metOf {l : Launch} {y : MethodName} {ws ws' : List Cond} {rm : Room} {Pc : Array Value → State → Prop} {Qc : Array Value → State → Outcome → State → Prop} {mc ms : Nat} {free : Addr → Prop} {cc : ByteArray} {maxL : Nat} {ret : Option FieldType}
    (hy : plainFor y = true) (hw : ws = Cond.code y cc maxL ret :: ws')
    (body : ∀ p e s m args below meth c s₁, BodyLoose p l y (headSpec ws rm) cc maxL ret e s m args below meth c s₁ → c.maxLocals = maxL → Pc args s →
      W p l e (headSpec ws rm).room s m args below meth c s.heap [] 0 0 (MQ below Qc args s mc ms free) (entryFrame m args maxL)) : Met l y ws rm Pc Qc mc ms free := by
  refine MetFree.of_bodySF (code := cc) (maxLocals := maxL) (ret := ret) hy ?_ ?_
  · intro args s m h hn
    obtain ⟨meth, c, h1, h2, h3, h4, h5, h6, -, -⟩ := Cond.code_spec hn (atoms_spec (ws := ws) h _ (by rw [hw]; exact List.mem_cons_self))
    exact ⟨meth, c, h1, h2, h3, h4, h5, h6⟩
  · intro p e s m args below meth c s₁ B hml hP _
    have hh0 : s₁.heap = s.heap := by rw [B.state]; rfl
    obtain ⟨t, a1, o, b1, b2, b3⟩ := body p e s m args below meth c s₁ B hml hP s₁ hh0 (Stand.of_body B)
    exact ⟨t, o, a1, b1, b2, ⟨b3.1, b3.2⟩⟩
theorem zT_of {sh : zSh} {l : Launch} {y : MethodName} {cc : ByteArray} {nL : Nat} {ret : Option FieldType} {rm : Room} {mc ms : Nat} {av : List zV} {h : zM} {Q : Option zV → zM → Prop} (hy : plainFor y = true) {L0 : List (Option zV)} (hL : av.map some ++ List.replicate (nL - av.length) none = L0) (hn : av.length ≤ nL)
    (k : zJ sh l y cc nL ret rm mc ms Q 0 0 0 L0 [] h) : zT sh l y cc nL ret rm mc ms av h Q := by
  intro D g sz
  refine z_metOf (cc := cc) (maxL := nL) (ret := ret) hy rfl ?_
  intro p e s m args below meth c s₁ B hml hv
  obtain ⟨rfl, hsz, hP, hD0, hg, hK, hZ⟩ := hv
  have hts := atoms_spec (ws := zws y cc nL ret) B.pre
  have hown : s.vm.findClass y.cls = some m.cls := findClass_of_methodNamed B.named
  have hnm : meth.name = y.name := (name_of_methodNamed B.named B.method).1
  subst hsz
  have hD := hD0.self (sz := s.heap.size)
  have hl := lv_entry (av.map (zv g.1)) (n := nL) (by rw [zl_sl]; simpa using hn)
  rw [lg_entry_eq]
  generalize hls : (lg_sl (av.map (zv g.1)) ++ List.replicate (nL - (lg_sl (av.map (zv g.1))).length) Slot.unset).toArray = ls at hl ⊢
  have hZL : zL g.1 nL L0 ls := by
    subst hL
    refine ⟨by simp; omega, hl.1, hl.2.1, fun q hq => ?_⟩
    obtain ⟨w, h1, h2⟩ := zl_mem.mp hq
    rw [← hls, h2]
    by_cases hq1 : q.1 < av.length
    · rw [List.getElem?_append_left (by simpa using hq1), List.getElem?_map, List.getElem?_eq_getElem hq1] at h1
      have h1 : some (some av[q.1]) = some (some w) := h1
      have hw : av[q.1] = w := Option.some.inj (Option.some.inj h1)
      rw [zl_sl, List.getElem?_toArray, List.getElem?_append_left (by simpa using hq1), List.getElem?_map, List.getElem?_eq_getElem hq1, hw]
      rfl
    · rw [List.getElem?_append_right (by simpa using hq1)] at h1
      have := List.mem_of_getElem? h1
      simp at this
  exact k D g p e s m _ below meth c _ s.heap [] ls ⟨B.exec, B.bytes, hml, B.returns, hown, fun w hw => hts w (List.mem_cons_of_mem _ hw), B.notSynchronized, hK, hnm, fun q hq => Or.inr hq, hZ⟩ ⟨hP, hD, va_S.rf, hg⟩ hZL

section ZJR
variable {sh : zSh} {l : Launch} {y : MethodName} {cc : ByteArray} {nL : Nat} {ret : Option FieldType} {R : Room} {mc ms : Nat} {Q : Option zV → zM → Prop} {u1 u2 pc n : Nat} {L : List (Option zV)} {st : List zV} {h : zM}
theorem zj_iconst {z : Int} (hd : zd cc pc (.iconst z) 1 n) (kk : zJ sh l y cc nL ret R mc ms Q u1 u2 n L (.inl z :: st) h) : zJ sh l y cc nL ret R mc ms Q u1 u2 pc L st h := by
  intro D g p e s m args below meth c A H locs ls X I Z
  have X0 := X
  obtain ⟨hx, hb, hml, hr, hown, hts, hlk, hK, hnm, hA, hZs⟩ := X0
  obtain ⟨hP, hD, hS, hg⟩ := id I
  refine lv_iconst hx hb hd.1 rfl ?_
  have K := kk D g p e s m args below meth c A H locs ls X I Z
  rw [← hd.2] at K
  exact K
theorem zj_bipush {z : Int} (hd : zd cc pc (.bipush z) 2 n) (hz : -128 ≤ z ∧ z ≤ 127) (kk : zJ sh l y cc nL ret R mc ms Q u1 u2 n L (.inl z :: st) h) : zJ sh l y cc nL ret R mc ms Q u1 u2 pc L st h := by
  intro D g p e s m args below meth c A H locs ls X I Z
  have X0 := X
  obtain ⟨hx, hb, hml, hr, hown, hts, hlk, hK, hnm, hA, hZs⟩ := X0
  obtain ⟨hP, hD, hS, hg⟩ := id I
  refine lv_bipush hx hb hd.1 (v := Int32.ofInt z) ?_ ?_
  · apply Int32.toInt_inj.mp
    rw [Int8.toInt_toInt32, Int8.toInt_ofInt_of_le (by omega) (by omega), Int32.toInt_ofInt_of_le (by omega) (by omega)]
  have K := kk D g p e s m args below meth c A H locs ls X I Z
  rw [← hd.2] at K
  exact K
theorem zj_sipush {z : Int} (hd : zd cc pc (.sipush z) 3 n) (hz : -32768 ≤ z ∧ z ≤ 32767) (kk : zJ sh l y cc nL ret R mc ms Q u1 u2 n L (.inl z :: st) h) : zJ sh l y cc nL ret R mc ms Q u1 u2 pc L st h := by
  intro D g p e s m args below meth c A H locs ls X I Z
  have X0 := X
  obtain ⟨hx, hb, hml, hr, hown, hts, hlk, hK, hnm, hA, hZs⟩ := X0
  obtain ⟨hP, hD, hS, hg⟩ := id I
  refine lv_sipush hx hb hd.1 (v := Int32.ofInt z) ?_ ?_
  · apply Int32.toInt_inj.mp
    rw [Int16.toInt_toInt32, Int16.toInt_ofInt_of_le (by omega) (by omega), Int32.toInt_ofInt_of_le (by omega) (by omega)]
  have K := kk D g p e s m args below meth c A H locs ls X I Z
  rw [← hd.2] at K
  exact K
theorem zj_ldc {z : Int} {i : Nat} (hd : zd cc pc (.ldc i) 2 n) (hw : Cond.constant y.cls i (Int32.ofInt z) ∈ zt) (kk : zJ sh l y cc nL ret R mc ms Q u1 u2 n L (.inl z :: st) h) : zJ sh l y cc nL ret R mc ms Q u1 u2 pc L st h := by
  intro D g p e s m args below meth c A H locs ls X I Z
  have X0 := X
  obtain ⟨hx, hb, hml, hr, hown, hts, hlk, hK, hnm, hA, hZs⟩ := X0
  obtain ⟨hP, hD, hS, hg⟩ := id I
  refine lv_ldc hx hb hown (hts _ hw) hd.1 ?_
  have K := kk D g p e s m args below meth c A H locs ls X I Z
  rw [← hd.2] at K
  exact K
theorem zj_ldc_w {z : Int} {i : Nat} (hd : zd cc pc (.ldc_w i) 3 n) (hw : Cond.constant y.cls i (Int32.ofInt z) ∈ zt) (kk : zJ sh l y cc nL ret R mc ms Q u1 u2 n L (.inl z :: st) h) : zJ sh l y cc nL ret R mc ms Q u1 u2 pc L st h := by
  intro D g p e s m args below meth c A H locs ls X I Z
  have X0 := X
  obtain ⟨hx, hb, hml, hr, hown, hts, hlk, hK, hnm, hA, hZs⟩ := X0
  obtain ⟨hP, hD, hS, hg⟩ := id I
  refine lv_ldcw hx hb hown (hts _ hw) hd.1 ?_
  have K := kk D g p e s m args below meth c A H locs ls X I Z
  rw [← hd.2] at K
  exact K
theorem zj_null  (hd : zd cc pc .aconst_null 1 n) (kk : zJ sh l y cc nL ret R mc ms Q u1 u2 n L (.inr (-1) :: st) h) : zJ sh l y cc nL ret R mc ms Q u1 u2 pc L st h := by
  intro D g p e s m args below meth c A H locs ls X I Z
  have X0 := X
  obtain ⟨hx, hb, hml, hr, hown, hts, hlk, hK, hnm, hA, hZs⟩ := X0
  obtain ⟨hP, hD, hS, hg⟩ := id I
  refine lv_null hx hb hd.1 ?_
  have K := kk D g p e s m args below meth c A H locs ls X I Z
  rw [← hd.2] at K
  exact K
theorem zj_iload_n {k : Fin 4} {x : Int} (hd : zd cc pc (.iload_n k) 1 n) (hl : L[k.val]? = some (some (.inl x))) (kk : zJ sh l y cc nL ret R mc ms Q u1 u2 n L (.inl x :: st) h) : zJ sh l y cc nL ret R mc ms Q u1 u2 pc L st h := by
  intro D g p e s m args below meth c A H locs ls X I Z
  have X0 := X
  obtain ⟨hx, hb, hml, hr, hown, hts, hlk, hK, hnm, hA, hZs⟩ := X0
  obtain ⟨hP, hD, hS, hg⟩ := id I
  refine lv_iload_n hx hb hd.1 rfl (zL_at Z hl) ?_
  have K := kk D g p e s m args below meth c A H locs ls X I Z
  rw [← hd.2] at K
  exact K
theorem zj_iload {k : Nat} {x : Int} (hd : zd cc pc (.iload k) 2 n) (hl : L[k]? = some (some (.inl x))) (kk : zJ sh l y cc nL ret R mc ms Q u1 u2 n L (.inl x :: st) h) : zJ sh l y cc nL ret R mc ms Q u1 u2 pc L st h := by
  intro D g p e s m args below meth c A H locs ls X I Z
  have X0 := X
  obtain ⟨hx, hb, hml, hr, hown, hts, hlk, hK, hnm, hA, hZs⟩ := X0
  obtain ⟨hP, hD, hS, hg⟩ := id I
  refine lv_iload hx hb hd.1 (zL_at Z hl) ?_
  have K := kk D g p e s m args below meth c A H locs ls X I Z
  rw [← hd.2] at K
  exact K
theorem zj_aload_n {k : Fin 4} {x : Int} (hd : zd cc pc (.aload_n k) 1 n) (hl : L[k.val]? = some (some (.inr x))) (hx1 : ¬ x = -1) (kk : zJ sh l y cc nL ret R mc ms Q u1 u2 n L (.inr x :: st) h) : zJ sh l y cc nL ret R mc ms Q u1 u2 pc L st h := by
  intro D g p e s m args below meth c A H locs ls X I Z
  have X0 := X
  obtain ⟨hx, hb, hml, hr, hown, hts, hlk, hK, hnm, hA, hZs⟩ := X0
  obtain ⟨hP, hD, hS, hg⟩ := id I
  have hq := zL_at Z hl
  rw [zv_ref _ hx1] at hq
  refine lv_aload_n hx hb hd.1 rfl hq ?_
  have K := kk D g p e s m args below meth c A H locs ls X I Z
  rw [← hd.2, List.map_cons, zv_ref _ hx1] at K
  exact K
theorem zj_aload {k : Nat} {x : Int} (hd : zd cc pc (.aload k) 2 n) (hl : L[k]? = some (some (.inr x))) (hx1 : ¬ x = -1) (kk : zJ sh l y cc nL ret R mc ms Q u1 u2 n L (.inr x :: st) h) : zJ sh l y cc nL ret R mc ms Q u1 u2 pc L st h := by
  intro D g p e s m args below meth c A H locs ls X I Z
  have X0 := X
  obtain ⟨hx, hb, hml, hr, hown, hts, hlk, hK, hnm, hA, hZs⟩ := X0
  obtain ⟨hP, hD, hS, hg⟩ := id I
  have hq := zL_at Z hl
  rw [zv_ref _ hx1] at hq
  refine lv_aload hx hb hd.1 hq ?_
  have K := kk D g p e s m args below meth c A H locs ls X I Z
  rw [← hd.2, List.map_cons, zv_ref _ hx1] at K
  exact K
theorem zj_istore_n {k : Fin 4} {x : Int} {L' : List (Option zV)} (hd : zd cc pc (.istore_n k) 1 n) (hi : k.val < nL) (hL : L.set k.val (some (.inl x)) = L') (kk : zJ sh l y cc nL ret R mc ms Q u1 u2 n L' st h) : zJ sh l y cc nL ret R mc ms Q u1 u2 pc L (.inl x :: st) h := by
  intro D g p e s m args below meth c A H locs ls X I Z
  have X0 := X
  obtain ⟨hx, hb, hml, hr, hown, hts, hlk, hK, hnm, hA, hZs⟩ := X0
  obtain ⟨hP, hD, hS, hg⟩ := id I
  refine lv_istore_n hx hb hd.1 rfl Z.2 hi rfl fun ls' hl' => ?_
  have K := kk D g p e s m args below meth c A H locs ls' X I (zL_set Z hi hL hl')
  rw [← hd.2] at K
  exact K
theorem zj_istore {k : Nat} {x : Int} {L' : List (Option zV)} (hd : zd cc pc (.istore k) 2 n) (hi : k < nL) (hL : L.set k (some (.inl x)) = L') (kk : zJ sh l y cc nL ret R mc ms Q u1 u2 n L' st h) : zJ sh l y cc nL ret R mc ms Q u1 u2 pc L (.inl x :: st) h := by
  intro D g p e s m args below meth c A H locs ls X I Z
  have X0 := X
  obtain ⟨hx, hb, hml, hr, hown, hts, hlk, hK, hnm, hA, hZs⟩ := X0
  obtain ⟨hP, hD, hS, hg⟩ := id I
  refine lv_istore hx hb hd.1 Z.2 hi rfl fun ls' hl' => ?_
  have K := kk D g p e s m args below meth c A H locs ls' X I (zL_set Z hi hL hl')
  rw [← hd.2] at K
  exact K
theorem zj_astore_n {k : Fin 4} {x : Int} {L' : List (Option zV)} (hd : zd cc pc (.astore_n k) 1 n) (hx1 : ¬ x = -1) (hi : k.val < nL) (hL : L.set k.val (some (.inr x)) = L') (kk : zJ sh l y cc nL ret R mc ms Q u1 u2 n L' st h) : zJ sh l y cc nL ret R mc ms Q u1 u2 pc L (.inr x :: st) h := by
  intro D g p e s m args below meth c A H locs ls X I Z
  have X0 := X
  obtain ⟨hx, hb, hml, hr, hown, hts, hlk, hK, hnm, hA, hZs⟩ := X0
  obtain ⟨hP, hD, hS, hg⟩ := id I
  rw [List.map_cons, zv_ref _ hx1]
  refine lv_astore_n hx hb hd.1 rfl Z.2 hi rfl fun ls' hl' => ?_
  have K := kk D g p e s m args below meth c A H locs ls' X I (zL_set Z hi hL (by rw [zv_ref _ hx1]; exact hl'))
  rw [← hd.2] at K
  exact K
theorem zj_astore {k : Nat} {x : Int} {L' : List (Option zV)} (hd : zd cc pc (.astore k) 2 n) (hx1 : ¬ x = -1) (hi : k < nL) (hL : L.set k (some (.inr x)) = L') (kk : zJ sh l y cc nL ret R mc ms Q u1 u2 n L' st h) : zJ sh l y cc nL ret R mc ms Q u1 u2 pc L (.inr x :: st) h := by
  intro D g p e s m args below meth c A H locs ls X I Z
  have X0 := X
  obtain ⟨hx, hb, hml, hr, hown, hts, hlk, hK, hnm, hA, hZs⟩ := X0
  obtain ⟨hP, hD, hS, hg⟩ := id I
  rw [List.map_cons, zv_ref _ hx1]
  refine lv_astore hx hb hd.1 Z.2 hi rfl fun ls' hl' => ?_
  have K := kk D g p e s m args below meth c A H locs ls' X I (zL_set Z hi hL (by rw [zv_ref _ hx1]; exact hl'))
  rw [← hd.2] at K
  exact K
theorem zj_iinc {k : Nat} {x d : Int} {L' : List (Option zV)} (hd : zd cc pc (.iinc k d) 3 n) (hl : L[k]? = some (some (.inl x))) (hi : k < nL) (hL : L.set k (some (.inl (x + d))) = L') (kk : zJ sh l y cc nL ret R mc ms Q u1 u2 n L' st h) : zJ sh l y cc nL ret R mc ms Q u1 u2 pc L st h := by
  intro D g p e s m args below meth c A H locs ls X I Z
  have X0 := X
  obtain ⟨hx, hb, hml, hr, hown, hts, hlk, hK, hnm, hA, hZs⟩ := X0
  obtain ⟨hP, hD, hS, hg⟩ := id I
  obtain ⟨j, hj⟩ := List.getElem?_of_mem (zl_mem (q := (k, zv g.1 (.inl x))).mpr ⟨_, hl, rfl⟩)
  refine lv_iinc (v := Int32.ofInt (x + d)) hx hb hd.1 Z.2 hj (Int32.ofInt_add x d).symm hi rfl fun ls' hl' => ?_
  have K := kk D g p e s m args below meth c A H locs ls' X I (zL_set Z hi hL hl')
  rw [← hd.2] at K
  exact K
theorem zj_dup {v : zV} (hd : zd cc pc .dup 1 n) (kk : zJ sh l y cc nL ret R mc ms Q u1 u2 n L (v :: v :: st) h) : zJ sh l y cc nL ret R mc ms Q u1 u2 pc L (v :: st) h := by
  intro D g p e s m args below meth c A H locs ls X I Z
  have X0 := X
  obtain ⟨hx, hb, hml, hr, hown, hts, hlk, hK, hnm, hA, hZs⟩ := X0
  obtain ⟨hP, hD, hS, hg⟩ := id I
  refine lv_dup hx hb hd.1 (zv_cat _ _) ?_
  have K := kk D g p e s m args below meth c A H locs ls X I Z
  rw [← hd.2] at K
  exact K
theorem zj_pop {v : zV} (hd : zd cc pc .pop 1 n) (kk : zJ sh l y cc nL ret R mc ms Q u1 u2 n L st h) : zJ sh l y cc nL ret R mc ms Q u1 u2 pc L (v :: st) h := by
  intro D g p e s m args below meth c A H locs ls X I Z
  have X0 := X
  obtain ⟨hx, hb, hml, hr, hown, hts, hlk, hK, hnm, hA, hZs⟩ := X0
  obtain ⟨hP, hD, hS, hg⟩ := id I
  refine lv_pop hx hb hd.1 (zv_cat _ _) ?_
  have K := kk D g p e s m args below meth c A H locs ls X I Z
  rw [← hd.2] at K
  exact K
theorem zj_dup_x1 {v w : zV} (hd : zd cc pc .dup_x1 1 n) (kk : zJ sh l y cc nL ret R mc ms Q u1 u2 n L (v :: w :: v :: st) h) : zJ sh l y cc nL ret R mc ms Q u1 u2 pc L (v :: w :: st) h := by
  intro D g p e s m args below meth c A H locs ls X I Z
  have X0 := X
  obtain ⟨hx, hb, hml, hr, hown, hts, hlk, hK, hnm, hA, hZs⟩ := X0
  obtain ⟨hP, hD, hS, hg⟩ := id I
  refine lv_dup_x1 hx hb hd.1 (zv_cat _ _) (zv_cat _ _) ?_
  have K := kk D g p e s m args below meth c A H locs ls X I Z
  rw [← hd.2] at K
  exact K
theorem zj_dup_x2 {v w x : zV} (hd : zd cc pc .dup_x2 1 n) (kk : zJ sh l y cc nL ret R mc ms Q u1 u2 n L (v :: w :: x :: v :: st) h) : zJ sh l y cc nL ret R mc ms Q u1 u2 pc L (v :: w :: x :: st) h := by
  intro D g p e s m args below meth c A H locs ls X I Z
  have X0 := X
  obtain ⟨hx, hb, hml, hr, hown, hts, hlk, hK, hnm, hA, hZs⟩ := X0
  obtain ⟨hP, hD, hS, hg⟩ := id I
  refine lv_dup_x2 hx hb hd.1 (zv_cat _ _) (zv_cat _ _) (zv_cat _ _) ?_
  have K := kk D g p e s m args below meth c A H locs ls X I Z
  rw [← hd.2] at K
  exact K
theorem zj_dup2 {v w : zV} (hd : zd cc pc .dup2 1 n) (kk : zJ sh l y cc nL ret R mc ms Q u1 u2 n L (v :: w :: v :: w :: st) h) : zJ sh l y cc nL ret R mc ms Q u1 u2 pc L (v :: w :: st) h := by
  intro D g p e s m args below meth c A H locs ls X I Z
  have X0 := X
  obtain ⟨hx, hb, hml, hr, hown, hts, hlk, hK, hnm, hA, hZs⟩ := X0
  obtain ⟨hP, hD, hS, hg⟩ := id I
  refine lv_dup2_11 hx hb hd.1 (zv_cat _ _) (zv_cat _ _) ?_
  have K := kk D g p e s m args below meth c A H locs ls X I Z
  rw [← hd.2] at K
  exact K
theorem zj_iadd {a b : Int} (hd : zd cc pc .iadd 1 n) (kk : zJ sh l y cc nL ret R mc ms Q u1 u2 n L (.inl (a + b) :: st) h) : zJ sh l y cc nL ret R mc ms Q u1 u2 pc L (.inl b :: .inl a :: st) h := by
  intro D g p e s m args below meth c A H locs ls X I Z
  have X0 := X
  obtain ⟨hx, hb, hml, hr, hown, hts, hlk, hK, hnm, hA, hZs⟩ := X0
  obtain ⟨hP, hD, hS, hg⟩ := id I
  refine lv_iadd hx hb hd.1 ?_
  rw [← Int32.ofInt_add a b]
  have K := kk D g p e s m args below meth c A H locs ls X I Z
  rw [← hd.2] at K
  exact K
theorem zj_isub {a b : Int} (hd : zd cc pc .isub 1 n) (kk : zJ sh l y cc nL ret R mc ms Q u1 u2 n L (.inl (a - b) :: st) h) : zJ sh l y cc nL ret R mc ms Q u1 u2 pc L (.inl b :: .inl a :: st) h := by
  intro D g p e s m args below meth c A H locs ls X I Z
  have X0 := X
  obtain ⟨hx, hb, hml, hr, hown, hts, hlk, hK, hnm, hA, hZs⟩ := X0
  obtain ⟨hP, hD, hS, hg⟩ := id I
  refine lv_isub hx hb hd.1 ?_
  rw [← Int32.ofInt_sub a b]
  have K := kk D g p e s m args below meth c A H locs ls X I Z
  rw [← hd.2] at K
  exact K
theorem zj_imul {a b : Int} (hd : zd cc pc .imul 1 n) (kk : zJ sh l y cc nL ret R mc ms Q u1 u2 n L (.inl (a * b) :: st) h) : zJ sh l y cc nL ret R mc ms Q u1 u2 pc L (.inl b :: .inl a :: st) h := by
  intro D g p e s m args below meth c A H locs ls X I Z
  have X0 := X
  obtain ⟨hx, hb, hml, hr, hown, hts, hlk, hK, hnm, hA, hZs⟩ := X0
  obtain ⟨hP, hD, hS, hg⟩ := id I
  refine lv_imul hx hb hd.1 ?_
  rw [← Int32.ofInt_mul a b]
  have K := kk D g p e s m args below meth c A H locs ls X I Z
  rw [← hd.2] at K
  exact K
theorem zj_ineg {a : Int} (hd : zd cc pc .ineg 1 n) (kk : zJ sh l y cc nL ret R mc ms Q u1 u2 n L (.inl (-a) :: st) h) : zJ sh l y cc nL ret R mc ms Q u1 u2 pc L (.inl a :: st) h := by
  intro D g p e s m args below meth c A H locs ls X I Z
  have X0 := X
  obtain ⟨hx, hb, hml, hr, hown, hts, hlk, hK, hnm, hA, hZs⟩ := X0
  obtain ⟨hP, hD, hS, hg⟩ := id I
  refine lv_ineg hx hb hd.1 ?_
  rw [← Int32.ofInt_neg a]
  have K := kk D g p e s m args below meth c A H locs ls X I Z
  rw [← hd.2] at K
  exact K
theorem zin_i {a : Int} (h : zin a) : (Int32.ofInt a).toInt = a := Int32.toInt_ofInt_of_le (by omega) (by omega)
theorem zin_inj {a b : Int} (ha : zin a) (hb : zin b) : Int32.ofInt a = Int32.ofInt b ↔ a = b := ⟨fun e => by rw [← zin_i ha, ← zin_i hb, e], fun e => by rw [e]⟩
theorem zin_lt {a b : Int} (ha : zin a) (hb : zin b) : Int32.ofInt a < Int32.ofInt b ↔ a < b := by rw [Int32.lt_iff_toInt_lt, zin_i ha, zin_i hb]
theorem zin_le {a b : Int} (ha : zin a) (hb : zin b) : Int32.ofInt a ≤ Int32.ofInt b ↔ a ≤ b := by rw [Int32.le_iff_toInt_le, zin_i ha, zin_i hb]
theorem zin_0 : zin 0 := by decide
theorem zi_div {a b : Int} (ha : zin a) (hb : zin b) : Int32.ofInt a / Int32.ofInt b = Int32.ofInt (a.tdiv b) := (Int32.ofInt_tdiv ha.1 ha.2 hb.1 hb.2).symm
theorem zi_rem {a b : Int} (ha : zin a) (hb : zin b) : Int32.ofInt a - Int32.ofInt a / Int32.ofInt b * Int32.ofInt b = Int32.ofInt (a.tmod b) := by
  rw [zi_div ha hb, ← Int32.ofInt_mul, ← Int32.ofInt_sub]
  congr 1
  have := Int.mul_tdiv_add_tmod a b
  rw [Int.mul_comm] at this
  omega
theorem zj_idiv {a b : Int} (hd : zd cc pc .idiv 1 n) (ha : zin a) (hb2 : zin b) (h0 : ¬ b = 0) (kk : zJ sh l y cc nL ret R mc ms Q u1 u2 n L (.inl (a.tdiv b) :: st) h) : zJ sh l y cc nL ret R mc ms Q u1 u2 pc L (.inl b :: .inl a :: st) h := by
  intro D g p e s m args below meth c A H locs ls X I Z
  have X0 := X
  obtain ⟨hx, hb, hml, hr, hown, hts, hlk, hK, hnm, hA, hZs⟩ := X0
  obtain ⟨hP, hD, hS, hg⟩ := id I
  refine lv_idiv hx hb hd.1 (fun e => h0 ((zin_inj hb2 zin_0).mp e)) ?_
  rw [zi_div ha hb2]
  have K := kk D g p e s m args below meth c A H locs ls X I Z
  rw [← hd.2] at K
  exact K
theorem zj_irem {a b : Int} (hd : zd cc pc .irem 1 n) (ha : zin a) (hb2 : zin b) (h0 : ¬ b = 0) (kk : zJ sh l y cc nL ret R mc ms Q u1 u2 n L (.inl (a.tmod b) :: st) h) : zJ sh l y cc nL ret R mc ms Q u1 u2 pc L (.inl b :: .inl a :: st) h := by
  intro D g p e s m args below meth c A H locs ls X I Z
  have X0 := X
  obtain ⟨hx, hb, hml, hr, hown, hts, hlk, hK, hnm, hA, hZs⟩ := X0
  obtain ⟨hP, hD, hS, hg⟩ := id I
  refine lv_irem hx hb hd.1 (fun e => h0 ((zin_inj hb2 zin_0).mp e)) ?_
  rw [zi_rem ha hb2]
  have K := kk D g p e s m args below meth c A H locs ls X I Z
  rw [← hd.2] at K
  exact K
theorem zj_idivP {a b : Int} (hd : zd cc pc .idiv 1 n) (ha : 0 ≤ a ∧ a ≤ 2147483647) (hb2 : 0 < b ∧ b ≤ 2147483647) (kk : zJ sh l y cc nL ret R mc ms Q u1 u2 n L (.inl (a / b) :: st) h) : zJ sh l y cc nL ret R mc ms Q u1 u2 pc L (.inl b :: .inl a :: st) h := by
  intro D g p e s m args below meth c A H locs ls X I Z
  have X0 := X
  obtain ⟨hx, hb, hml, hr, hown, hts, hlk, hK, hnm, hA, hZs⟩ := X0
  obtain ⟨hP, hD, hS, hg⟩ := id I
  refine lv_idiv hx hb hd.1 (fun e => absurd ((zin_inj (show zin b by omega) zin_0).mp e) (by omega)) ?_
  rw [zi_div (show zin a by omega) (show zin b by omega), Int.tdiv_eq_ediv_of_nonneg ha.1]
  have K := kk D g p e s m args below meth c A H locs ls X I Z
  rw [← hd.2] at K
  exact K
theorem zj_iremP {a b : Int} (hd : zd cc pc .irem 1 n) (ha : 0 ≤ a ∧ a ≤ 2147483647) (hb2 : 0 < b ∧ b ≤ 2147483647) (kk : zJ sh l y cc nL ret R mc ms Q u1 u2 n L (.inl (a % b) :: st) h) : zJ sh l y cc nL ret R mc ms Q u1 u2 pc L (.inl b :: .inl a :: st) h := by
  intro D g p e s m args below meth c A H locs ls X I Z
  have X0 := X
  obtain ⟨hx, hb, hml, hr, hown, hts, hlk, hK, hnm, hA, hZs⟩ := X0
  obtain ⟨hP, hD, hS, hg⟩ := id I
  refine lv_irem hx hb hd.1 (fun e => absurd ((zin_inj (show zin b by omega) zin_0).mp e) (by omega)) ?_
  rw [zi_rem (show zin a by omega) (show zin b by omega), Int.tmod_eq_emod_of_nonneg ha.1]
  have K := kk D g p e s m args below meth c A H locs ls X I Z
  rw [← hd.2] at K
  exact K
def zand_ (x y : Int32) : Int32 := x &&& y
def zand (a b : Int) : Int := (zand_ (Int32.ofInt a) (Int32.ofInt b)).toInt
theorem zand_in (a b : Int) : zin (zand a b) := by
  have h1 := Int32.toInt_lt (zand_ (Int32.ofInt a) (Int32.ofInt b))
  have h2 := Int32.le_toInt (zand_ (Int32.ofInt a) (Int32.ofInt b))
  unfold zand
  omega
def zor_ (x y : Int32) : Int32 := x ||| y
def zor (a b : Int) : Int := (zor_ (Int32.ofInt a) (Int32.ofInt b)).toInt
theorem zor_in (a b : Int) : zin (zor a b) := by
  have h1 := Int32.toInt_lt (zor_ (Int32.ofInt a) (Int32.ofInt b))
  have h2 := Int32.le_toInt (zor_ (Int32.ofInt a) (Int32.ofInt b))
  unfold zor
  omega
def zxor_ (x y : Int32) : Int32 := x ^^^ y
def zxor (a b : Int) : Int := (zxor_ (Int32.ofInt a) (Int32.ofInt b)).toInt
theorem zxor_in (a b : Int) : zin (zxor a b) := by
  have h1 := Int32.toInt_lt (zxor_ (Int32.ofInt a) (Int32.ofInt b))
  have h2 := Int32.le_toInt (zxor_ (Int32.ofInt a) (Int32.ofInt b))
  unfold zxor
  omega
def zshl_ (x y : Int32) : Int32 := x <<< (y &&& 31)
def zshl (a b : Int) : Int := (zshl_ (Int32.ofInt a) (Int32.ofInt b)).toInt
theorem zshl_in (a b : Int) : zin (zshl a b) := by
  have h1 := Int32.toInt_lt (zshl_ (Int32.ofInt a) (Int32.ofInt b))
  have h2 := Int32.le_toInt (zshl_ (Int32.ofInt a) (Int32.ofInt b))
  unfold zshl
  omega
def zshr_ (x y : Int32) : Int32 := x >>> (y &&& 31)
def zshr (a b : Int) : Int := (zshr_ (Int32.ofInt a) (Int32.ofInt b)).toInt
theorem zshr_in (a b : Int) : zin (zshr a b) := by
  have h1 := Int32.toInt_lt (zshr_ (Int32.ofInt a) (Int32.ofInt b))
  have h2 := Int32.le_toInt (zshr_ (Int32.ofInt a) (Int32.ofInt b))
  unfold zshr
  omega
def zushr_ (x y : Int32) : Int32 := (x.toUInt32 >>> (y.toUInt32 &&& Int32.toUInt32 31)).toInt32
def zushr (a b : Int) : Int := (zushr_ (Int32.ofInt a) (Int32.ofInt b)).toInt
theorem zushr_in (a b : Int) : zin (zushr a b) := by
  have h1 := Int32.toInt_lt (zushr_ (Int32.ofInt a) (Int32.ofInt b))
  have h2 := Int32.le_toInt (zushr_ (Int32.ofInt a) (Int32.ofInt b))
  unfold zushr
  omega
theorem zj_iand {a b : Int} (hd : zd cc pc .iand 1 n) (kk : zJ sh l y cc nL ret R mc ms Q u1 u2 n L (.inl (zand a b) :: st) h) : zJ sh l y cc nL ret R mc ms Q u1 u2 pc L (.inl b :: .inl a :: st) h := by
  intro D g p e s m args below meth c A H locs ls X I Z
  have X0 := X
  obtain ⟨hx, hb, hml, hr, hown, hts, hlk, hK, hnm, hA, hZs⟩ := X0
  obtain ⟨hP, hD, hS, hg⟩ := id I
  refine lv_iand hx hb hd.1 ?_
  have K := kk D g p e s m args below meth c A H locs ls X I Z
  rw [← hd.2, List.map_cons] at K
  simp only [zv, zand, zand_, Int32.ofInt_toInt] at K
  exact K
theorem zj_ior {a b : Int} (hd : zd cc pc .ior 1 n) (kk : zJ sh l y cc nL ret R mc ms Q u1 u2 n L (.inl (zor a b) :: st) h) : zJ sh l y cc nL ret R mc ms Q u1 u2 pc L (.inl b :: .inl a :: st) h := by
  intro D g p e s m args below meth c A H locs ls X I Z
  have X0 := X
  obtain ⟨hx, hb, hml, hr, hown, hts, hlk, hK, hnm, hA, hZs⟩ := X0
  obtain ⟨hP, hD, hS, hg⟩ := id I
  refine lv_ior hx hb hd.1 ?_
  have K := kk D g p e s m args below meth c A H locs ls X I Z
  rw [← hd.2, List.map_cons] at K
  simp only [zv, zor, zor_, Int32.ofInt_toInt] at K
  exact K
theorem zj_ixor {a b : Int} (hd : zd cc pc .ixor 1 n) (kk : zJ sh l y cc nL ret R mc ms Q u1 u2 n L (.inl (zxor a b) :: st) h) : zJ sh l y cc nL ret R mc ms Q u1 u2 pc L (.inl b :: .inl a :: st) h := by
  intro D g p e s m args below meth c A H locs ls X I Z
  have X0 := X
  obtain ⟨hx, hb, hml, hr, hown, hts, hlk, hK, hnm, hA, hZs⟩ := X0
  obtain ⟨hP, hD, hS, hg⟩ := id I
  refine lv_ixor hx hb hd.1 ?_
  have K := kk D g p e s m args below meth c A H locs ls X I Z
  rw [← hd.2, List.map_cons] at K
  simp only [zv, zxor, zxor_, Int32.ofInt_toInt] at K
  exact K
theorem zj_ishl {a b : Int} (hd : zd cc pc .ishl 1 n) (kk : zJ sh l y cc nL ret R mc ms Q u1 u2 n L (.inl (zshl a b) :: st) h) : zJ sh l y cc nL ret R mc ms Q u1 u2 pc L (.inl b :: .inl a :: st) h := by
  intro D g p e s m args below meth c A H locs ls X I Z
  have X0 := X
  obtain ⟨hx, hb, hml, hr, hown, hts, hlk, hK, hnm, hA, hZs⟩ := X0
  obtain ⟨hP, hD, hS, hg⟩ := id I
  refine lv_ishl hx hb hd.1 ?_
  have K := kk D g p e s m args below meth c A H locs ls X I Z
  rw [← hd.2, List.map_cons] at K
  simp only [zv, zshl, zshl_, Int32.ofInt_toInt] at K
  exact K
theorem zj_ishr {a b : Int} (hd : zd cc pc .ishr 1 n) (kk : zJ sh l y cc nL ret R mc ms Q u1 u2 n L (.inl (zshr a b) :: st) h) : zJ sh l y cc nL ret R mc ms Q u1 u2 pc L (.inl b :: .inl a :: st) h := by
  intro D g p e s m args below meth c A H locs ls X I Z
  have X0 := X
  obtain ⟨hx, hb, hml, hr, hown, hts, hlk, hK, hnm, hA, hZs⟩ := X0
  obtain ⟨hP, hD, hS, hg⟩ := id I
  refine lv_ishr hx hb hd.1 ?_
  have K := kk D g p e s m args below meth c A H locs ls X I Z
  rw [← hd.2, List.map_cons] at K
  simp only [zv, zshr, zshr_, Int32.ofInt_toInt] at K
  exact K
theorem zj_iushr {a b : Int} (hd : zd cc pc .iushr 1 n) (kk : zJ sh l y cc nL ret R mc ms Q u1 u2 n L (.inl (zushr a b) :: st) h) : zJ sh l y cc nL ret R mc ms Q u1 u2 pc L (.inl b :: .inl a :: st) h := by
  intro D g p e s m args below meth c A H locs ls X I Z
  have X0 := X
  obtain ⟨hx, hb, hml, hr, hown, hts, hlk, hK, hnm, hA, hZs⟩ := X0
  obtain ⟨hP, hD, hS, hg⟩ := id I
  refine lv_iushr hx hb hd.1 (v := Int32.ofInt (zushr a b)) ?_ ?_
  · simp only [zushr, zushr_, Int32.ofInt_toInt]
  have K := kk D g p e s m args below meth c A H locs ls X I Z
  rw [← hd.2] at K
  exact K
theorem zj_i2c {a : Int} (hd : zd cc pc .i2c 1 n) (ha : 0 ≤ a ∧ a ≤ 65535) (kk : zJ sh l y cc nL ret R mc ms Q u1 u2 n L (.inl a :: st) h) : zJ sh l y cc nL ret R mc ms Q u1 u2 pc L (.inl a :: st) h := by
  intro D g p e s m args below meth c A H locs ls X I Z
  have X0 := X
  obtain ⟨hx, hb, hml, hr, hown, hts, hlk, hK, hnm, hA, hZs⟩ := X0
  obtain ⟨hP, hD, hS, hg⟩ := id I
  refine lv_i2c hx hb hd.1 (v := Int32.ofInt a) ?_ ?_
  · obtain ⟨k, rfl⟩ : ∃ k : Nat, a = k := ⟨a.toNat, by omega⟩
    have h2 := (pk_charN (q := k) (by omega)).1
    rw [Int32.ofInt_eq_ofNat]
    have h3 := pk_char (nI k)
    rw [pk_tn (by omega), Nat.mod_eq_of_lt (by omega)] at h3
    exact h3
  have K := kk D g p e s m args below meth c A H locs ls X I Z
  rw [← hd.2] at K
  exact K
theorem zj_top {a b : Int} (e : Int32.ofInt a = Int32.ofInt b) (kk : zJ sh l y cc nL ret R mc ms Q u1 u2 pc L (.inl b :: st) h) : zJ sh l y cc nL ret R mc ms Q u1 u2 pc L (.inl a :: st) h := by
  intro D g p e1 s m args below meth c A H locs ls X I Z
  have K := kk D g p e1 s m args below meth c A H locs ls X I Z
  have e2 : zv g.1 (.inl a) = zv g.1 (.inl b) := congrArg Value.int e
  rw [List.map_cons, e2, ← List.map_cons]
  exact K
def zwp (a : Int) : Int := (Int32.ofInt a).toInt
theorem zwp_in (a : Int) : zin (zwp a) := by
  have h1 := Int32.toInt_lt (Int32.ofInt a)
  have h2 := Int32.le_toInt (Int32.ofInt a)
  unfold zwp
  omega
theorem zj_wrapl {k : Nat} {a : Int} {L' : List (Option zV)} (hl : L[k]? = some (some (.inl a))) (hL : L.set k (some (.inl (zwp a))) = L') (kk : zJ sh l y cc nL ret R mc ms Q u1 u2 pc L' st h) : zJ sh l y cc nL ret R mc ms Q u1 u2 pc L st h := by
  intro D g p e s m args below meth c A H locs ls X I Z
  refine kk D g p e s m args below meth c A H locs ls X I ?_
  subst hL
  refine ⟨by rw [List.length_set]; exact Z.1, Z.2.1, Z.2.2.1, fun q hq => ?_⟩
  obtain ⟨w, h1, h2⟩ := zl_mem.mp hq
  by_cases hqk : q.1 = k
  · have hk : k < L.length := (List.getElem?_eq_some_iff.mp hl).1
    rw [hqk, List.getElem?_set_self hk] at h1
    have hw : (Sum.inl (zwp a) : zV) = w := Option.some.inj (Option.some.inj h1)
    have h3 := zL_at Z hl
    rw [hqk, h2, ← hw]
    show ls[k]? = some (.val (.int (Int32.ofInt (zwp a))))
    unfold zwp
    rw [Int32.ofInt_toInt]
    exact h3
  · rw [List.getElem?_set_ne (Ne.symm hqk)] at h1
    exact Z.2.2.2 q (zl_mem.mpr ⟨w, h1, h2⟩)
theorem zj_kill {k : Nat} {L' : List (Option zV)} (hL : L.set k none = L') (kk : zJ sh l y cc nL ret R mc ms Q u1 u2 pc L' st h) : zJ sh l y cc nL ret R mc ms Q u1 u2 pc L st h := by
  intro D g p e s m args below meth c A H locs ls X I Z
  refine kk D g p e s m args below meth c A H locs ls X I ?_
  subst hL
  refine ⟨by rw [List.length_set]; exact Z.1, Z.2.1, Z.2.2.1, fun q hq => ?_⟩
  obtain ⟨w, h1, h2⟩ := zl_mem.mp hq
  by_cases hqk : q.1 = k
  · rw [hqk] at h1
    by_cases hk : k < L.length
    · rw [List.getElem?_set_self hk] at h1; cases h1
    · rw [List.getElem?_eq_none (by rw [List.length_set]; omega)] at h1; cases h1
  · rw [List.getElem?_set_ne (Ne.symm hqk)] at h1
    exact Z.2.2.2 q (zl_mem.mpr ⟨w, h1, h2⟩)
theorem zwp_id {a : Int} (h : zin a) : zwp a = a := zin_i h
theorem zj_wrap {a : Int} (kk : zJ sh l y cc nL ret R mc ms Q u1 u2 pc L (.inl (zwp a) :: st) h) : zJ sh l y cc nL ret R mc ms Q u1 u2 pc L (.inl a :: st) h := zj_top (by unfold zwp; rw [Int32.ofInt_toInt]) kk
theorem zj_eq {L' : List (Option zV)} {st' : List zV} (e1 : L = L') (e2 : st = st') (kk : zJ sh l y cc nL ret R mc ms Q u1 u2 pc L' st' h) : zJ sh l y cc nL ret R mc ms Q u1 u2 pc L st h := by subst e1; subst e2; exact kk
theorem zj_name {a : Int} (kk : ∀ b, b = a → zJ sh l y cc nL ret R mc ms Q u1 u2 pc L (.inl b :: st) h) : zJ sh l y cc nL ret R mc ms Q u1 u2 pc L (.inl a :: st) h := kk a rfl
theorem zj_goto {off : Int} {t : Nat} (hd : zd cc pc (.goto off) 3 n) (ht : (pc : Int) + off = (t : Int)) (kk : zJ sh l y cc nL ret R mc ms Q u1 u2 t L st h) : zJ sh l y cc nL ret R mc ms Q u1 u2 pc L st h := by
  intro D g p e s m args below meth c A H locs ls X I Z
  have X0 := X
  obtain ⟨hx, hb, hml, hr, hown, hts, hlk, hK, hnm, hA, hZs⟩ := X0
  obtain ⟨hP, hD, hS, hg⟩ := id I
  exact lv_goto hx hb hd.1 ht (kk D g p e s m args below meth c A H locs ls X I Z)
theorem zj_icmp_eq {a b off : Int} {t : Nat} (hd : zd cc pc (.if_icmp .eq off) 3 n) (ht : (pc : Int) + off = (t : Int)) (ha : zin a) (hb2 : zin b) (kt : a = b → zJ sh l y cc nL ret R mc ms Q u1 u2 t L st h) (kf : ¬ a = b → zJ sh l y cc nL ret R mc ms Q u1 u2 n L st h) : zJ sh l y cc nL ret R mc ms Q u1 u2 pc L (.inl b :: .inl a :: st) h := by
  intro D g p e s m args below meth c A H locs ls X I Z
  have X0 := X
  obtain ⟨hx, hb, hml, hr, hown, hts, hlk, hK, hnm, hA, hZs⟩ := X0
  obtain ⟨hP, hD, hS, hg⟩ := id I
  refine lv_icmp_eq hx hb hd.1 ht (fun q => kt ((zin_inj ha hb2).mp q) D g p e s m args below meth c A H locs ls X I Z) (fun q => ?_)
  have K := kf (fun z => q ((zin_inj ha hb2).mpr z)) D g p e s m args below meth c A H locs ls X I Z
  rw [← hd.2] at K
  exact K
theorem zj_if_eq {a off : Int} {t : Nat} (hd : zd cc pc (.ifCond .eq off) 3 n) (ht : (pc : Int) + off = (t : Int)) (ha : zin a) (kt : a = 0 → zJ sh l y cc nL ret R mc ms Q u1 u2 t L st h) (kf : ¬ a = 0 → zJ sh l y cc nL ret R mc ms Q u1 u2 n L st h) : zJ sh l y cc nL ret R mc ms Q u1 u2 pc L (.inl a :: st) h := by
  intro D g p e s m args below meth c A H locs ls X I Z
  have X0 := X
  obtain ⟨hx, hb, hml, hr, hown, hts, hlk, hK, hnm, hA, hZs⟩ := X0
  obtain ⟨hP, hD, hS, hg⟩ := id I
  refine lv_if_eq hx hb hd.1 ht (fun q => kt ((zin_inj ha zin_0).mp q) D g p e s m args below meth c A H locs ls X I Z) (fun q => ?_)
  have K := kf (fun z => q ((zin_inj ha zin_0).mpr z)) D g p e s m args below meth c A H locs ls X I Z
  rw [← hd.2] at K
  exact K
theorem zj_icmp_ne {a b off : Int} {t : Nat} (hd : zd cc pc (.if_icmp .ne off) 3 n) (ht : (pc : Int) + off = (t : Int)) (ha : zin a) (hb2 : zin b) (kt : ¬ a = b → zJ sh l y cc nL ret R mc ms Q u1 u2 t L st h) (kf : a = b → zJ sh l y cc nL ret R mc ms Q u1 u2 n L st h) : zJ sh l y cc nL ret R mc ms Q u1 u2 pc L (.inl b :: .inl a :: st) h := by
  intro D g p e s m args below meth c A H locs ls X I Z
  have X0 := X
  obtain ⟨hx, hb, hml, hr, hown, hts, hlk, hK, hnm, hA, hZs⟩ := X0
  obtain ⟨hP, hD, hS, hg⟩ := id I
  refine lv_icmp_ne hx hb hd.1 ht (fun q => kt (fun z => q ((zin_inj ha hb2).mpr z)) D g p e s m args below meth c A H locs ls X I Z) (fun q => ?_)
  have K := kf ((zin_inj ha hb2).mp q) D g p e s m args below meth c A H locs ls X I Z
  rw [← hd.2] at K
  exact K
theorem zj_if_ne {a off : Int} {t : Nat} (hd : zd cc pc (.ifCond .ne off) 3 n) (ht : (pc : Int) + off = (t : Int)) (ha : zin a) (kt : ¬ a = 0 → zJ sh l y cc nL ret R mc ms Q u1 u2 t L st h) (kf : a = 0 → zJ sh l y cc nL ret R mc ms Q u1 u2 n L st h) : zJ sh l y cc nL ret R mc ms Q u1 u2 pc L (.inl a :: st) h := by
  intro D g p e s m args below meth c A H locs ls X I Z
  have X0 := X
  obtain ⟨hx, hb, hml, hr, hown, hts, hlk, hK, hnm, hA, hZs⟩ := X0
  obtain ⟨hP, hD, hS, hg⟩ := id I
  refine lv_if_ne hx hb hd.1 ht (fun q => kt (fun z => q ((zin_inj ha zin_0).mpr z)) D g p e s m args below meth c A H locs ls X I Z) (fun q => ?_)
  have K := kf ((zin_inj ha zin_0).mp q) D g p e s m args below meth c A H locs ls X I Z
  rw [← hd.2] at K
  exact K
theorem zj_icmp_lt {a b off : Int} {t : Nat} (hd : zd cc pc (.if_icmp .lt off) 3 n) (ht : (pc : Int) + off = (t : Int)) (ha : zin a) (hb2 : zin b) (kt : a < b → zJ sh l y cc nL ret R mc ms Q u1 u2 t L st h) (kf : ¬ a < b → zJ sh l y cc nL ret R mc ms Q u1 u2 n L st h) : zJ sh l y cc nL ret R mc ms Q u1 u2 pc L (.inl b :: .inl a :: st) h := by
  intro D g p e s m args below meth c A H locs ls X I Z
  have X0 := X
  obtain ⟨hx, hb, hml, hr, hown, hts, hlk, hK, hnm, hA, hZs⟩ := X0
  obtain ⟨hP, hD, hS, hg⟩ := id I
  refine lv_icmp_lt hx hb hd.1 ht (fun q => kt ((zin_lt ha hb2).mp q) D g p e s m args below meth c A H locs ls X I Z) (fun q => ?_)
  have K := kf (fun z => q ((zin_lt ha hb2).mpr z)) D g p e s m args below meth c A H locs ls X I Z
  rw [← hd.2] at K
  exact K
theorem zj_if_lt {a off : Int} {t : Nat} (hd : zd cc pc (.ifCond .lt off) 3 n) (ht : (pc : Int) + off = (t : Int)) (ha : zin a) (kt : a < 0 → zJ sh l y cc nL ret R mc ms Q u1 u2 t L st h) (kf : ¬ a < 0 → zJ sh l y cc nL ret R mc ms Q u1 u2 n L st h) : zJ sh l y cc nL ret R mc ms Q u1 u2 pc L (.inl a :: st) h := by
  intro D g p e s m args below meth c A H locs ls X I Z
  have X0 := X
  obtain ⟨hx, hb, hml, hr, hown, hts, hlk, hK, hnm, hA, hZs⟩ := X0
  obtain ⟨hP, hD, hS, hg⟩ := id I
  refine lv_if_lt hx hb hd.1 ht (fun q => kt ((zin_lt ha zin_0).mp q) D g p e s m args below meth c A H locs ls X I Z) (fun q => ?_)
  have K := kf (fun z => q ((zin_lt ha zin_0).mpr z)) D g p e s m args below meth c A H locs ls X I Z
  rw [← hd.2] at K
  exact K
theorem zj_icmp_ge {a b off : Int} {t : Nat} (hd : zd cc pc (.if_icmp .ge off) 3 n) (ht : (pc : Int) + off = (t : Int)) (ha : zin a) (hb2 : zin b) (kt : b ≤ a → zJ sh l y cc nL ret R mc ms Q u1 u2 t L st h) (kf : ¬ b ≤ a → zJ sh l y cc nL ret R mc ms Q u1 u2 n L st h) : zJ sh l y cc nL ret R mc ms Q u1 u2 pc L (.inl b :: .inl a :: st) h := by
  intro D g p e s m args below meth c A H locs ls X I Z
  have X0 := X
  obtain ⟨hx, hb, hml, hr, hown, hts, hlk, hK, hnm, hA, hZs⟩ := X0
  obtain ⟨hP, hD, hS, hg⟩ := id I
  refine lv_icmp_ge hx hb hd.1 ht (fun q => kt ((zin_le hb2 ha).mp q) D g p e s m args below meth c A H locs ls X I Z) (fun q => ?_)
  have K := kf (fun z => q ((zin_le hb2 ha).mpr z)) D g p e s m args below meth c A H locs ls X I Z
  rw [← hd.2] at K
  exact K
theorem zj_if_ge {a off : Int} {t : Nat} (hd : zd cc pc (.ifCond .ge off) 3 n) (ht : (pc : Int) + off = (t : Int)) (ha : zin a) (kt : 0 ≤ a → zJ sh l y cc nL ret R mc ms Q u1 u2 t L st h) (kf : ¬ 0 ≤ a → zJ sh l y cc nL ret R mc ms Q u1 u2 n L st h) : zJ sh l y cc nL ret R mc ms Q u1 u2 pc L (.inl a :: st) h := by
  intro D g p e s m args below meth c A H locs ls X I Z
  have X0 := X
  obtain ⟨hx, hb, hml, hr, hown, hts, hlk, hK, hnm, hA, hZs⟩ := X0
  obtain ⟨hP, hD, hS, hg⟩ := id I
  refine lv_if_ge hx hb hd.1 ht (fun q => kt ((zin_le zin_0 ha).mp q) D g p e s m args below meth c A H locs ls X I Z) (fun q => ?_)
  have K := kf (fun z => q ((zin_le zin_0 ha).mpr z)) D g p e s m args below meth c A H locs ls X I Z
  rw [← hd.2] at K
  exact K
theorem zj_icmp_gt {a b off : Int} {t : Nat} (hd : zd cc pc (.if_icmp .gt off) 3 n) (ht : (pc : Int) + off = (t : Int)) (ha : zin a) (hb2 : zin b) (kt : b < a → zJ sh l y cc nL ret R mc ms Q u1 u2 t L st h) (kf : ¬ b < a → zJ sh l y cc nL ret R mc ms Q u1 u2 n L st h) : zJ sh l y cc nL ret R mc ms Q u1 u2 pc L (.inl b :: .inl a :: st) h := by
  intro D g p e s m args below meth c A H locs ls X I Z
  have X0 := X
  obtain ⟨hx, hb, hml, hr, hown, hts, hlk, hK, hnm, hA, hZs⟩ := X0
  obtain ⟨hP, hD, hS, hg⟩ := id I
  refine lv_icmp_gt hx hb hd.1 ht (fun q => kt ((zin_lt hb2 ha).mp q) D g p e s m args below meth c A H locs ls X I Z) (fun q => ?_)
  have K := kf (fun z => q ((zin_lt hb2 ha).mpr z)) D g p e s m args below meth c A H locs ls X I Z
  rw [← hd.2] at K
  exact K
theorem zj_if_gt {a off : Int} {t : Nat} (hd : zd cc pc (.ifCond .gt off) 3 n) (ht : (pc : Int) + off = (t : Int)) (ha : zin a) (kt : 0 < a → zJ sh l y cc nL ret R mc ms Q u1 u2 t L st h) (kf : ¬ 0 < a → zJ sh l y cc nL ret R mc ms Q u1 u2 n L st h) : zJ sh l y cc nL ret R mc ms Q u1 u2 pc L (.inl a :: st) h := by
  intro D g p e s m args below meth c A H locs ls X I Z
  have X0 := X
  obtain ⟨hx, hb, hml, hr, hown, hts, hlk, hK, hnm, hA, hZs⟩ := X0
  obtain ⟨hP, hD, hS, hg⟩ := id I
  refine lv_if_gt hx hb hd.1 ht (fun q => kt ((zin_lt zin_0 ha).mp q) D g p e s m args below meth c A H locs ls X I Z) (fun q => ?_)
  have K := kf (fun z => q ((zin_lt zin_0 ha).mpr z)) D g p e s m args below meth c A H locs ls X I Z
  rw [← hd.2] at K
  exact K
theorem zj_icmp_le {a b off : Int} {t : Nat} (hd : zd cc pc (.if_icmp .le off) 3 n) (ht : (pc : Int) + off = (t : Int)) (ha : zin a) (hb2 : zin b) (kt : a ≤ b → zJ sh l y cc nL ret R mc ms Q u1 u2 t L st h) (kf : ¬ a ≤ b → zJ sh l y cc nL ret R mc ms Q u1 u2 n L st h) : zJ sh l y cc nL ret R mc ms Q u1 u2 pc L (.inl b :: .inl a :: st) h := by
  intro D g p e s m args below meth c A H locs ls X I Z
  have X0 := X
  obtain ⟨hx, hb, hml, hr, hown, hts, hlk, hK, hnm, hA, hZs⟩ := X0
  obtain ⟨hP, hD, hS, hg⟩ := id I
  refine lv_icmp_le hx hb hd.1 ht (fun q => kt ((zin_le ha hb2).mp q) D g p e s m args below meth c A H locs ls X I Z) (fun q => ?_)
  have K := kf (fun z => q ((zin_le ha hb2).mpr z)) D g p e s m args below meth c A H locs ls X I Z
  rw [← hd.2] at K
  exact K
theorem zj_if_le {a off : Int} {t : Nat} (hd : zd cc pc (.ifCond .le off) 3 n) (ht : (pc : Int) + off = (t : Int)) (ha : zin a) (kt : a ≤ 0 → zJ sh l y cc nL ret R mc ms Q u1 u2 t L st h) (kf : ¬ a ≤ 0 → zJ sh l y cc nL ret R mc ms Q u1 u2 n L st h) : zJ sh l y cc nL ret R mc ms Q u1 u2 pc L (.inl a :: st) h := by
  intro D g p e s m args below meth c A H locs ls X I Z
  have X0 := X
  obtain ⟨hx, hb, hml, hr, hown, hts, hlk, hK, hnm, hA, hZs⟩ := X0
  obtain ⟨hP, hD, hS, hg⟩ := id I
  refine lv_if_le hx hb hd.1 ht (fun q => kt ((zin_le ha zin_0).mp q) D g p e s m args below meth c A H locs ls X I Z) (fun q => ?_)
  have K := kf (fun z => q ((zin_le ha zin_0).mpr z)) D g p e s m args below meth c A H locs ls X I Z
  rw [← hd.2] at K
  exact K
theorem zj_ifnonnull {x off : Int} {t : Nat} (hd : zd cc pc (.ifnonnull off) 3 n) (ht : (pc : Int) + off = (t : Int)) (kt : ¬ x = -1 → zJ sh l y cc nL ret R mc ms Q u1 u2 t L st h) (kf : x = -1 → zJ sh l y cc nL ret R mc ms Q u1 u2 n L st h) : zJ sh l y cc nL ret R mc ms Q u1 u2 pc L (.inr x :: st) h := by
  intro D g p e s m args below meth c A H locs ls X I Z
  have X0 := X
  obtain ⟨hx, hb, hml, hr, hown, hts, hlk, hK, hnm, hA, hZs⟩ := X0
  obtain ⟨hP, hD, hS, hg⟩ := id I
  by_cases hx1 : x = -1
  · subst hx1
    refine lv_ifnonnullN hx hb hd.1 ?_
    have K := kf rfl D g p e s m args below meth c A H locs ls X I Z
    rw [← hd.2] at K
    exact K
  · rw [List.map_cons, zv_ref _ hx1]
    exact lv_ifnonnull hx hb hd.1 ht (kt hx1 D g p e s m args below meth c A H locs ls X I Z)
theorem zj_table {a dflt lo hi : Int} {offs : Array Int} {len : Nat} (hd : zd cc pc (.tableswitch dflt lo hi offs) len n) (ha : zin a) {t : Nat} (ht : (pc : Int) + dflt = (t : Int)) (ko : a < lo ∨ hi < a → zJ sh l y cc nL ret R mc ms Q u1 u2 t L st h) (ki : lo ≤ a → a ≤ hi → ∃ (off : Int) (t2 : Nat), offs[(a - lo).toNat]? = some off ∧ (pc : Int) + off = (t2 : Int) ∧ zJ sh l y cc nL ret R mc ms Q u1 u2 t2 L st h) : zJ sh l y cc nL ret R mc ms Q u1 u2 pc L (.inl a :: st) h := by
  intro D g p e s m args below meth c A H locs ls X I Z
  have X0 := X
  obtain ⟨hx, hb, hml, hr, hown, hts, hlk, hK, hnm, hA, hZs⟩ := X0
  obtain ⟨hP, hD, hS, hg⟩ := id I
  by_cases h1 : a < lo
  · exact lv_tableOut hx hb hd.1 (Or.inl (by rw [zin_i ha]; exact h1)) ht (ko (Or.inl h1) D g p e s m args below meth c A H locs ls X I Z)
  · by_cases h2 : hi < a
    · exact lv_tableOut hx hb hd.1 (Or.inr (by rw [zin_i ha]; exact h2)) ht (ko (Or.inr h2) D g p e s m args below meth c A H locs ls X I Z)
    · obtain ⟨off, t2, q1, q2, q3⟩ := ki (by omega) (by omega)
      exact lv_tableIn hx hb hd.1 (by rw [zin_i ha]; exact h1) (by rw [zin_i ha]; exact h2) (by rw [zin_i ha]; exact q1) q2 (q3 D g p e s m args below meth c A H locs ls X I Z)
theorem zj_lookup {a dflt : Int} {ps : Array (Int × Int)} {len : Nat} (hd : zd cc pc (.lookupswitch dflt ps) len n) (ha : zin a) (hp : (ps.toList.zip (ps.toList.drop 1)).all (fun (a, next) => a.1 < next.1) = true) {off : Int} {t : Nat} (ho : Op.lookupswitch.offset ps.toList dflt a = off) (ht : (pc : Int) + off = (t : Int)) (kk : zJ sh l y cc nL ret R mc ms Q u1 u2 t L st h) : zJ sh l y cc nL ret R mc ms Q u1 u2 pc L (.inl a :: st) h := by
  intro D g p e s m args below meth c A H locs ls X I Z
  have X0 := X
  obtain ⟨hx, hb, hml, hr, hown, hts, hlk, hK, hnm, hA, hZs⟩ := X0
  obtain ⟨hP, hD, hS, hg⟩ := id I
  exact lv_lookup hx hb hd.1 hp (by rw [zin_i ha]; exact ho) ht (kk D g p e s m args below meth c A H locs ls X I Z)
theorem zj_vret (hret : ret = none) (hd : zd cc pc .return_ 1 n) (h1 : u1 ≤ mc) (h2 : u2 ≤ ms) (hq : Q none h) : zJ sh l y cc nL ret R mc ms Q u1 u2 pc L [] h := by
  intro D g p e s m args below meth c A H locs ls X I Z
  have X0 := X
  obtain ⟨hx, hb, hml, hr, hown, hts, hlk, hK, hnm, hA, hZs⟩ := X0
  obtain ⟨hP, hD, hS, hg⟩ := id I
  subst hret
  refine W.widen h1 h2 ?_
  exact W.vret hx hb hr (fun t ht hW => ⟨⟨none, h, rfl, hq, by rw [ht]; exact hP, hD, by rw [ht]; exact hg⟩, hS.F ht⟩) hS.2.2 hd.1 hlk
theorem zj_iret {x : Int} (hret : ret = some .int) (hd : zd cc pc .ireturn 1 n) (h1 : u1 ≤ mc) (h2 : u2 ≤ ms) (hq : Q (some (.inl x)) h) : zJ sh l y cc nL ret R mc ms Q u1 u2 pc L [.inl x] h := by
  intro D g p e s m args below meth c A H locs ls X I Z
  have X0 := X
  obtain ⟨hx, hb, hml, hr, hown, hts, hlk, hK, hnm, hA, hZs⟩ := X0
  obtain ⟨hP, hD, hS, hg⟩ := id I
  subst hret
  refine W.widen h1 h2 ?_
  exact W.iret hx hb hr (fun t ht hW => ⟨⟨some (.inl x), h, rfl, hq, by rw [ht]; exact hP, hD, by rw [ht]; exact hg⟩, hS.F ht⟩) hS.2.2 hd.1 hlk
theorem zj_zret {x : Int} (hret : ret = some .boolean) (hd : zd cc pc .ireturn 1 n) (h1 : u1 ≤ mc) (h2 : u2 ≤ ms) (hz : x = 0 ∨ x = 1) (hq : Q (some (.inl x)) h) : zJ sh l y cc nL ret R mc ms Q u1 u2 pc L [.inl x] h := by
  intro D g p e s m args below meth c A H locs ls X I Z
  have X0 := X
  obtain ⟨hx, hb, hml, hr, hown, hts, hlk, hK, hnm, hA, hZs⟩ := X0
  obtain ⟨hP, hD, hS, hg⟩ := id I
  subst hret
  refine W.widen h1 h2 ?_
  exact W.zret hx hb hr (by rcases hz with rfl | rfl <;> rfl) (fun t ht hW => ⟨⟨some (.inl x), h, rfl, hq, by rw [ht]; exact hP, hD, by rw [ht]; exact hg⟩, hS.F ht⟩) hS.2.2 hd.1 hlk
theorem zj_widen {k1 k2 : Nat} (h1 : u1 ≤ k1) (h2 : u2 ≤ k2) (kk : zJ sh l y cc nL ret R mc ms Q k1 k2 pc L st h) : zJ sh l y cc nL ret R mc ms Q u1 u2 pc L st h := by
  intro D g p e s m args below meth c A H locs ls X I Z
  have X0 := X
  obtain ⟨hx, hb, hml, hr, hown, hts, hlk, hK, hnm, hA, hZs⟩ := X0
  obtain ⟨hP, hD, hS, hg⟩ := id I
  exact W.widen h1 h2 (kk D g p e s m args below meth c A H locs ls X I Z)
def zty (k : Nat) (ty : FieldType) : Prop := match k with
  | 0 => ty = .int
  | 1 => ty = .boolean
  | _ => defaultValue ty = .null ∧ ∀ (v : Value), (v = .null ∨ ∃ a, v = .ref a) → narrow ty v = v ∧ fits ty v = true
def zCl (ci : Nat) (C : String) (T : u_T) (ty : Nat → FieldType) : Prop := vwCl[ci]? = some (C, T, znf ci) ∧ (∀ w ∈ u_ws C T (znf ci), w ∈ zt) ∧ (∀ k, k < znf ci → parseFieldDescriptor (T k).2.2.1 = some (ty k)) ∧ (∀ a, a < znf ci → ∀ b, b < znf ci → a ≠ b → (T a).2.1 ≠ (T b).2.1) ∧ ∀ k, k < znf ci → zty (zfk ci k) (ty k)
def zNF (ci k : Nat) : Prop := ∀ (C : String) (T : u_T), vwCl[ci]? = some (C, T, znf ci) → (T k).2.2.2 = false
def zFO (own : String) (ci k : Nat) : Prop := ∀ (C : String) (T : u_T), vwCl[ci]? = some (C, T, znf ci) → (T k).2.2.2 = true ∧ (T k).1 = own
/-- entry idx of the class own names field k of class ci -/
def zF (own : String) (idx ci k : Nat) : Prop := ∃ (C : String) (T : u_T) (ty : Nat → FieldType), zCl ci C T ty ∧ k < znf ci ∧ Cond.fieldLink own idx (T k).1 (T k).2.1 (T k).2.2.1 ∈ zt
theorem zfs_at {g : zG} {ci k : Nat} {h : zM} {c : Int} (hk : k < znf ci) : ((List.range (znf ci)).map fun (j : Nat) => zfv g.1 ci j (h.2 c j))[k]? = some (zfv g.1 ci k (h.2 c k)) := by
  rw [List.getElem?_map, List.getElem?_range hk]
  rfl
theorem zfs_set {g : zG} {ci k : Nat} {h : zM} {c v : Int} {x : Value} (hx : zfv g.1 ci k v = x) (_hk : k < znf ci) : ((List.range (znf ci)).map fun (j : Nat) => zfv g.1 ci j (h.2 c j)).set k x = (List.range (znf ci)).map fun (j : Nat) => zfv g.1 ci j ((zwr h c k v).2 c j) := by
  apply List.ext_getElem?
  intro i
  by_cases hi : i = k
  · subst hi
    rw [List.getElem?_set_self (by simpa using _hk), zfs_at _hk, zwr_s, hx]
  · rw [List.getElem?_set_ne (Ne.symm hi)]
    by_cases hl : i < znf ci
    · rw [zfs_at hl, zfs_at hl, zwr_n (by omega)]
    · rw [List.getElem?_eq_none (by simpa using hl), List.getElem?_eq_none (by simpa using hl)]
theorem zj_getf {c0 : Int} {ci k idx : Nat} {v : zV} (hd : zd cc pc (.getfield idx) 3 n) (hf : zF y.cls idx ci k) (hs : sh c0 = .inl ci) (hc : 0 ≤ c0 ∧ c0 < h.1) (hv : ∀ ad, zfv ad ci k (h.2 c0 k) = zv ad v) (kk : zJ sh l y cc nL ret R mc ms Q u1 u2 n L (v :: st) h) : zJ sh l y cc nL ret R mc ms Q u1 u2 pc L (.inr c0 :: st) h := by
  intro D g p e s m args below meth c A H locs ls X I Z
  have X0 := X
  obtain ⟨hx, hb, hml, hr, hown, hts, hlk, hK, hnm, hA, hZs⟩ := X0
  obtain ⟨hP, hD, hS, hg⟩ := id I
  obtain ⟨C, T, ty, ⟨q1, q2, q3, q4, q5⟩, q6, q7⟩ := hf
  obtain ⟨cn, rfl⟩ : ∃ cn : Nat, c0 = cn := ⟨c0.toNat, by omega⟩
  have hP1 := zw_at sh g h (c := cn) (by omega)
  rw [zc_obj hs] at hP1
  rw [List.map_cons, zv_ref _ (by omega)]
  refine va_get hx hb hts q2 hown hK hP cn hP1 q1 k q6 (hts _ q7) (fun _ z => z) (zfs_at q6) hd.1 ?_
  have K := kk D g p e s m args below meth c A H locs ls X I Z
  rw [← hd.2, List.map_cons, ← hv] at K
  exact K
theorem zj_geti {c0 v : Int} {ci k idx : Nat} (hd : zd cc pc (.getfield idx) 3 n) (hf : zF y.cls idx ci k) (hk : (zfk ci k).beq 2 = false) (hsc : sh c0 = .inl ci ∧ 0 ≤ c0 ∧ c0 < h.1) (hv : h.2 c0 (k : Int) = v) (kk : zJ sh l y cc nL ret R mc ms Q u1 u2 n L (.inl v :: st) h) : zJ sh l y cc nL ret R mc ms Q u1 u2 pc L (.inr c0 :: st) h :=
  zj_getf hd hf hsc.1 hsc.2 (fun ad => (if_neg (fun e => by rw [e] at hk; cases hk) : zfv ad ci k (h.2 c0 k) = .int (Int32.ofInt (h.2 c0 k))).trans (by rw [hv]; rfl)) kk
theorem zj_getr {c0 r : Int} {ci k idx : Nat} (hd : zd cc pc (.getfield idx) 3 n) (hf : zF y.cls idx ci k) (hk : zfk ci k = 2) (hsc : sh c0 = .inl ci ∧ 0 ≤ c0 ∧ c0 < h.1) (hv : h.2 c0 (k : Int) = r) (kk : zJ sh l y cc nL ret R mc ms Q u1 u2 n L (.inr r :: st) h) : zJ sh l y cc nL ret R mc ms Q u1 u2 pc L (.inr c0 :: st) h :=
  zj_getf hd hf hsc.1 hsc.2 (fun ad => by rw [hv]; exact if_pos hk) kk
theorem zj_putf {c0 x : Int} {ci k idx : Nat} {v : zV} (hd : zd cc pc (.putfield idx) 3 n) (hf : zF y.cls idx ci k) (hs : sh c0 = .inl ci) (hc : 0 ≤ c0 ∧ c0 < h.1) (hv : ∀ ad, zfv ad ci k x = zv ad v) (hn2 : ∀ ty, zty (zfk ci k) ty → ∀ ad, narrow ty (zv ad v) = zv ad v ∧ fits ty (zv ad v) = true) (hfin : zNF ci k ∨ (y.name = "<init>" ∧ zFO y.cls ci k)) (kk : zJ sh l y cc nL ret R mc ms Q u1 u2 n L st (zwr h c0 k x)) : zJ sh l y cc nL ret R mc ms Q u1 u2 pc L (v :: .inr c0 :: st) h := by
  intro D g p e s m args below meth c A H locs ls X I Z
  have X0 := X
  obtain ⟨hx, hb, hml, hr, hown, hts, hlk, hK, hnm, hA, hZs⟩ := X0
  obtain ⟨hP, hD, hS, hg⟩ := id I
  obtain ⟨C, T, ty, ⟨q1, q2, q3, q4, q5⟩, q6, q7⟩ := hf
  obtain ⟨cn, rfl⟩ : ∃ cn : Nat, c0 = cn := ⟨c0.toNat, by omega⟩
  have hP1 := zw_at sh g h (c := cn) (by omega)
  rw [zc_obj hs] at hP1
  have hset : (zw sh g h).set cn (g.1 (cn : Int), .inr (ci, ((List.range (znf ci)).map fun (j : Nat) => zfv g.1 ci j (h.2 cn j)).set k (zv g.1 v))) = zw sh g (zwr h cn k x) := zw_set (by omega) rfl (fun a b z => zwr_n (fun e => z e.1)) (by rw [zc_obj hs, zfs_set (hv g.1) q6])
  rw [List.map_cons, List.map_cons, zv_ref _ (show ¬ (cn : Int) = -1 by omega)]
  have go : ∀ (H1 : Heap) (locs1 : List Loc), va_P D vwCl ((zw sh g h).set cn (g.1 (cn : Int), .inr (ci, ((List.range (znf ci)).map fun (j : Nat) => zfv g.1 ci j (h.2 cn j)).set k (zv g.1 v)))) H1 → va_D A ((zw sh g h).set cn (g.1 (cn : Int), .inr (ci, ((List.range (znf ci)).map fun (j : Nat) => zfv g.1 ci j (h.2 cn j)).set k (zv g.1 v)))) → va_S A s.heap H1 locs1 → H1.size = H.size → W p l e R s m args below meth c H1 locs1 u1 u2 (MQ below (zQ sh D g A Q) args s mc ms A) (F0 m (pc + 3) ls (st.map (zv g.1))) := by
    intro H1 locs1 hP1 hD1 hS1 hz
    rw [hset] at hP1 hD1
    have K := kk D g p e s m args below meth c A H1 locs1 ls X ⟨hP1, hD1, hS1, by rw [hz]; exact hg⟩ Z
    rw [← hd.2] at K
    exact K
  have hz : ∀ (H1 : Heap) (locs1 : List Loc), va_P D vwCl ((zw sh g h).set cn (g.1 (cn : Int), .inr (ci, ((List.range (znf ci)).map fun (j : Nat) => zfv g.1 ci j (h.2 cn j)).set k (zv g.1 v)))) H1 → True := fun _ _ _ => trivial
  have hn3 := hn2 (ty k) (q5 k q6) g.1
  rcases hfin with hff | hfi
  · exact z_put hx hb hts q2 ty q3 q4 hown hK hP hD hS cn hP1 q1 k q6 (hts _ q7) (fun _ z => z) (Or.inl (hff C T q1)) (q3 k q6) hn3.1 hn3.2 (by simpa using q6) hd.1 go
  · exact z_put hx hb hts q2 ty q3 q4 hown hK hP hD hS cn hP1 q1 k q6 (hts _ q7) (fun _ z => z) (Or.inr ⟨(hfi.2 C T q1).1, hnm.trans hfi.1, (hfi.2 C T q1).2⟩) (q3 k q6) hn3.1 hn3.2 (by simpa using q6) hd.1 go
theorem zj_puti {c0 x k2 : Int} {ci k idx : Nat} (hd : zd cc pc (.putfield idx) 3 n) (hf : zF y.cls idx ci k) (hk : zfk ci k = 0) (hsc : sh c0 = .inl ci ∧ 0 ≤ c0 ∧ c0 < h.1) (hfin : zNF ci k ∨ (y.name = "<init>" ∧ zFO y.cls ci k)) (hk2 : (k : Int) = k2) (kk : ∀ h', h' = zwr h c0 k2 x → zJ sh l y cc nL ret R mc ms Q u1 u2 n L st h') : zJ sh l y cc nL ret R mc ms Q u1 u2 pc L (.inl x :: .inr c0 :: st) h :=
  zj_putf hd hf hsc.1 hsc.2 (fun ad => if_neg (by rw [hk]; decide)) (fun ty e ad => by rw [hk] at e; cases e; exact ⟨rfl, rfl⟩) hfin (kk _ (by rw [hk2]))
theorem zj_putz {c0 x k2 : Int} {ci k idx : Nat} (hd : zd cc pc (.putfield idx) 3 n) (hf : zF y.cls idx ci k) (hk : zfk ci k = 1) (hx1 : x = 0 ∨ x = 1) (hsc : sh c0 = .inl ci ∧ 0 ≤ c0 ∧ c0 < h.1) (hfin : zNF ci k ∨ (y.name = "<init>" ∧ zFO y.cls ci k)) (hk2 : (k : Int) = k2) (kk : ∀ h', h' = zwr h c0 k2 x → zJ sh l y cc nL ret R mc ms Q u1 u2 n L st h') : zJ sh l y cc nL ret R mc ms Q u1 u2 pc L (.inl x :: .inr c0 :: st) h :=
  zj_putf hd hf hsc.1 hsc.2 (fun ad => if_neg (by rw [hk]; decide)) (fun ty e ad => by rw [hk] at e; cases e; rcases hx1 with rfl | rfl <;> exact ⟨rfl, rfl⟩) hfin (kk _ (by rw [hk2]))
theorem zj_putr {c0 x k2 : Int} {ci k idx : Nat} (hd : zd cc pc (.putfield idx) 3 n) (hf : zF y.cls idx ci k) (hk : zfk ci k = 2) (hsc : sh c0 = .inl ci ∧ 0 ≤ c0 ∧ c0 < h.1) (hfin : zNF ci k ∨ (y.name = "<init>" ∧ zFO y.cls ci k)) (hk2 : (k : Int) = k2) (kk : ∀ h', h' = zwr h c0 k2 x → zJ sh l y cc nL ret R mc ms Q u1 u2 n L st h') : zJ sh l y cc nL ret R mc ms Q u1 u2 pc L (.inr x :: .inr c0 :: st) h :=
  zj_putf hd hf hsc.1 hsc.2 (fun ad => if_pos hk) (fun ty e ad => by
    rw [hk] at e
    refine e.2 _ ?_
    unfold zv
    dsimp only
    split
    · exact Or.inl rfl
    · exact Or.inr ⟨_, rfl⟩) hfin (kk _ (by rw [hk2]))
theorem zix {i : Int} {N : Nat} (h : 0 ≤ i ∧ i < N) (hN : N < 2147483648) : vp_in (Int32.ofInt i) N ∧ (Int32.ofInt i).toNatClampNeg = i.toNat := by
  have e : (Int32.ofInt i).toInt = i := zin_i (by omega)
  refine ⟨vp_in_iff.mpr (by rw [e]; omega), ?_⟩
  show (Int32.ofInt i).toInt.toNat = _
  rw [e]
theorem zup_eq {h : zM} {c i x : Int} (hi : 0 ≤ i) : upd (fun (j : Nat) => Int32.ofInt (h.2 c j)) i.toNat (Int32.ofInt x) = fun (j : Nat) => Int32.ofInt ((zwr h c i x).2 c j) := by
  funext j
  unfold upd
  by_cases hj : j = i.toNat
  · rw [if_pos hj, show (j : Int) = i by omega, zwr_s]
  · rw [if_neg hj, zwr_n (by omega)]
theorem zj_iald {c0 i : Int} {N : Nat} (hd : zd cc pc .iaload 1 n) (hsc : sh c0 = .inr (0, N) ∧ 0 ≤ c0 ∧ c0 < h.1) (hN : N < 2147483648) (hi : 0 ≤ i ∧ i < N) {v : Int} (hv : h.2 c0 i = v) (kk : zJ sh l y cc nL ret R mc ms Q u1 u2 n L (.inl v :: st) h) : zJ sh l y cc nL ret R mc ms Q u1 u2 pc L (.inl i :: .inr c0 :: st) h := by
  intro D g p e s m args below meth c A H locs ls X I Z
  have X0 := X
  obtain ⟨hx, hb, hml, hr, hown, hts, hlk, hK, hnm, hA, hZs⟩ := X0
  obtain ⟨hP, hD, hS, hg⟩ := id I
  obtain ⟨hs, hc⟩ := hsc
  obtain ⟨cn, rfl⟩ : ∃ cn : Nat, c0 = cn := ⟨c0.toNat, by omega⟩
  have hP1 := zw_at sh g h (c := cn) (by omega)
  rw [zc_ia hs] at hP1
  obtain ⟨z1, z2⟩ := zix hi hN
  rw [List.map_cons, List.map_cons, zv_ref _ (show ¬ (cn : Int) = -1 by omega)]
  refine va_iald hx hb hK hP cn 0 hP1 rfl z1 hd.1 ?_
  rw [z2]
  subst hv
  have K := kk D g p e s m args below meth c A H locs ls X I Z
  rw [← hd.2] at K
  have e9 : ((i.toNat : Nat) : Int) = i := by omega
  rw [e9]
  exact K
theorem zj_zald {c0 i : Int} {N : Nat} (hd : zd cc pc .baload 1 n) (hsc : sh c0 = .inr (1, N) ∧ 0 ≤ c0 ∧ c0 < h.1) (hN : N < 2147483648) (hi : 0 ≤ i ∧ i < N) {v : Int} (hv : h.2 c0 i = v) (kk : zJ sh l y cc nL ret R mc ms Q u1 u2 n L (.inl v :: st) h) : zJ sh l y cc nL ret R mc ms Q u1 u2 pc L (.inl i :: .inr c0 :: st) h := by
  intro D g p e s m args below meth c A H locs ls X I Z
  have X0 := X
  obtain ⟨hx, hb, hml, hr, hown, hts, hlk, hK, hnm, hA, hZs⟩ := X0
  obtain ⟨hP, hD, hS, hg⟩ := id I
  obtain ⟨hs, hc⟩ := hsc
  obtain ⟨cn, rfl⟩ : ∃ cn : Nat, c0 = cn := ⟨c0.toNat, by omega⟩
  have hP1 := zw_at sh g h (c := cn) (by omega)
  rw [zc_za hs] at hP1
  obtain ⟨z1, z2⟩ := zix hi hN
  rw [List.map_cons, List.map_cons, zv_ref _ (show ¬ (cn : Int) = -1 by omega)]
  refine va_zald hx hb hK hP cn 1 hP1 rfl z1 hd.1 ?_
  rw [z2]
  subst hv
  have K := kk D g p e s m args below meth c A H locs ls X I Z
  rw [← hd.2] at K
  have e9 : ((i.toNat : Nat) : Int) = i := by omega
  rw [e9]
  exact K
theorem zj_aald {c0 i r : Int} {N : Nat} (hd : zd cc pc .aaload 1 n) (hsc : sh c0 = .inr (2, N) ∧ 0 ≤ c0 ∧ c0 < h.1) (hN : N < 2147483648) (hi : 0 ≤ i ∧ i < N) (hv : h.2 c0 i = r) (kk : zJ sh l y cc nL ret R mc ms Q u1 u2 n L (.inr r :: st) h) : zJ sh l y cc nL ret R mc ms Q u1 u2 pc L (.inl i :: .inr c0 :: st) h := by
  intro D g p e s m args below meth c A H locs ls X I Z
  have X0 := X
  obtain ⟨hx, hb, hml, hr, hown, hts, hlk, hK, hnm, hA, hZs⟩ := X0
  obtain ⟨hP, hD, hS, hg⟩ := id I
  obtain ⟨hs, hc⟩ := hsc
  obtain ⟨cn, rfl⟩ : ∃ cn : Nat, c0 = cn := ⟨c0.toNat, by omega⟩
  have hP1 := zw_at sh g h (c := cn) (by omega)
  rw [zc_ra hs] at hP1
  obtain ⟨z1, z2⟩ := zix hi hN
  rw [List.map_cons, List.map_cons, zv_ref _ (show ¬ (cn : Int) = -1 by omega)]
  refine va_aldq hx hb hK hP cn 2 hP1 rfl z1 hd.1 ?_
  rw [z2]
  have K := kk D g p e s m args below meth c A H locs ls X I Z
  rw [← hd.2, List.map_cons, ← zo_rf, ← hv] at K
  have e9 : ((i.toNat : Nat) : Int) = i := by omega
  rw [e9]
  exact K
theorem zj_iast {c0 i x : Int} {N : Nat} (hd : zd cc pc .iastore 1 n) (hsc : sh c0 = .inr (0, N) ∧ 0 ≤ c0 ∧ c0 < h.1) (hN : N < 2147483648) (hi : 0 ≤ i ∧ i < N) (kk : ∀ h', h' = zwr h c0 i x → zJ sh l y cc nL ret R mc ms Q u1 u2 n L st h') : zJ sh l y cc nL ret R mc ms Q u1 u2 pc L (.inl x :: .inl i :: .inr c0 :: st) h := by
  intro D g p e s m args below meth c A H locs ls X I Z
  have X0 := X
  obtain ⟨hx, hb, hml, hr, hown, hts, hlk, hK, hnm, hA, hZs⟩ := X0
  obtain ⟨hP, hD, hS, hg⟩ := id I
  obtain ⟨hs, hc⟩ := hsc
  obtain ⟨cn, rfl⟩ : ∃ cn : Nat, c0 = cn := ⟨c0.toNat, by omega⟩
  have hP1 := zw_at sh g h (c := cn) (by omega)
  rw [zc_ia hs] at hP1
  obtain ⟨z1, z2⟩ := zix hi hN
  rw [List.map_cons, List.map_cons, List.map_cons, zv_ref _ (show ¬ (cn : Int) = -1 by omega)]
  refine z_iast hx hb hK hP hD hS cn 0 hP1 rfl z1 hd.1 (fun H1 locs1 hP2 hD2 hS2 hz => ?_)
  rw [z2, zup_eq hi.1] at hP2 hD2
  rw [zw_set (h := h) (h' := zwr h cn i x) (by omega) rfl (fun a b z => zwr_n (fun e => z e.1)) (zc_ia hs)] at hP2 hD2
  have K := kk _ rfl D g p e s m args below meth c A H1 locs1 ls X ⟨hP2, hD2, hS2, by rw [hz]; exact hg⟩ Z
  rw [← hd.2] at K
  exact K
theorem zj_zast {c0 i x : Int} {N : Nat} (hd : zd cc pc .bastore 1 n) (hsc : sh c0 = .inr (1, N) ∧ 0 ≤ c0 ∧ c0 < h.1) (hN : N < 2147483648) (hi : 0 ≤ i ∧ i < N) (hx1 : x = 0 ∨ x = 1) (kk : ∀ h', h' = zwr h c0 i x → zJ sh l y cc nL ret R mc ms Q u1 u2 n L st h') : zJ sh l y cc nL ret R mc ms Q u1 u2 pc L (.inl x :: .inl i :: .inr c0 :: st) h := by
  intro D g p e s m args below meth c A H locs ls X I Z
  have X0 := X
  obtain ⟨hx, hb, hml, hr, hown, hts, hlk, hK, hnm, hA, hZs⟩ := X0
  obtain ⟨hP, hD, hS, hg⟩ := id I
  obtain ⟨hs, hc⟩ := hsc
  obtain ⟨cn, rfl⟩ : ∃ cn : Nat, c0 = cn := ⟨c0.toNat, by omega⟩
  have hP1 := zw_at sh g h (c := cn) (by omega)
  rw [zc_za hs] at hP1
  obtain ⟨z1, z2⟩ := zix hi hN
  rw [List.map_cons, List.map_cons, List.map_cons, zv_ref _ (show ¬ (cn : Int) = -1 by omega)]
  have hnr : vp_nar .boolean (Int32.ofInt x) = Int32.ofInt x := by rcases hx1 with rfl | rfl <;> rfl
  refine z_zast hx hb hK hP hD hS cn 1 hP1 rfl z1 hd.1 (fun H1 locs1 hP2 hD2 hS2 hz => ?_)
  rw [z2, hnr, zup_eq hi.1] at hP2 hD2
  rw [zw_set (h := h) (h' := zwr h cn i x) (by omega) rfl (fun a b z => zwr_n (fun e => z e.1)) (zc_za hs)] at hP2 hD2
  have K := kk _ rfl D g p e s m args below meth c A H1 locs1 ls X ⟨hP2, hD2, hS2, by rw [hz]; exact hg⟩ Z
  rw [← hd.2] at K
  exact K
theorem zj_alen {c0 : Int} {k N : Nat} (hd : zd cc pc .arraylength 1 n) (hsc : sh c0 = .inr (k, N) ∧ 0 ≤ c0 ∧ c0 < h.1) (kk : zJ sh l y cc nL ret R mc ms Q u1 u2 n L (.inl N :: st) h) : zJ sh l y cc nL ret R mc ms Q u1 u2 pc L (.inr c0 :: st) h := by
  intro D g p e s m args below meth c A H locs ls X I Z
  have X0 := X
  obtain ⟨hx, hb, hml, hr, hown, hts, hlk, hK, hnm, hA, hZs⟩ := X0
  obtain ⟨hP, hD, hS, hg⟩ := id I
  obtain ⟨hs, hc⟩ := hsc
  obtain ⟨cn, rfl⟩ : ∃ cn : Nat, c0 = cn := ⟨c0.toNat, by omega⟩
  have hP1 := zw_at sh g h (c := cn) (by omega)
  rw [List.map_cons, zv_ref _ (show ¬ (cn : Int) = -1 by omega)]
  have K := kk D g p e s m args below meth c A H locs ls X I Z
  rw [← hd.2] at K
  match k, hs with
  | 0, hs =>
    rw [zc_ia hs] at hP1
    exact va_alen hx hb hK hP cn 0 hP1 rfl (v := Int32.ofInt N) Int32.ofInt_eq_ofNat.symm hd.1 K
  | 1, hs =>
    rw [zc_za hs] at hP1
    exact va_alen hx hb hK hP cn 1 hP1 rfl (v := Int32.ofInt N) Int32.ofInt_eq_ofNat.symm hd.1 K
  | j + 2, hs =>
    have e8 : zc sh g h (cn : Int) = .inl (g.2.2.2, N, .inr (.inr (.inr (.inr fun (j : Nat) => zo g.1 (h.2 cn j))))) := by unfold zc; rw [hs]
    rw [e8] at hP1
    exact va_alen hx hb hK hP cn 2 hP1 rfl (v := Int32.ofInt N) Int32.ofInt_eq_ofNat.symm hd.1 K
end ZJR
theorem z_fkA : ∀ l ∈ zfkL, ∀ x ∈ l, x = 0 ∨ x = 1 ∨ x = 2 := by decide +kernel
theorem z_fk (ci k : Nat) (h : ¬ zfk ci k = 2) : zfk ci k = 0 ∨ zfk ci k = 1 := by
  have key : ∀ (l : List Nat) (k : Nat), (∀ x ∈ l, x = 0 ∨ x = 1 ∨ x = 2) → ¬ l.getD k 0 = 2 → l.getD k 0 = 0 ∨ l.getD k 0 = 1 := by
    intro l k hl h
    rw [List.getD_eq_getElem?_getD] at h ⊢
    cases hk : l[k]? with
    | none => exact Or.inl rfl
    | some x =>
      rw [hk] at h
      rcases hl x (List.mem_of_getElem? hk) with e | e | e
      · exact Or.inl e
      · exact Or.inr e
      · exact absurd e h
  refine key _ k (fun x hx => ?_) h
  rw [List.getD_eq_getElem?_getD] at hx
  cases hl : zfkL[ci]? with
  | none => rw [hl] at hx; cases hx
  | some m => rw [hl] at hx; exact z_fkA m (List.mem_of_getElem? hl) x hx
theorem z_cat (ad : Int → Nat) (st : List zV) (hst : st.length ≤ 8) : ((st.map (zv ad)).map fun v => v.category).sum ≤ 8 := by
  have : ∀ st : List zV, ((st.map (zv ad)).map fun v => v.category).sum = st.length := by
    intro st
    induction st with
    | nil => rfl
    | cons v t ih => simp [zv_cat] at ih ⊢; omega
  rw [this]; exact hst
def znew (h : zM) (d : Int → Int) : zM := (h.1 + 1, fun a b => if a = h.1 then d b else h.2 a b)
theorem znew_n {h : zM} {d : Int → Int} {a b : Int} (e : ¬ a = h.1) : (znew h d).2 a b = h.2 a b := if_neg e
theorem znew_s {h : zM} {d : Int → Int} {b : Int} : (znew h d).2 h.1 b = d b := if_pos rfl
def zdf (ci : Nat) : Int → Int := fun k => if zfk ci k.toNat = 2 then -1 else 0
section ZNEW
variable {sh : zSh} {l : Launch} {y : MethodName} {cc : ByteArray} {nL : Nat} {ret : Option FieldType} {R : Room} {mc ms : Nat} {Q : Option zV → zM → Prop} {u1 u2 pc n : Nat} {L : List (Option zV)} {st : List zV} {h : zM}
theorem z_push {D : va_G} {g : zG} {A : Nat → Prop} {s : State} {H H1 : Heap} {locs : List Loc} {d : Int → Int} (hA : ∀ q, s.heap.size ≤ q → A q) (I : zI sh D g A s.heap h H locs) (z1 : H1.size = H.size + 1) (o1 : ∀ q, q < H.size → H1[q]? = H[q]?) (hx : va_at D vwCl (H.size, zc sh g (znew h d) (h.1 : Int)) H1) : zI sh D g A s.heap (znew h d) H1 locs := by
  obtain ⟨hP, hD, hS, hg⟩ := I
  have e0 : g.1 (h.1 : Int) = H.size := by have := hg h.1 (Nat.le_refl _); omega
  have ew : zw sh g h ++ [(H.size, zc sh g (znew h d) (h.1 : Int))] = zw sh g (znew h d) := zw_push rfl (fun a k z => znew_n z) e0 rfl
  have hk : ∀ (k : Nat) (x : Nat × va_E), (zw sh g h)[k]? = some x → H1[x.1]? = H[x.1]? := fun k x hx => o1 x.1 ((hP k x hx).lt)
  refine ⟨?_, ?_, ⟨Nat.le_trans hS.1 (by omega), fun x h1 h2 => (o1 x (Nat.lt_of_lt_of_le h1 hS.1)).trans (hS.2.1 x h1 h2), hS.2.2⟩, fun c hc => ?_⟩
  · rw [← ew]
    refine (hP.kept hk).app (fun k x hx1 => ?_)
    have hz : k < 1 := (List.getElem?_eq_some_iff.mp hx1).1
    rw [show k = 0 by omega] at hx1
    cases hx1
    exact hx
  · rw [← ew]
    exact hD.push hP rfl (hA _ hS.1)
  · have hc : h.1 + 1 ≤ c := hc
    have := hg c (by omega)
    show _ = H1.size + (c - (h.1 + 1))
    omega

theorem zj_new {ci idx : Nat} {C : String} {T : u_T} {ty : Nat → FieldType} (hd : zd cc pc (.new idx) 3 n) (hcl : zCl ci C T ty) (w1 : Cond.classLink y.cls idx C ∈ zt) (w2 : Cond.instantiable C (znf ci) ∈ zt) (w3 : Cond.initialized C ∈ zt) (hs : sh (h.1 : Int) = .inl ci) (hu : u1 + 1 ≤ R.cells ∧ u2 + znf ci ≤ R.slots) (kk : ∀ h', h' = znew h (zdf ci) → zJ sh l y cc nL ret R mc ms Q (u1 + 1) (u2 + znf ci) n L (.inr h.1 :: st) h') : zJ sh l y cc nL ret R mc ms Q u1 u2 pc L st h := by
  intro D g p e s m args below meth c A H locs ls X I Z
  have X0 := X
  obtain ⟨hx, hb, hml, hr, hown, hts, hlk, hK, hnm, hA, hZs⟩ := X0
  obtain ⟨hP, hD, hS, hg⟩ := id I
  obtain ⟨q1, q2, q3, q4, q5⟩ := hcl
  have hKn := hK.1 ci _ q1
  refine W.newcK hx hb hown (hts _ w1) (hts _ w2) (hts _ w3) rfl hd.1 hu.1 hu.2 hKn.2.1 rfl fun H1 kC hkC e1 z1 o1 => ?_
  have I1 : zI sh D g A s.heap (znew h (zdf ci)) H1 locs := by
    refine z_push hA I z1 o1 ?_
    rw [zc_obj hs]
    refine ⟨_, q1, (u_born ty hts q2 hKn hkC e1 q3).to (fun j hj => ?_)⟩
    have hj : j < znf ci := hj
    show defaultValue (ty j) = vp_V _ j
    unfold vp_V
    rw [List.getD_eq_getElem?_getD, zfs_at hj, znew_s]
    have h5 := q5 j hj
    show _ = zfv g.1 ci j (if zfk ci (j : Int).toNat = 2 then -1 else 0)
    rw [Int.toNat_natCast]
    unfold zfv
    by_cases hk2 : zfk ci j = 2
    · rw [if_pos hk2, if_pos hk2]
      rw [hk2] at h5
      exact h5.1
    · rw [if_neg hk2, if_neg hk2]
      have h6 : zfk ci j = 0 ∨ zfk ci j = 1 := z_fk ci j hk2
      rcases h6 with h6 | h6
      · rw [h6] at h5
        have h5 : ty j = .int := h5
        rw [h5]
        rfl
      · rw [h6] at h5
        have h5 : ty j = .boolean := h5
        rw [h5]
        rfl
  have e0 : g.1 (h.1 : Int) = H.size := by have := hg h.1 (Nat.le_refl _); omega
  have K := kk _ rfl D g p e s m args below meth c A H1 locs ls X I1 Z
  rw [← hd.2, List.map_cons, zv_ref _ (by omega), e0] at K
  exact K
theorem zj_newi {N : Nat} {a : Int} (hd : zd cc pc (.newarray .int) 2 n) (w1 : Cond.arrayClass .int ∈ zt) (ha : a = N) (hN : N ≤ 1000000) (hs : sh (h.1 : Int) = .inr (0, N)) (hu : u1 + 1 ≤ R.cells ∧ u2 + N ≤ R.slots) (kk : ∀ h', h' = znew h (fun _ => 0) → zJ sh l y cc nL ret R mc ms Q (u1 + 1) (u2 + N) n L (.inr h.1 :: st) h') : zJ sh l y cc nL ret R mc ms Q u1 u2 pc L (.inl a :: st) h := by
  intro D g p e s m args below meth c A H locs ls X I Z
  have X0 := X
  obtain ⟨hx, hb, hml, hr, hown, hts, hlk, hK, hnm, hA, hZs⟩ := X0
  obtain ⟨hP, hD, hS, hg⟩ := id I
  subst ha
  have hnn : (Int32.ofInt (N : Int)).toInt = N := zin_i (by omega)
  refine va_newaK (N := N) hx hb (atype := .int) (hts _ w1) rfl hd.1 rfl (fun q => by rw [Int32.lt_iff_toInt_lt, hnn] at q; simp at q; omega) (by show (Int32.ofInt (N : Int)).toInt.toNat = N; rw [hnn]; rfl) (by show N * 4 ≤ _; omega) hu.1 hu.2 rfl fun H1 cA e1 z1 o1 hof hfc => ?_
  have hcA : cA = g.2.1 := by
    have h1 := (hK.2 0 _ rfl).2
    have h1 : s.vm.findClass ("[" ++ FieldType.int.toString) = some g.2.1 := h1
    exact Option.some.inj (hfc.symm.trans h1)
  subst hcA
  have I1 : zI sh D g A s.heap (znew h (fun _ => 0)) H1 locs := by
    refine z_push hA I z1 o1 ?_
    rw [zc_ia hs]
    show H1[H.size]? = some (vp_cell _ _)
    rw [e1, vp_cell_i]
    congr 2
    funext j
    rw [znew_s]
    rfl
  have e0 : g.1 (h.1 : Int) = H.size := by have := hg h.1 (Nat.le_refl _); omega
  have K := kk _ rfl D g p e s m args below meth c A H1 locs ls X I1 Z
  rw [← hd.2, List.map_cons, zv_ref _ (by omega), e0] at K
  exact K
theorem zj_newz {N : Nat} {a : Int} (hd : zd cc pc (.newarray .boolean) 2 n) (w1 : Cond.arrayClass .boolean ∈ zt) (ha : a = N) (hN : N ≤ 1000000) (hs : sh (h.1 : Int) = .inr (1, N)) (hu : u1 + 1 ≤ R.cells ∧ u2 + N ≤ R.slots) (kk : ∀ h', h' = znew h (fun _ => 0) → zJ sh l y cc nL ret R mc ms Q (u1 + 1) (u2 + N) n L (.inr h.1 :: st) h') : zJ sh l y cc nL ret R mc ms Q u1 u2 pc L (.inl a :: st) h := by
  intro D g p e s m args below meth c A H locs ls X I Z
  have X0 := X
  obtain ⟨hx, hb, hml, hr, hown, hts, hlk, hK, hnm, hA, hZs⟩ := X0
  obtain ⟨hP, hD, hS, hg⟩ := id I
  subst ha
  have hnn : (Int32.ofInt (N : Int)).toInt = N := zin_i (by omega)
  refine va_newaK (N := N) hx hb (atype := .boolean) (hts _ w1) rfl hd.1 rfl (fun q => by rw [Int32.lt_iff_toInt_lt, hnn] at q; simp at q; omega) (by show (Int32.ofInt (N : Int)).toInt.toNat = N; rw [hnn]; rfl) (by show N * 1 ≤ _; omega) hu.1 hu.2 rfl fun H1 cA e1 z1 o1 hof hfc => ?_
  have hcA : cA = g.2.2.1 := by
    have h1 := (hK.2 1 _ rfl).2
    have h1 : s.vm.findClass ("[" ++ FieldType.boolean.toString) = some g.2.2.1 := h1
    exact Option.some.inj (hfc.symm.trans h1)
  subst hcA
  have I1 : zI sh D g A s.heap (znew h (fun _ => 0)) H1 locs := by
    refine z_push hA I z1 o1 ?_
    rw [zc_za hs]
    show H1[H.size]? = some (vp_cell _ _)
    rw [e1, vp_cell_i]
    congr 2
    funext j
    rw [znew_s]
    rfl
  have e0 : g.1 (h.1 : Int) = H.size := by have := hg h.1 (Nat.le_refl _); omega
  have K := kk _ rfl D g p e s m args below meth c A H1 locs ls X I1 Z
  rw [← hd.2, List.map_cons, zv_ref _ (by omega), e0] at K
  exact K
theorem zj_anew {N idx : Nat} {a : Int} (hd : zd cc pc (.anewarray idx) 3 n) (w1 : Cond.classLink y.cls idx RX1 ∈ zt) (ha : a = N) (hN : N ≤ 1000000) (hs : sh (h.1 : Int) = .inr (2, N)) (hu : u1 + 1 ≤ R.cells ∧ u2 + N ≤ R.slots) (kk : ∀ h', h' = znew h (fun _ => -1) → zJ sh l y cc nL ret R mc ms Q (u1 + 1) (u2 + N) n L (.inr h.1 :: st) h') : zJ sh l y cc nL ret R mc ms Q u1 u2 pc L (.inl a :: st) h := by
  intro D g p e s m args below meth c A H locs ls X I Z
  have X0 := X
  obtain ⟨hx, hb, hml, hr, hown, hts, hlk, hK, hnm, hA, hZs⟩ := X0
  obtain ⟨hP, hD, hS, hg⟩ := id I
  subst ha
  have hnn : (Int32.ofInt (N : Int)).toInt = N := zin_i (by omega)
  have hcl : (Int32.ofInt (N : Int)).toNatClampNeg = N := by show (Int32.ofInt (N : Int)).toInt.toNat = N; rw [hnn]; rfl
  refine W.anew hx hb hown (hts _ w1) (va_AO.use hZs.2.2.2.2.1) rfl hd.1 rfl (fun q => by rw [Int32.lt_iff_toInt_lt, hnn] at q; simp at q; omega) (by rw [hcl]; omega) hu.1 (by rw [hcl]; exact hu.2) fun cA kA comp f1 f2 f3 f4 => ?_
  rw [hcl]
  have hcA : cA = g.2.2.2 := by
    obtain ⟨kA', comp', -, -, -, h1⟩ := (hK.2 2 _ rfl).2
    exact Option.some.inj (f1.symm.trans h1)
  subst hcA
  have I1 : zI sh D g A s.heap (znew h (fun _ => -1)) (H.push { cls := g.2.2.2, slots := Array.replicate N .null, vm := .none }) locs := by
    refine z_push hA I (by simp) (fun q hq => by simp [Array.getElem?_push, Nat.ne_of_lt hq]) ?_
    rw [zc_ra hs]
    show (Array.push H _)[H.size]? = some (vp_cell _ _)
    have e2 : (fun (j : Nat) => zo g.1 ((znew h (fun _ => -1)).2 (h.1 : Int) j)) = fun _ => none := by funext j; rw [znew_s]; rfl
    rw [e2]
    simp [vp_cell, arrV]
    first | done | (apply Array.ext <;> simp [va_rf]) | (congr 1; apply Array.ext <;> simp [va_rf])
  have e0 : g.1 (h.1 : Int) = H.size := by have := hg h.1 (Nat.le_refl _); omega
  have K := kk _ rfl D g p e s m args below meth c A _ locs ls X I1 Z
  rw [← hd.2, List.map_cons, zv_ref _ (by omega), e0] at K
  exact K
theorem zj_oinit {idx : Nat} {c0 : Int} (hd : zd cc pc (.invokespecial idx) 3 n) (w1 : Cond.methodLink y.cls idx objectInit ∈ zt) (w2 : Cond.instanceMethod objectInit ∈ zt) (w3 : Cond.code objectInit ⟨#[0xb1]⟩ 1 none ∈ zt) (hc : ¬ c0 = -1) (hst : st.length ≤ 8) (hR : 1 ≤ R.frames ∧ 20 ≤ R.locals) (kk : zJ sh l y cc nL ret R mc ms Q u1 u2 n L st h) : zJ sh l y cc nL ret R mc ms Q u1 u2 pc L (.inr c0 :: st) h := by
  intro D g p e s m args below meth c A H locs ls X I Z
  have X0 := X
  obtain ⟨hx, hb, hml, hr, hown, hts, hlk, hK, hnm, hA, hZs⟩ := X0
  obtain ⟨hP, hD, hS, hg⟩ := id I
  rw [List.map_cons, zv_ref _ hc]
  refine W.objInit hx hb hown (hts _ w1) (hts _ w2) (hts _ w3) rfl (by rw [hml]; exact Z.2.1) rfl hd.1 hR.1 (by have := z_cat g.1 st hst; have h9 := lv_room (m := m) (pc := pc) (ls := ls) (rest := .ref (g.1 c0) :: st.map (zv g.1)) this; omega) ?_
  have K := kk D g p e s m args below meth c A H locs ls X I Z
  rw [← hd.2] at K
  exact K
end ZNEW
theorem zStr.moved {g : zG} {A B : Nat → Prop} {s U : State} {H : Heap} {locs : List Loc} (h : zStr g A s) (hU : U.heap = H) (hW : s.WarmedH U.vm) (hS : va_S A s.heap H locs) (hAB : ∀ q, B q → A q) : zStr g B U := by
  subst hU
  exact ⟨((h.1.kept hS.2.1).narrow hAB).moved hW.alike, ((h.2.1.kept hS.2.1).narrow hAB).moved hW.alike, fun q hq => (h.2.2.1 q hq).warm hW, fun q hq => (h.2.2.2.1 q hq).warmM hW, h.2.2.2.2.1.moved hW.alike, h.2.2.2.2.2.imp (fun z => ((z.kept hS.2.1).narrow hAB).moved hW.alike) (fun z => ((z.kept hS.2.1).narrow hAB).moved hW.alike)⟩
theorem zStr.calling {g : zG} {A : Nat → Prop} {U : State} (h : zStr g A U) (f : JFrame) (mk : MethodId) (a : Array Value) : zStr g A (U.calling f mk a) :=
  ⟨vk_S.moved (u := U) (U := U.calling f mk a) (Vm.Alike.refl U.vm) h.1, va_Z.moved (u := U) (U := U.calling f mk a) (Vm.Alike.refl U.vm) h.2.1, fun q hq => vk_R.same (u := U) (U := U.calling f mk a) rfl (h.2.2.1 q hq), fun q hq => va_Nw.same (u := U) (U := U.calling f mk a) rfl rfl (h.2.2.2.1 q hq), va_AO.moved (u := U) (U := U.calling f mk a) (Vm.Alike.refl U.vm) h.2.2.2.2.1, h.2.2.2.2.2.imp (fun z => va_Z.moved (u := U) (U := U.calling f mk a) (Vm.Alike.refl U.vm) z) (fun z => va_Z.moved (u := U) (U := U.calling f mk a) (Vm.Alike.refl U.vm) z)⟩
section ZCALL
variable {sh : zSh} {l : Launch} {y : MethodName} {cc : ByteArray} {nL : Nat} {ret : Option FieldType} {R : Room} {mc ms : Nat} {Q : Option zV → zM → Prop} {u1 u2 pc n : Nat} {L : List (Option zV)} {st : List zV} {h : zM}
def zPc (sh : zSh) (D : va_G) (g : zG) (sz : Nat) (av : List zV) (h : zM) : Array Value → State → Prop := fun v U => v = (av.map (zv g.1)).toArray ∧ U.heap.size = sz ∧ va_P D vwCl (zw sh g h) U.heap ∧ va_D (fun _ => True) (zw sh g h) ∧ (∀ c : Nat, h.1 ≤ c → g.1 (c : Int) = sz + (c - h.1)) ∧ va_K D vwCl (ztys g) U ∧ zStr g (va_A (zw sh g h) sz) U
theorem zPc_blind (sh : zSh) (D : va_G) (g : zG) (sz : Nat) (av : List zV) (h : zM) : FrameBlind (zPc sh D g sz av h) := by
  intro a U f mk q
  obtain ⟨q0, q1, qP, qD, qg, qK, qZ⟩ := q
  exact ⟨q0, q1, qP, qD, qg, va_K.moved (u := U) (U := U.calling f mk a) (Vm.Alike.refl U.vm) qK, qZ.calling f mk a⟩
theorem zA_sub {D : va_G} {g : zG} {A : Nat → Prop} {s : State} {H : Heap} {locs : List Loc} (hA : ∀ q, s.heap.size ≤ q → A q) (I : zI sh D g A s.heap h H locs) : ∀ q, va_A (zw sh g h) H.size q → A q := by
  intro q hq
  rcases hq with ⟨k, e, hk⟩ | hq
  · exact I.2.1.2 k (q, e) hk
  · exact hA q (Nat.le_trans I.2.2.1.1 hq)
theorem zPc_at {D : va_G} {g : zG} {p : Program} {s : State} {m : MethodId} {args : Array Value} {meth : Method} {c : Code} {A : Nat → Prop} {H : Heap} {locs : List Loc} (X : zX y cc nL ret D g p s m args meth c A) (I : zI sh D g A s.heap h H locs) (av : List zV) (U : State) (hU : U.heap = H) (hW : s.WarmedH U.vm) : zPc sh D g H.size av h (av.map (zv g.1)).toArray U := by
  obtain ⟨hx, hb, hml, hr, hown, hts, hlk, hK, hnm, hA, hZs⟩ := X
  have hsub := zA_sub hA I
  obtain ⟨hP, hD, hS, hg⟩ := I
  exact ⟨rfl, by rw [hU], by rw [hU]; exact hP, zD_weak hD (fun _ _ => trivial), hg, va_K.moved hW.alike hK, hZs.moved hU hW hS hsub⟩
theorem z_back {D : va_G} {g : zG} {p : Program} {e : Env} {s : State} {m : MethodId} {args : Array Value} {below : List Frame} {meth : Method} {c : Code} {A : Nat → Prop} {H : Heap} {locs : List Loc} {ls : Array Slot} {st0 rest : List Value} {mc' ms' : Nat} {Q' : Option zV → zM → Prop} {a : Array Value} {Qf : State → Prop} (X : zX y cc nL ret D g p s m args meth c A) (I : zI sh D g A s.heap h H locs)
    (hr : va_Run p l e R s m args below meth c H locs u1 u2 mc' ms' (F0 m pc ls st0) rest (zQ sh D g (va_A (zw sh g h) H.size) Q' a) (va_A (zw sh g h) H.size))
    (kk : ∀ (r : Option zV) (h' : zM), Q' r h' → ∀ (H1 : Heap) (locs1 : List Loc), zI sh D g A s.heap h' H1 locs1 → W p l e R s m args below meth c H1 locs1 (u1 + mc') (u2 + ms') Qf (F0 m (pc + 3) ls ((r.map (zv g.1)).toList ++ rest))) : W p l e R s m args below meth c H locs u1 u2 Qf (F0 m pc ls st0) := by
  obtain ⟨hx, hb, hml, hr2, hown, hts, hlk, hK, hnm, hA, hZs⟩ := X
  have hsub := zA_sub hA I
  obtain ⟨hP, hD, hS, hg⟩ := I
  intro T hT XX
  obtain ⟨v, st₀, t, T', L, h0, X', hL, e1, e2, ⟨⟨r, h', hv, hQ, hP1, hD1, hg1⟩, hz, hk⟩, go⟩ := hr T hT XX
  cases hv
  rw [h0] at hz hk
  obtain ⟨t2, a1, b1⟩ := kk r h' hQ T'.heap (locs ++ L) ⟨by rw [e1]; exact hP1, zD_weak hD1 hsub, ⟨Nat.le_trans hS.1 (by rw [e1]; exact hz), fun q h1 h2 => by rw [e1, hk q (Nat.lt_of_lt_of_le h1 hS.1) (fun z => h2 (hsub q z))]; exact hS.2.1 q h1 h2, fun q hq => by
      rcases List.mem_append.mp hq with h | h
      · exact hS.2.2 q h
      · exact hsub _ (hL q h)⟩, by rw [e1]; exact hg1⟩ T' rfl X'
  exact ⟨t2, go t2 a1, b1⟩
/-- what a method's own words say, for every road to it -/
def zMb (y' : MethodName) (cc' : ByteArray) (nL' : Nat) (ret' : Option FieldType) (np : Nat) : Prop := Cond.code y' cc' nL' ret' ∈ zt ∧ Cond.initialized y'.cls ∈ zt ∧ (y'.cls ≠ "java/lang/invoke/MethodHandle" ∧ y'.cls ≠ "java/lang/invoke/VarHandle" ∧ (parseMethodDescriptor y'.desc).map (fun d => d.parameters.length) = some np)
def zMV (own : String) (idx : Nat) (C : String) (y' : MethodName) : Prop := Cond.methodLink own idx y' ∈ zt ∧ Cond.instanceMethod y' ∈ zt ∧ Cond.selects C y' y' ∈ zt
def zMS (own : String) (idx : Nat) (y' : MethodName) : Prop := Cond.static y' ∈ zt ∧ (Cond.methodLink own idx y' ∈ zt ∨ ∃ host, (own, idx, y', host) ∈ znl)
def zMI (own : String) (idx : Nat) (y' : MethodName) : Prop := Cond.instanceMethod y' ∈ zt ∧ y'.name = "<init>" ∧ (Cond.methodLink own idx y' ∈ zt ∨ ∃ host, (own, idx, y', host) ∈ znl)
def zRm (R rm' : Room) (nL' u1 u2 mc' ms' : Nat) : Prop := rm'.cells = mc' ∧ rm'.slots = ms' ∧ (rm'.frames + 1 ≤ R.frames ∧ 8 + (nL' + 11) + rm'.locals ≤ R.locals) ∧ (u1 + mc' ≤ R.cells ∧ u2 + ms' ≤ R.slots)
theorem z_toList (ad : Int → Nat) (r : Option zV) (st : List zV) : (r.map (zv ad)).toList ++ st.map (zv ad) = (r.toList ++ st).map (zv ad) := by cases r <;> rfl

theorem zj_callV {c0 : Int} {ci idx : Nat} {q : vw_C} {y' : MethodName} {cc' : ByteArray} {nL' : Nat} {ret' : Option FieldType} {rm' : Room} {mc' ms' np : Nat} {Q' : Option zV → zM → Prop} {av st0 : List zV} (hd : zd cc pc (.invokevirtual idx) 3 n) (hb1 : zMb y' cc' nL' ret' np) (hm : zMV y.cls idx y'.cls y') (hcl : vwCl[ci]? = some q) (hcn : q.1 = y'.cls) (hsc : sh c0 = .inl ci ∧ 0 ≤ c0 ∧ c0 < h.1) (hst : st0 = av.reverse ++ .inr c0 :: st) (hlen : av.length = np) (hrest : st.length ≤ 8) (hT : zT sh l y' cc' nL' ret' rm' mc' ms' (.inr c0 :: av) h Q') (hrm : zRm R rm' nL' u1 u2 mc' ms') (kk : ∀ r h', Q' r h' → zJ sh l y cc nL ret R mc ms Q (u1 + mc') (u2 + ms') n L (r.toList ++ st) h') : zJ sh l y cc nL ret R mc ms Q u1 u2 pc L st0 h := by
  intro D g p e s m args below meth c A H locs ls X I Z
  have X0 := X
  obtain ⟨hx, hb, hml, hr, hown, hts, hlk, hK, hnm, hA, hZs⟩ := X0
  obtain ⟨hP, hD, hS, hg⟩ := id I
  subst hst
  obtain ⟨cn, rfl⟩ : ∃ cn : Nat, c0 = cn := ⟨c0.toNat, by omega⟩
  have hP1 := zw_at sh g h (c := cn) (by omega)
  rw [zc_obj hsc.1] at hP1
  have hrun : va_Run p l e R s m args below meth c H locs u1 u2 mc' ms' (F0 m pc ls ((av.map (zv g.1)).reverse ++ .ref (g.1 cn) :: st.map (zv g.1))) (st.map (zv g.1)) (zQ sh D g (va_A (zw sh g h) H.size) Q' (Value.ref (g.1 cn) :: av.map (zv g.1)).toArray) (va_A (zw sh g h) H.size) := by
    refine va_runV (C := y'.cls) ⟨hx, hb, hml, hown, hts⟩ (hT D g H.size) ⟨callB_of np hts (zws_good hb1.1) rfl hrm.1 hrm.2.1 (hts _ hb1.2.1) (hts _ hm.1) hb1.2.2 hrm.2.2.1, hts _ hm.2.1, hts _ hm.2.2⟩ ⟨zPc_blind sh D g H.size _ h, ?_, fun U hU hW => ?_⟩ rfl (by rw [List.length_map]; exact hlen) (by rw [← hml]; exact (Z.2.1).trans hml.symm) rfl (lv_room (z_cat g.1 st hrest)) hd.1 hrm.2.2.2
    · have := va_recv hK hP hcl hP1
      rw [hcn] at this
      exact this
    · have := zPc_at X I (.inr (cn : Int) :: av) U hU hW
      rw [List.map_cons, zv_ref _ (show ¬ (cn : Int) = -1 by omega)] at this
      exact this
  rw [List.map_append, List.map_reverse, List.map_cons, zv_ref _ (show ¬ (cn : Int) = -1 by omega)]
  refine z_back X I hrun (fun r h' hq H1 locs1 I1 => ?_)
  have K := kk r h' hq D g p e s m args below meth c A H1 locs1 ls X I1 Z
  rw [← hd.2] at K
  rw [z_toList]
  exact K
theorem zj_callS {idx : Nat} {y' : MethodName} {cc' : ByteArray} {nL' : Nat} {ret' : Option FieldType} {rm' : Room} {mc' ms' np : Nat} {Q' : Option zV → zM → Prop} {av st0 : List zV} (hd : zd cc pc (.invokestatic idx) 3 n) (hb1 : zMb y' cc' nL' ret' np) (hm : zMS y.cls idx y') (hst : st0 = av.reverse ++ st) (hlen : av.length = np) (hrest : st.length ≤ 8) (hT : zT sh l y' cc' nL' ret' rm' mc' ms' av h Q') (hrm : zRm R rm' nL' u1 u2 mc' ms') (kk : ∀ r h', Q' r h' → zJ sh l y cc nL ret R mc ms Q (u1 + mc') (u2 + ms') n L (r.toList ++ st) h') : zJ sh l y cc nL ret R mc ms Q u1 u2 pc L st0 h := by
  intro D g p e s m args below meth c A H locs ls X I Z
  have X0 := X
  obtain ⟨hx, hb, hml, hr, hown, hts, hlk, hK, hnm, hA, hZs⟩ := X0
  obtain ⟨hP, hD, hS, hg⟩ := id I
  subst hst
  have hrun : va_Run p l e R s m args below meth c H locs u1 u2 mc' ms' (F0 m pc ls ((av.map (zv g.1)).reverse ++ st.map (zv g.1))) (st.map (zv g.1)) (zQ sh D g (va_A (zw sh g h) H.size) Q' (av.map (zv g.1)).toArray) (va_A (zw sh g h) H.size) := by
    rcases hm.2 with hm2 | ⟨host, hm2⟩
    · exact va_runS ⟨hx, hb, hml, hown, hts⟩ (hT D g H.size) ⟨callB_of np hts (zws_good hb1.1) rfl hrm.1 hrm.2.1 (hts _ hb1.2.1) (hts _ hm2) hb1.2.2 hrm.2.2.1, hts _ hm.1⟩ ⟨zPc_blind sh D g H.size _ h, fun U hU hW => zPc_at X I av U hU hW⟩ rfl (by rw [List.length_map]; exact hlen) (by rw [← hml]; exact (Z.2.1).trans hml.symm) rfl (lv_room (z_cat g.1 st hrest)) hd.1 hrm.2.2.2
    · exact va_runSN ⟨hx, hb, hml, hown, hts⟩ (hT D g H.size) ⟨va_cnB np hts (zws_good hb1.1) rfl hrm.1 hrm.2.1 (hZs.2.2.2.1 _ hm2) (hts _ hb1.2.1) hb1.2.2 hrm.2.2.1, hts _ hm.1, trivial⟩ ⟨zPc_blind sh D g H.size _ h, fun U hU hW => zPc_at X I av U hU hW⟩ rfl (by rw [List.length_map]; exact hlen) (by rw [← hml]; exact (Z.2.1).trans hml.symm) rfl (lv_room (z_cat g.1 st hrest)) hd.1 hrm.2.2.2
  rw [List.map_append, List.map_reverse]
  refine z_back X I hrun (fun r h' hq H1 locs1 I1 => ?_)
  have K := kk r h' hq D g p e s m args below meth c A H1 locs1 ls X I1 Z
  rw [← hd.2] at K
  rw [z_toList]
  exact K
theorem zj_callI {c0 : Int} {idx : Nat} {y' : MethodName} {cc' : ByteArray} {nL' : Nat} {ret' : Option FieldType} {rm' : Room} {mc' ms' np : Nat} {Q' : Option zV → zM → Prop} {av st0 : List zV} (hd : zd cc pc (.invokespecial idx) 3 n) (hb1 : zMb y' cc' nL' none np) (hm : zMI y.cls idx y') (hc : ¬ c0 = -1) (hst : st0 = av.reverse ++ .inr c0 :: st) (hlen : av.length = np) (hrest : st.length ≤ 8) (hT : zT sh l y' cc' nL' none rm' mc' ms' (.inr c0 :: av) h Q') (hrm : zRm R rm' nL' u1 u2 mc' ms') (kk : ∀ r h', Q' r h' → zJ sh l y cc nL ret R mc ms Q (u1 + mc') (u2 + ms') n L (r.toList ++ st) h') : zJ sh l y cc nL ret R mc ms Q u1 u2 pc L st0 h := by
  intro D g p e s m args below meth c A H locs ls X I Z
  have X0 := X
  obtain ⟨hx, hb, hml, hr, hown, hts, hlk, hK, hnm, hA, hZs⟩ := X0
  obtain ⟨hP, hD, hS, hg⟩ := id I
  subst hst
  have hpre : PreS s H (zPc sh D g H.size (.inr c0 :: av) h) (.ref (g.1 c0) :: av.map (zv g.1)) := ⟨zPc_blind sh D g H.size _ h, fun U hU hW => by
    have := zPc_at X I (.inr c0 :: av) U hU hW
    rw [List.map_cons, zv_ref _ hc] at this
    exact this⟩
  have hrun : va_Run p l e R s m args below meth c H locs u1 u2 mc' ms' (F0 m pc ls ((av.map (zv g.1)).reverse ++ .ref (g.1 c0) :: st.map (zv g.1))) (st.map (zv g.1)) (zQ sh D g (va_A (zw sh g h) H.size) Q' (Value.ref (g.1 c0) :: av.map (zv g.1)).toArray) (va_A (zw sh g h) H.size) := by
    rcases hm.2.2 with hm2 | ⟨host, hm2⟩
    · exact va_runI ⟨hx, hb, hml, hown, hts⟩ (hT D g H.size) ⟨callB_of np hts (zws_good hb1.1) rfl hrm.1 hrm.2.1 (hts _ hb1.2.1) (hts _ hm2) hb1.2.2 hrm.2.2.1, hm.2.1, hts _ hm.1⟩ hpre rfl (by rw [List.length_map]; exact hlen) (by rw [← hml]; exact (Z.2.1).trans hml.symm) rfl (lv_room (z_cat g.1 st hrest)) hd.1 hrm.2.2.2
    · exact va_runIN ⟨hx, hb, hml, hown, hts⟩ (hT D g H.size) ⟨va_cnB np hts (zws_good hb1.1) rfl hrm.1 hrm.2.1 (hZs.2.2.2.1 _ hm2) (hts _ hb1.2.1) hb1.2.2 hrm.2.2.1, hm.2.1, hts _ hm.1⟩ hpre rfl (by rw [List.length_map]; exact hlen) (by rw [← hml]; exact (Z.2.1).trans hml.symm) rfl (lv_room (z_cat g.1 st hrest)) hd.1 hrm.2.2.2
  rw [List.map_append, List.map_reverse, List.map_cons, zv_ref _ hc]
  refine z_back X I hrun (fun r h' hq H1 locs1 I1 => ?_)
  have K := kk r h' hq D g p e s m args below meth c A H1 locs1 ls X I1 Z
  rw [← hd.2] at K
  rw [z_toList]
  exact K
def zqi (P : Int → zM → Prop) : Option zV → zM → Prop := fun r h' => ∃ v, r = some (.inl v) ∧ P v h'
def zqv (P : zM → Prop) : Option zV → zM → Prop := fun r h' => r = none ∧ P h'
theorem zq_i {P : Int → zM → Prop} (kk : ∀ v h', P v h' → zJ sh l y cc nL ret R mc ms Q u1 u2 n L (.inl v :: st) h') : ∀ r h', zqi P r h' → zJ sh l y cc nL ret R mc ms Q u1 u2 n L (r.toList ++ st) h' := by
  rintro _ h' ⟨v, rfl, hp⟩
  exact kk v h' hp
theorem zq_v {P : zM → Prop} (kk : ∀ h', P h' → zJ sh l y cc nL ret R mc ms Q u1 u2 n L st h') : ∀ r h', zqv P r h' → zJ sh l y cc nL ret R mc ms Q u1 u2 n L (r.toList ++ st) h' := by
  rintro _ h' ⟨rfl, hp⟩
  exact kk h' hp
end ZCALL
end
section
theorem zeq {x a : Int} (h : a ≤ x ∧ x ≤ a) : x = a := by omega
theorem zeqe {x a b : Int} (h : a ≤ x ∧ x ≤ a) (e : a = b) : x = b := by omega
theorem zwr_r {h h' : zM} {c k v a b : Int} (e : h' = zwr h c k v) (n : ¬ (a = c ∧ b = k)) : h'.2 a b = h.2 a b := by rw [e, zwr_n n]
theorem zwr_v {h h' : zM} {c k v : Int} (e : h' = zwr h c k v) : h'.2 c k = v := by rw [e, zwr_s]
def rmL (d : Nat) : Room := { frames := d, cells := 0, slots := 0, locals := 80 * d }
theorem rm_ok {d d' nL : Nat} (h1 : d' < d) (h2 : nL ≤ 50) : zRm (rmL d) (rmL d') nL 0 0 0 0 := ⟨rfl, rfl, ⟨h1, by show 8 + (nL + 11) + 80 * d' ≤ 80 * d; omega⟩, Nat.le_refl _, Nat.le_refl _⟩
theorem zmul1 {x a b c lo hi : Int} (hx : a ≤ x ∧ x ≤ b) (h1 : lo ≤ a * c) (h2 : lo ≤ b * c) (h3 : a * c ≤ hi) (h4 : b * c ≤ hi) : lo ≤ x * c ∧ x * c ≤ hi := by
  rcases Int.le_total 0 c with hc | hc
  · have q1 := Int.mul_le_mul_of_nonneg_right hx.1 hc
    have q2 := Int.mul_le_mul_of_nonneg_right hx.2 hc
    omega
  · have q1 := Int.mul_le_mul_of_nonpos_right hx.1 hc
    have q2 := Int.mul_le_mul_of_nonpos_right hx.2 hc
    omega
theorem zmul_b {x y a b c d lo hi : Int} (hx : a ≤ x ∧ x ≤ b) (hy : c ≤ y ∧ y ≤ d) (h : (lo ≤ a * c ∧ lo ≤ b * c ∧ a * c ≤ hi ∧ b * c ≤ hi) ∧ (lo ≤ a * d ∧ lo ≤ b * d ∧ a * d ≤ hi ∧ b * d ≤ hi)) : lo ≤ x * y ∧ x * y ≤ hi := by
  have p := zmul1 (c := c) hx h.1.1 h.1.2.1 h.1.2.2.1 h.1.2.2.2
  have q := zmul1 (c := d) hx h.2.1 h.2.2.1 h.2.2.2.1 h.2.2.2.2
  rw [Int.mul_comm x c] at p
  rw [Int.mul_comm x d] at q
  rw [Int.mul_comm x y]
  exact zmul1 (c := x) hy p.1 q.1 p.2 q.2
theorem zdiv_b {x b : Int} (hx : 0 ≤ x) (hb : 0 < b) : 0 ≤ x / b ∧ x / b ≤ x := ⟨Int.ediv_nonneg hx (Int.le_of_lt hb), Int.ediv_le_self b hx⟩
theorem zmod_b {x b : Int} (hx : 0 ≤ x) (hb : 0 < b) : 0 ≤ x % b ∧ x % b < b ∧ x % b ≤ x := by
  refine ⟨Int.emod_nonneg x (by omega), Int.emod_lt_of_pos x hb, ?_⟩
  have h1 := Int.emod_add_mul_ediv x b
  have h2 : 0 ≤ b * (x / b) := Int.mul_nonneg (Int.le_of_lt hb) (Int.ediv_nonneg hx (Int.le_of_lt hb))
  omega
theorem ztd_c (x c : Int) (_hc : 0 < c) : (0 ≤ x → x.tdiv c = x / c) ∧ (x < 0 → x.tdiv c = -((-x) / c)) := by
  refine ⟨fun h => Int.tdiv_eq_ediv_of_nonneg h, fun h => ?_⟩
  have : x.tdiv c = -((-x).tdiv c) := by rw [Int.neg_tdiv, Int.neg_neg]
  rw [this, Int.tdiv_eq_ediv_of_nonneg (by omega)]
theorem ztm_c (x c : Int) (_hc : 0 < c) : (0 ≤ x → x.tmod c = x % c) ∧ (x < 0 → x.tmod c = -((-x) % c)) := by
  refine ⟨fun h => Int.tmod_eq_emod_of_nonneg h, fun h => ?_⟩
  have : x.tmod c = -((-x).tmod c) := by rw [Int.neg_tmod, Int.neg_neg]
  rw [this, Int.tmod_eq_emod_of_nonneg (by omega)]
theorem ztm_b (x b : Int) (hb : ¬ b = 0) : (0 < b → -b < x.tmod b ∧ x.tmod b < b) ∧ (b < 0 → b < x.tmod b ∧ x.tmod b < -b) ∧ (0 ≤ x → 0 ≤ x.tmod b) ∧ (x ≤ 0 → x.tmod b ≤ 0) := by
  have key : ∀ (z d : Int), 0 ≤ z → 0 < d → 0 ≤ z.tmod d ∧ z.tmod d < d := fun z d h1 h2 => by
    rw [Int.tmod_eq_emod_of_nonneg h1]; exact ⟨Int.emod_nonneg z (by omega), Int.emod_lt_of_pos z h2⟩
  rcases Int.lt_or_le b 0 with h | h <;> rcases Int.le_total 0 x with h2 | h2
  · have := key x (-b) h2 (by omega); rw [Int.tmod_neg] at this
    refine ⟨fun q => by omega, fun q => by omega, fun q => this.1, fun q => ?_⟩
    have : x = 0 := by omega
    subst this; simp
  · have := key (-x) (-b) (by omega) (by omega); rw [Int.tmod_neg, Int.neg_tmod] at this
    refine ⟨fun q => by omega, fun q => by omega, fun q => ?_, fun q => by omega⟩
    have : x = 0 := by omega
    subst this; simp
  · have := key x b h2 (by omega)
    refine ⟨fun q => by omega, fun q => by omega, fun q => this.1, fun q => ?_⟩
    have : x = 0 := by omega
    subst this; simp
  · have := key (-x) b (by omega) (by omega); rw [Int.neg_tmod] at this
    refine ⟨fun q => by omega, fun q => by omega, fun q => ?_, fun q => by omega⟩
    have : x = 0 := by omega
    subst this; simp
theorem ztd_b (x b : Int) : (0 ≤ x → -x ≤ x.tdiv b ∧ x.tdiv b ≤ x) ∧ (x ≤ 0 → x ≤ x.tdiv b ∧ x.tdiv b ≤ -x) := by
  have h : (x.tdiv b).natAbs ≤ x.natAbs := by rw [Int.natAbs_tdiv]; exact Nat.div_le_self _ _
  omega
/-- bits, by the naturals -/
theorem zb_nat {x : Int32} {n : Nat} (h : x.toBitVec.toNat = n) (hn : n < 2147483648) : x.toInt = (n : Int) := by
  show x.toBitVec.toInt = _
  rw [BitVec.toInt_eq_toNat_of_lt (by omega), h]
theorem zb_of (a : Int) : (Int32.ofInt a).toBitVec.toNat = (a % 4294967296).toNat := by
  show (BitVec.ofInt 32 a).toNat = _
  rw [BitVec.toNat_ofInt]; rfl
theorem zb_pos {a : Int} (h : 0 ≤ a ∧ a ≤ 2147483647) : (Int32.ofInt a).toBitVec.toNat = a.toNat := by
  rw [zb_of]; congr 1; omega
theorem zand_n (a b : Int) : (zand_ (Int32.ofInt a) (Int32.ofInt b)).toBitVec.toNat = (Int32.ofInt a).toBitVec.toNat &&& (Int32.ofInt b).toBitVec.toNat := by
  show (Int32.ofInt a &&& Int32.ofInt b).toBitVec.toNat = _
  rw [Int32.toBitVec_and, BitVec.toNat_and]
theorem zand_l {a : Int} (h : 0 ≤ a ∧ a ≤ 2147483647) (b : Int) : 0 ≤ zand a b ∧ zand a b ≤ a := by
  have h1 := zand_n a b
  rw [zb_pos h] at h1
  have h2 : a.toNat &&& (Int32.ofInt b).toBitVec.toNat ≤ a.toNat := Nat.and_le_left
  have h3 := zb_nat h1 (by omega)
  unfold zand
  omega
theorem zand_comm (a b : Int) : zand a b = zand b a := by
  unfold zand zand_
  rw [Int32.and_comm]
theorem zand_r (a : Int) {b : Int} (h : 0 ≤ b ∧ b ≤ 2147483647) : 0 ≤ zand a b ∧ zand a b ≤ b := by
  rw [zand_comm]; exact zand_l h a
theorem zand_m {c d : Int} (k : Nat) (hk : k ≤ 31) (hc : c = 2 ^ k - 1) (hd : d = 2 ^ k) (a : Int) : zand a c = a % d := by
  have hp : (2 : Int) ^ k = ((2 ^ k : Nat) : Int) := by simp
  have hp1 : 1 ≤ 2 ^ k := Nat.one_le_two_pow
  have hp2 : 2 ^ k ≤ 2 ^ 31 := Nat.pow_le_pow_right (by decide) hk
  have h1 := zand_n a c
  rw [zb_pos (a := c) (by omega), show c.toNat = 2 ^ k - 1 by omega, Nat.and_two_pow_sub_one_eq_mod, zb_of] at h1
  have hlt : (a % 4294967296).toNat % 2 ^ k < 2 ^ k := Nat.mod_lt _ (by omega)
  have h3 := zb_nat h1 (by omega)
  have h4 : zand a c = (((a % 4294967296).toNat % 2 ^ k : Nat) : Int) := h3
  rw [h4, Int.natCast_emod, Int.toNat_of_nonneg (by omega), hd, hp]
  have hdv : ((2 ^ k : Nat) : Int) ∣ 4294967296 := by
    refine ⟨((2 ^ (32 - k) : Nat) : Int), ?_⟩
    rw [← Int.natCast_mul, ← Nat.pow_add, show k + (32 - k) = 32 by omega]; rfl
  exact Int.emod_emod_of_dvd a hdv
theorem zxor_k {a b K : Int} (k : Nat) (hk : k ≤ 30) (hK : K = 2 ^ k) (ha : 0 ≤ a ∧ a < K) (hb : 0 ≤ b ∧ b < K) : 0 ≤ zxor a b ∧ zxor a b < K := by
  have hp : (2 : Int) ^ k = ((2 ^ k : Nat) : Int) := by simp
  have hp2 : 2 ^ k ≤ 2 ^ 30 := Nat.pow_le_pow_right (by decide) hk
  have h1 : (zxor_ (Int32.ofInt a) (Int32.ofInt b)).toBitVec.toNat = a.toNat ^^^ b.toNat := by
    show (Int32.ofInt a ^^^ Int32.ofInt b).toBitVec.toNat = _
    rw [Int32.toBitVec_xor, BitVec.toNat_xor, zb_pos (by omega), zb_pos (by omega)]
  have h2 : a.toNat ^^^ b.toNat < 2 ^ k := Nat.xor_lt_two_pow (by omega) (by omega)
  have h3 := zb_nat h1 (by omega)
  unfold zxor
  omega
theorem zor_k {a b K : Int} (k : Nat) (hk : k ≤ 30) (hK : K = 2 ^ k) (ha : 0 ≤ a ∧ a < K) (hb : 0 ≤ b ∧ b < K) : 0 ≤ zor a b ∧ zor a b < K := by
  have hp : (2 : Int) ^ k = ((2 ^ k : Nat) : Int) := by simp
  have hp2 : 2 ^ k ≤ 2 ^ 30 := Nat.pow_le_pow_right (by decide) hk
  have h1 : (zor_ (Int32.ofInt a) (Int32.ofInt b)).toBitVec.toNat = a.toNat ||| b.toNat := by
    show (Int32.ofInt a ||| Int32.ofInt b).toBitVec.toNat = _
    rw [Int32.toBitVec_or, BitVec.toNat_or, zb_pos (by omega), zb_pos (by omega)]
  have h2 : a.toNat ||| b.toNat < 2 ^ k := Nat.or_lt_two_pow (by omega) (by omega)
  have h3 := zb_nat h1 (by omega)
  unfold zor
  omega
theorem zshl_e : ∀ n : Nat, n < 31 → zshl 1 (n : Int) = ((2 ^ n : Nat) : Int) := by decide +kernel
theorem zshl_1 {n a b lo hi : Int} (hx : a ≤ n ∧ n ≤ b) (hc : 0 ≤ a ∧ b ≤ 30) (hl : lo = ((2 ^ a.toNat : Nat) : Int)) (hh : hi = ((2 ^ b.toNat : Nat) : Int)) : lo ≤ zshl 1 n ∧ zshl 1 n ≤ hi := by
  have h1 := zshl_e n.toNat (by omega)
  rw [Int.toNat_of_nonneg (by omega)] at h1
  have h2 : 2 ^ a.toNat ≤ 2 ^ n.toNat := Nat.pow_le_pow_right (by decide) (by omega)
  have h3 : 2 ^ n.toNat ≤ 2 ^ b.toNat := Nat.pow_le_pow_right (by decide) (by omega)
  omega
theorem zushr_c {a c K : Int} (k : Nat) (hk : 0 < k ∧ k < 32) (hc : c = (k : Int)) (hK : K = 2 ^ (32 - k)) : 0 ≤ zushr a c ∧ zushr a c < K := by
  have hp : (2 : Int) ^ (32 - k) = ((2 ^ (32 - k) : Nat) : Int) := by simp
  have hs : (((Int32.ofInt c).toUInt32 &&& Int32.toUInt32 31).toBitVec % 32).toNat = k := by
    subst hc
    have : ∀ k : Nat, k < 32 → (((Int32.ofInt (k : Int)).toUInt32 &&& Int32.toUInt32 31).toBitVec % 32).toNat = k := by decide +kernel
    exact this k hk.2
  have h1 := pk_ushr (Int32.ofInt a) (Int32.ofInt c) k hs
  have h0 : (Int32.ofInt a).toBitVec.toNat < 2 ^ 32 := (Int32.ofInt a).toBitVec.isLt
  have h2 : (Int32.ofInt a).toBitVec.toNat / 2 ^ k < 2 ^ (32 - k) := by
    rw [Nat.div_lt_iff_lt_mul (Nat.two_pow_pos k), ← Nat.pow_add, show 32 - k + k = 32 by omega]; exact h0
  have h4 : 2 ^ (32 - k) ≤ 2 ^ 31 := Nat.pow_le_pow_right (by decide) (by omega)
  have h3 := zb_nat h1 (by omega)
  show 0 ≤ (zushr_ (Int32.ofInt a) (Int32.ofInt c)).toInt ∧ (zushr_ (Int32.ofInt a) (Int32.ofInt c)).toInt < K
  unfold zushr_
  omega
def zde (cc : ByteArray) (pc : Nat) (x : Instr) (len : Nat) : Bool := decide (decode cc pc = .ok (x, len))
theorem zde_ok {cc : ByteArray} {pc : Nat} {x : Instr} {len : Nat} (h : zde cc pc x len = true) : decode cc pc = .ok (x, len) := of_decide_eq_true h
def zdt (cc : ByteArray) (t : List (Nat × Instr × Nat)) : Bool := t.all fun q => zde cc q.1 q.2.1 q.2.2
theorem zdk {cc : ByteArray} {t : List (Nat × Instr × Nat)} (h : zdt cc t = true) (i : Nat) {pc len n : Nat} {x : Instr} (hi : t[i]? = some (pc, x, len)) (hn : pc + len = n) : zd cc pc x len n := by
  have h1 : ∀ q ∈ t, zde cc q.1 q.2.1 q.2.2 = true := List.all_eq_true.mp h
  exact ⟨zde_ok (h1 (pc, x, len) (List.mem_of_getElem? hi)), hn⟩
end
section
theorem zt_a1 {w : Cond} (i : Nat) (h : tables_1_1[i]? = some w) (hg : goodWord w = true) : w ∈ zt := zt_in (List.mem_append_right _ (List.mem_append_left _ (List.mem_of_getElem? h))) hg
theorem zt_a2 {w : Cond} (i : Nat) (h : tables_1_2[i]? = some w) (hg : goodWord w = true) : w ∈ zt := zt_in (List.mem_append_right _ (List.mem_append_right _ (List.mem_append_left _ (List.mem_of_getElem? h)))) hg
theorem zt_a3 {w : Cond} (i : Nat) (h : tables_1_3[i]? = some w) (hg : goodWord w = true) : w ∈ zt := zt_in (List.mem_append_right _ (List.mem_append_right _ (List.mem_append_right _ (List.mem_append_left _ (List.mem_of_getElem? h))))) hg
theorem zt_a4 {w : Cond} (i : Nat) (h : tables_1_4[i]? = some w) (hg : goodWord w = true) : w ∈ zt := zt_in (List.mem_append_right _ (List.mem_append_right _ (List.mem_append_right _ (List.mem_append_right _ (List.mem_append_left _ (List.mem_of_getElem? h)))))) hg
theorem zt_a5 {w : Cond} (i : Nat) (h : tables_1_5[i]? = some w) (hg : goodWord w = true) : w ∈ zt := zt_in (List.mem_append_right _ (List.mem_append_right _ (List.mem_append_right _ (List.mem_append_right _ (List.mem_append_right _ (List.mem_append_left _ (List.mem_of_getElem? h))))))) hg
theorem zt_a6 {w : Cond} (i : Nat) (h : tables_1_6[i]? = some w) (hg : goodWord w = true) : w ∈ zt := zt_in (List.mem_append_right _ (List.mem_append_right _ (List.mem_append_right _ (List.mem_append_right _ (List.mem_append_right _ (List.mem_append_right _ (List.mem_append_left _ (List.mem_of_getElem? h)))))))) hg
theorem zt_a7 {w : Cond} (i : Nat) (h : tables_1_7[i]? = some w) (hg : goodWord w = true) : w ∈ zt := zt_in (List.mem_append_right _ (List.mem_append_right _ (List.mem_append_right _ (List.mem_append_right _ (List.mem_append_right _ (List.mem_append_right _ (List.mem_append_right _ (List.mem_append_left _ (List.mem_of_getElem? h))))))))) hg
theorem zt_a8 {w : Cond} (i : Nat) (h : tables_1_8[i]? = some w) (hg : goodWord w = true) : w ∈ zt := zt_in (List.mem_append_right _ (List.mem_append_right _ (List.mem_append_right _ (List.mem_append_right _ (List.mem_append_right _ (List.mem_append_right _ (List.mem_append_right _ (List.mem_append_right _ ((List.mem_of_getElem? h)))))))))) hg
theorem zt_sel {y : MethodName} {n : Nat} (i : Nat) (h : lw_privs[i]? = some (y, n)) : Cond.selects y.cls y y ∈ zt := zt_in (List.mem_append_left _ (List.mem_map.mpr ⟨(y, n), List.mem_of_getElem? h, rfl⟩)) rfl
theorem zly_0_0 : u_lay RX0 TX0 0 ∈ zt := zt_a1 216 rfl rfl
theorem zly_0_1 : u_lay RX0 TX0 1 ∈ zt := zt_a1 218 rfl rfl
theorem zly_0_2 : u_lay RX0 TX0 2 ∈ zt := zt_a1 220 rfl rfl
theorem zly_0_3 : u_lay RX0 TX0 3 ∈ zt := zt_a1 222 rfl rfl
theorem zly_0_4 : u_lay RX0 TX0 4 ∈ zt := zt_a1 224 rfl rfl
theorem zlw_0 : ∀ w ∈ u_ws RX0 TX0 (znf 0), w ∈ zt := by
  intro w hw
  obtain ⟨k, hk, rfl⟩ := List.mem_map.mp hw
  have hk : k < 5 := List.mem_range.mp hk
  match k, hk with
  | 0, _ => exact zly_0_0
  | 1, _ => exact zly_0_1
  | 2, _ => exact zly_0_2
  | 3, _ => exact zly_0_3
  | 4, _ => exact zly_0_4
  | k + 5, h => exact absurd h (by omega)
theorem z_tyX0 : ∀ k, k < znf 0 → zty (zfk 0 k) (tyX0 k) := by
  intro k hk
  have hk : k < 5 := hk
  match k, hk with
  | 0, _ => exact ⟨rfl, fun v hv => by rcases hv with rfl | ⟨a, rfl⟩ <;> exact ⟨rfl, rfl⟩⟩
  | 1, _ => exact ⟨rfl, fun v hv => by rcases hv with rfl | ⟨a, rfl⟩ <;> exact ⟨rfl, rfl⟩⟩
  | 2, _ => exact ⟨rfl, fun v hv => by rcases hv with rfl | ⟨a, rfl⟩ <;> exact ⟨rfl, rfl⟩⟩
  | 3, _ => exact ⟨rfl, fun v hv => by rcases hv with rfl | ⟨a, rfl⟩ <;> exact ⟨rfl, rfl⟩⟩
  | 4, _ => exact rfl
  | k + 5, h => exact absurd h (by omega)
theorem zcl0 : zCl 0 RX0 TX0 tyX0 := ⟨rfl, zlw_0, tyX0_ok, nmX0, z_tyX0⟩
theorem zly_1_0 : u_lay RX1 TX1 0 ∈ zt := zt_a1 82 rfl rfl
theorem zly_1_1 : u_lay RX1 TX1 1 ∈ zt := zt_a1 84 rfl rfl
theorem zly_1_2 : u_lay RX1 TX1 2 ∈ zt := zt_a1 86 rfl rfl
theorem zly_1_3 : u_lay RX1 TX1 3 ∈ zt := zt_a1 88 rfl rfl
theorem zly_1_4 : u_lay RX1 TX1 4 ∈ zt := zt_a1 90 rfl rfl
theorem zly_1_5 : u_lay RX1 TX1 5 ∈ zt := zt_a1 92 rfl rfl
theorem zly_1_6 : u_lay RX1 TX1 6 ∈ zt := zt_a1 94 rfl rfl
theorem zly_1_7 : u_lay RX1 TX1 7 ∈ zt := zt_a1 96 rfl rfl
theorem zly_1_8 : u_lay RX1 TX1 8 ∈ zt := zt_a1 98 rfl rfl
theorem zly_1_9 : u_lay RX1 TX1 9 ∈ zt := zt_a1 100 rfl rfl
theorem zly_1_10 : u_lay RX1 TX1 10 ∈ zt := zt_a1 102 rfl rfl
theorem zly_1_11 : u_lay RX1 TX1 11 ∈ zt := zt_a1 104 rfl rfl
theorem zly_1_12 : u_lay RX1 TX1 12 ∈ zt := zt_a1 106 rfl rfl
theorem zly_1_13 : u_lay RX1 TX1 13 ∈ zt := zt_a1 108 rfl rfl
theorem zlw_1 : ∀ w ∈ u_ws RX1 TX1 (znf 1), w ∈ zt := by
  intro w hw
  obtain ⟨k, hk, rfl⟩ := List.mem_map.mp hw
  have hk : k < 14 := List.mem_range.mp hk
  match k, hk with
  | 0, _ => exact zly_1_0
  | 1, _ => exact zly_1_1
  | 2, _ => exact zly_1_2
  | 3, _ => exact zly_1_3
  | 4, _ => exact zly_1_4
  | 5, _ => exact zly_1_5
  | 6, _ => exact zly_1_6
  | 7, _ => exact zly_1_7
  | 8, _ => exact zly_1_8
  | 9, _ => exact zly_1_9
  | 10, _ => exact zly_1_10
  | 11, _ => exact zly_1_11
  | 12, _ => exact zly_1_12
  | 13, _ => exact zly_1_13
  | k + 14, h => exact absurd h (by omega)
theorem z_tyX1 : ∀ k, k < znf 1 → zty (zfk 1 k) (tyX1 k) := by
  intro k hk
  have hk : k < 14 := hk
  match k, hk with
  | 0, _ => exact ⟨rfl, fun v hv => by rcases hv with rfl | ⟨a, rfl⟩ <;> exact ⟨rfl, rfl⟩⟩
  | 1, _ => exact ⟨rfl, fun v hv => by rcases hv with rfl | ⟨a, rfl⟩ <;> exact ⟨rfl, rfl⟩⟩
  | 2, _ => exact ⟨rfl, fun v hv => by rcases hv with rfl | ⟨a, rfl⟩ <;> exact ⟨rfl, rfl⟩⟩
  | 3, _ => exact rfl
  | 4, _ => exact rfl
  | 5, _ => exact rfl
  | 6, _ => exact rfl
  | 7, _ => exact rfl
  | 8, _ => exact rfl
  | 9, _ => exact rfl
  | 10, _ => exact rfl
  | 11, _ => exact rfl
  | 12, _ => exact rfl
  | 13, _ => exact rfl
  | k + 14, h => exact absurd h (by omega)
theorem zcl1 : zCl 1 RX1 TX1 tyX1 := ⟨rfl, zlw_1, tyX1_ok, nmX1, z_tyX1⟩
theorem zly_2_0 : u_lay RX2 TX2 0 ∈ zt := zt_a1 195 rfl rfl
theorem zly_2_1 : u_lay RX2 TX2 1 ∈ zt := zt_a1 197 rfl rfl
theorem zlw_2 : ∀ w ∈ u_ws RX2 TX2 (znf 2), w ∈ zt := by
  intro w hw
  obtain ⟨k, hk, rfl⟩ := List.mem_map.mp hw
  have hk : k < 2 := List.mem_range.mp hk
  match k, hk with
  | 0, _ => exact zly_2_0
  | 1, _ => exact zly_2_1
  | k + 2, h => exact absurd h (by omega)
theorem z_tyX2 : ∀ k, k < znf 2 → zty (zfk 2 k) (tyX2 k) := by
  intro k hk
  have hk : k < 2 := hk
  match k, hk with
  | 0, _ => exact ⟨rfl, fun v hv => by rcases hv with rfl | ⟨a, rfl⟩ <;> exact ⟨rfl, rfl⟩⟩
  | 1, _ => exact rfl
  | k + 2, h => exact absurd h (by omega)
theorem zcl2 : zCl 2 RX2 TX2 tyX2 := ⟨rfl, zlw_2, tyX2_ok, nmX2, z_tyX2⟩
theorem zly_3_0 : u_lay RX3 TX3 0 ∈ zt := zt_a1 138 rfl rfl
theorem zly_3_1 : u_lay RX3 TX3 1 ∈ zt := zt_a1 140 rfl rfl
theorem zly_3_2 : u_lay RX3 TX3 2 ∈ zt := zt_a1 142 rfl rfl
theorem zly_3_3 : u_lay RX3 TX3 3 ∈ zt := zt_a1 144 rfl rfl
theorem zly_3_4 : u_lay RX3 TX3 4 ∈ zt := zt_a1 146 rfl rfl
theorem zly_3_5 : u_lay RX3 TX3 5 ∈ zt := zt_a1 148 rfl rfl
theorem zly_3_6 : u_lay RX3 TX3 6 ∈ zt := zt_a1 150 rfl rfl
theorem zly_3_7 : u_lay RX3 TX3 7 ∈ zt := zt_a1 152 rfl rfl
theorem zlw_3 : ∀ w ∈ u_ws RX3 TX3 (znf 3), w ∈ zt := by
  intro w hw
  obtain ⟨k, hk, rfl⟩ := List.mem_map.mp hw
  have hk : k < 8 := List.mem_range.mp hk
  match k, hk with
  | 0, _ => exact zly_3_0
  | 1, _ => exact zly_3_1
  | 2, _ => exact zly_3_2
  | 3, _ => exact zly_3_3
  | 4, _ => exact zly_3_4
  | 5, _ => exact zly_3_5
  | 6, _ => exact zly_3_6
  | 7, _ => exact zly_3_7
  | k + 8, h => exact absurd h (by omega)
theorem z_tyX3 : ∀ k, k < znf 3 → zty (zfk 3 k) (tyX3 k) := by
  intro k hk
  have hk : k < 8 := hk
  match k, hk with
  | 0, _ => exact ⟨rfl, fun v hv => by rcases hv with rfl | ⟨a, rfl⟩ <;> exact ⟨rfl, rfl⟩⟩
  | 1, _ => exact ⟨rfl, fun v hv => by rcases hv with rfl | ⟨a, rfl⟩ <;> exact ⟨rfl, rfl⟩⟩
  | 2, _ => exact ⟨rfl, fun v hv => by rcases hv with rfl | ⟨a, rfl⟩ <;> exact ⟨rfl, rfl⟩⟩
  | 3, _ => exact ⟨rfl, fun v hv => by rcases hv with rfl | ⟨a, rfl⟩ <;> exact ⟨rfl, rfl⟩⟩
  | 4, _ => exact ⟨rfl, fun v hv => by rcases hv with rfl | ⟨a, rfl⟩ <;> exact ⟨rfl, rfl⟩⟩
  | 5, _ => exact ⟨rfl, fun v hv => by rcases hv with rfl | ⟨a, rfl⟩ <;> exact ⟨rfl, rfl⟩⟩
  | 6, _ => exact rfl
  | 7, _ => exact rfl
  | k + 8, h => exact absurd h (by omega)
theorem zcl3 : zCl 3 RX3 TX3 tyX3 := ⟨rfl, zlw_3, tyX3_ok, nmX3, z_tyX3⟩
theorem zly_4_0 : u_lay RX4 TX4 0 ∈ zt := zt_a1 174 rfl rfl
theorem zly_4_1 : u_lay RX4 TX4 1 ∈ zt := zt_a1 176 rfl rfl
theorem zly_4_2 : u_lay RX4 TX4 2 ∈ zt := zt_a1 178 rfl rfl
theorem zly_4_3 : u_lay RX4 TX4 3 ∈ zt := zt_a1 180 rfl rfl
theorem zlw_4 : ∀ w ∈ u_ws RX4 TX4 (znf 4), w ∈ zt := by
  intro w hw
  obtain ⟨k, hk, rfl⟩ := List.mem_map.mp hw
  have hk : k < 4 := List.mem_range.mp hk
  match k, hk with
  | 0, _ => exact zly_4_0
  | 1, _ => exact zly_4_1
  | 2, _ => exact zly_4_2
  | 3, _ => exact zly_4_3
  | k + 4, h => exact absurd h (by omega)
theorem z_tyX4 : ∀ k, k < znf 4 → zty (zfk 4 k) (tyX4 k) := by
  intro k hk
  have hk : k < 4 := hk
  match k, hk with
  | 0, _ => exact ⟨rfl, fun v hv => by rcases hv with rfl | ⟨a, rfl⟩ <;> exact ⟨rfl, rfl⟩⟩
  | 1, _ => exact ⟨rfl, fun v hv => by rcases hv with rfl | ⟨a, rfl⟩ <;> exact ⟨rfl, rfl⟩⟩
  | 2, _ => exact ⟨rfl, fun v hv => by rcases hv with rfl | ⟨a, rfl⟩ <;> exact ⟨rfl, rfl⟩⟩
  | 3, _ => exact rfl
  | k + 4, h => exact absurd h (by omega)
theorem zcl4 : zCl 4 RX4 TX4 tyX4 := ⟨rfl, zlw_4, tyX4_ok, nmX4, z_tyX4⟩
theorem zly_5_0 : u_lay RX5 TX5 0 ∈ zt := zt_a2 8 rfl rfl
theorem zly_5_1 : u_lay RX5 TX5 1 ∈ zt := zt_a2 10 rfl rfl
theorem zly_5_2 : u_lay RX5 TX5 2 ∈ zt := zt_a2 12 rfl rfl
theorem zly_5_3 : u_lay RX5 TX5 3 ∈ zt := zt_a2 14 rfl rfl
theorem zly_5_4 : u_lay RX5 TX5 4 ∈ zt := zt_a2 16 rfl rfl
theorem zly_5_5 : u_lay RX5 TX5 5 ∈ zt := zt_a2 18 rfl rfl
theorem zly_5_6 : u_lay RX5 TX5 6 ∈ zt := zt_a2 20 rfl rfl
theorem zly_5_7 : u_lay RX5 TX5 7 ∈ zt := zt_a2 22 rfl rfl
theorem zly_5_8 : u_lay RX5 TX5 8 ∈ zt := zt_a2 24 rfl rfl
theorem zly_5_9 : u_lay RX5 TX5 9 ∈ zt := zt_a2 26 rfl rfl
theorem zlw_5 : ∀ w ∈ u_ws RX5 TX5 (znf 5), w ∈ zt := by
  intro w hw
  obtain ⟨k, hk, rfl⟩ := List.mem_map.mp hw
  have hk : k < 10 := List.mem_range.mp hk
  match k, hk with
  | 0, _ => exact zly_5_0
  | 1, _ => exact zly_5_1
  | 2, _ => exact zly_5_2
  | 3, _ => exact zly_5_3
  | 4, _ => exact zly_5_4
  | 5, _ => exact zly_5_5
  | 6, _ => exact zly_5_6
  | 7, _ => exact zly_5_7
  | 8, _ => exact zly_5_8
  | 9, _ => exact zly_5_9
  | k + 10, h => exact absurd h (by omega)
theorem z_tyX5 : ∀ k, k < znf 5 → zty (zfk 5 k) (tyX5 k) := by
  intro k hk
  have hk : k < 10 := hk
  match k, hk with
  | 0, _ => exact ⟨rfl, fun v hv => by rcases hv with rfl | ⟨a, rfl⟩ <;> exact ⟨rfl, rfl⟩⟩
  | 1, _ => exact ⟨rfl, fun v hv => by rcases hv with rfl | ⟨a, rfl⟩ <;> exact ⟨rfl, rfl⟩⟩
  | 2, _ => exact rfl
  | 3, _ => exact ⟨rfl, fun v hv => by rcases hv with rfl | ⟨a, rfl⟩ <;> exact ⟨rfl, rfl⟩⟩
  | 4, _ => exact rfl
  | 5, _ => exact ⟨rfl, fun v hv => by rcases hv with rfl | ⟨a, rfl⟩ <;> exact ⟨rfl, rfl⟩⟩
  | 6, _ => exact rfl
  | 7, _ => exact ⟨rfl, fun v hv => by rcases hv with rfl | ⟨a, rfl⟩ <;> exact ⟨rfl, rfl⟩⟩
  | 8, _ => exact ⟨rfl, fun v hv => by rcases hv with rfl | ⟨a, rfl⟩ <;> exact ⟨rfl, rfl⟩⟩
  | 9, _ => exact rfl
  | k + 10, h => exact absurd h (by omega)
theorem zcl5 : zCl 5 RX5 TX5 tyX5 := ⟨rfl, zlw_5, tyX5_ok, nmX5, z_tyX5⟩
theorem zly_6_0 : u_lay RX6 TX6 0 ∈ zt := zt_a2 80 rfl rfl
theorem zly_6_1 : u_lay RX6 TX6 1 ∈ zt := zt_a2 82 rfl rfl
theorem zly_6_2 : u_lay RX6 TX6 2 ∈ zt := zt_a2 84 rfl rfl
theorem zly_6_3 : u_lay RX6 TX6 3 ∈ zt := zt_a2 86 rfl rfl
theorem zly_6_4 : u_lay RX6 TX6 4 ∈ zt := zt_a2 88 rfl rfl
theorem zly_6_5 : u_lay RX6 TX6 5 ∈ zt := zt_a2 90 rfl rfl
theorem zly_6_6 : u_lay RX6 TX6 6 ∈ zt := zt_a2 92 rfl rfl
theorem zly_6_7 : u_lay RX6 TX6 7 ∈ zt := zt_a2 94 rfl rfl
theorem zly_6_8 : u_lay RX6 TX6 8 ∈ zt := zt_a2 96 rfl rfl
theorem zly_6_9 : u_lay RX6 TX6 9 ∈ zt := zt_a2 98 rfl rfl
theorem zlw_6 : ∀ w ∈ u_ws RX6 TX6 (znf 6), w ∈ zt := by
  intro w hw
  obtain ⟨k, hk, rfl⟩ := List.mem_map.mp hw
  have hk : k < 10 := List.mem_range.mp hk
  match k, hk with
  | 0, _ => exact zly_6_0
  | 1, _ => exact zly_6_1
  | 2, _ => exact zly_6_2
  | 3, _ => exact zly_6_3
  | 4, _ => exact zly_6_4
  | 5, _ => exact zly_6_5
  | 6, _ => exact zly_6_6
  | 7, _ => exact zly_6_7
  | 8, _ => exact zly_6_8
  | 9, _ => exact zly_6_9
  | k + 10, h => exact absurd h (by omega)
theorem z_tyX6 : ∀ k, k < znf 6 → zty (zfk 6 k) (tyX6 k) := by
  intro k hk
  have hk : k < 10 := hk
  match k, hk with
  | 0, _ => exact ⟨rfl, fun v hv => by rcases hv with rfl | ⟨a, rfl⟩ <;> exact ⟨rfl, rfl⟩⟩
  | 1, _ => exact ⟨rfl, fun v hv => by rcases hv with rfl | ⟨a, rfl⟩ <;> exact ⟨rfl, rfl⟩⟩
  | 2, _ => exact ⟨rfl, fun v hv => by rcases hv with rfl | ⟨a, rfl⟩ <;> exact ⟨rfl, rfl⟩⟩
  | 3, _ => exact rfl
  | 4, _ => exact rfl
  | 5, _ => exact rfl
  | 6, _ => exact rfl
  | 7, _ => exact rfl
  | 8, _ => exact rfl
  | 9, _ => exact rfl
  | k + 10, h => exact absurd h (by omega)
theorem zcl6 : zCl 6 RX6 TX6 tyX6 := ⟨rfl, zlw_6, tyX6_ok, nmX6, z_tyX6⟩
theorem zly_7_0 : u_lay RX7 TX7 0 ∈ zt := zt_a2 108 rfl rfl
theorem zlw_7 : ∀ w ∈ u_ws RX7 TX7 (znf 7), w ∈ zt := by
  intro w hw
  obtain ⟨k, hk, rfl⟩ := List.mem_map.mp hw
  have hk : k < 1 := List.mem_range.mp hk
  match k, hk with
  | 0, _ => exact zly_7_0
  | k + 1, h => exact absurd h (by omega)
theorem z_tyX7 : ∀ k, k < znf 7 → zty (zfk 7 k) (tyX7 k) := by
  intro k hk
  have hk : k < 1 := hk
  match k, hk with
  | 0, _ => exact ⟨rfl, fun v hv => by rcases hv with rfl | ⟨a, rfl⟩ <;> exact ⟨rfl, rfl⟩⟩
  | k + 1, h => exact absurd h (by omega)
theorem zcl7 : zCl 7 RX7 TX7 tyX7 := ⟨rfl, zlw_7, tyX7_ok, nmX7, z_tyX7⟩
theorem zly_8_0 : u_lay RX8 TX8 0 ∈ zt := zt_a2 123 rfl rfl
theorem zly_8_1 : u_lay RX8 TX8 1 ∈ zt := zt_a2 125 rfl rfl
theorem zly_8_2 : u_lay RX8 TX8 2 ∈ zt := zt_a2 127 rfl rfl
theorem zly_8_3 : u_lay RX8 TX8 3 ∈ zt := zt_a2 129 rfl rfl
theorem zly_8_4 : u_lay RX8 TX8 4 ∈ zt := zt_a2 131 rfl rfl
theorem zlw_8 : ∀ w ∈ u_ws RX8 TX8 (znf 8), w ∈ zt := by
  intro w hw
  obtain ⟨k, hk, rfl⟩ := List.mem_map.mp hw
  have hk : k < 5 := List.mem_range.mp hk
  match k, hk with
  | 0, _ => exact zly_8_0
  | 1, _ => exact zly_8_1
  | 2, _ => exact zly_8_2
  | 3, _ => exact zly_8_3
  | 4, _ => exact zly_8_4
  | k + 5, h => exact absurd h (by omega)
theorem z_tyX8 : ∀ k, k < znf 8 → zty (zfk 8 k) (tyX8 k) := by
  intro k hk
  have hk : k < 5 := hk
  match k, hk with
  | 0, _ => exact ⟨rfl, fun v hv => by rcases hv with rfl | ⟨a, rfl⟩ <;> exact ⟨rfl, rfl⟩⟩
  | 1, _ => exact ⟨rfl, fun v hv => by rcases hv with rfl | ⟨a, rfl⟩ <;> exact ⟨rfl, rfl⟩⟩
  | 2, _ => exact ⟨rfl, fun v hv => by rcases hv with rfl | ⟨a, rfl⟩ <;> exact ⟨rfl, rfl⟩⟩
  | 3, _ => exact ⟨rfl, fun v hv => by rcases hv with rfl | ⟨a, rfl⟩ <;> exact ⟨rfl, rfl⟩⟩
  | 4, _ => exact ⟨rfl, fun v hv => by rcases hv with rfl | ⟨a, rfl⟩ <;> exact ⟨rfl, rfl⟩⟩
  | k + 5, h => exact absurd h (by omega)
theorem zcl8 : zCl 8 RX8 TX8 tyX8 := ⟨rfl, zlw_8, tyX8_ok, nmX8, z_tyX8⟩
theorem zly_9_0 : u_lay RX9 TX9 0 ∈ zt := zt_a2 44 rfl rfl
theorem zly_9_1 : u_lay RX9 TX9 1 ∈ zt := zt_a2 46 rfl rfl
theorem zly_9_2 : u_lay RX9 TX9 2 ∈ zt := zt_a2 48 rfl rfl
theorem zly_9_3 : u_lay RX9 TX9 3 ∈ zt := zt_a2 50 rfl rfl
theorem zly_9_4 : u_lay RX9 TX9 4 ∈ zt := zt_a2 52 rfl rfl
theorem zly_9_5 : u_lay RX9 TX9 5 ∈ zt := zt_a2 54 rfl rfl
theorem zly_9_6 : u_lay RX9 TX9 6 ∈ zt := zt_a2 56 rfl rfl
theorem zlw_9 : ∀ w ∈ u_ws RX9 TX9 (znf 9), w ∈ zt := by
  intro w hw
  obtain ⟨k, hk, rfl⟩ := List.mem_map.mp hw
  have hk : k < 7 := List.mem_range.mp hk
  match k, hk with
  | 0, _ => exact zly_9_0
  | 1, _ => exact zly_9_1
  | 2, _ => exact zly_9_2
  | 3, _ => exact zly_9_3
  | 4, _ => exact zly_9_4
  | 5, _ => exact zly_9_5
  | 6, _ => exact zly_9_6
  | k + 7, h => exact absurd h (by omega)
theorem z_tyX9 : ∀ k, k < znf 9 → zty (zfk 9 k) (tyX9 k) := by
  intro k hk
  have hk : k < 7 := hk
  match k, hk with
  | 0, _ => exact ⟨rfl, fun v hv => by rcases hv with rfl | ⟨a, rfl⟩ <;> exact ⟨rfl, rfl⟩⟩
  | 1, _ => exact ⟨rfl, fun v hv => by rcases hv with rfl | ⟨a, rfl⟩ <;> exact ⟨rfl, rfl⟩⟩
  | 2, _ => exact ⟨rfl, fun v hv => by rcases hv with rfl | ⟨a, rfl⟩ <;> exact ⟨rfl, rfl⟩⟩
  | 3, _ => exact ⟨rfl, fun v hv => by rcases hv with rfl | ⟨a, rfl⟩ <;> exact ⟨rfl, rfl⟩⟩
  | 4, _ => exact ⟨rfl, fun v hv => by rcases hv with rfl | ⟨a, rfl⟩ <;> exact ⟨rfl, rfl⟩⟩
  | 5, _ => exact ⟨rfl, fun v hv => by rcases hv with rfl | ⟨a, rfl⟩ <;> exact ⟨rfl, rfl⟩⟩
  | 6, _ => exact ⟨rfl, fun v hv => by rcases hv with rfl | ⟨a, rfl⟩ <;> exact ⟨rfl, rfl⟩⟩
  | k + 7, h => exact absurd h (by omega)
theorem zcl9 : zCl 9 RX9 TX9 tyX9 := ⟨rfl, zlw_9, tyX9_ok, nmX9, z_tyX9⟩
theorem zly_10_0 : u_lay RX10 TX10 0 ∈ zt := zt_a2 148 rfl rfl
theorem zly_10_1 : u_lay RX10 TX10 1 ∈ zt := zt_a2 150 rfl rfl
theorem zly_10_2 : u_lay RX10 TX10 2 ∈ zt := zt_a2 152 rfl rfl
theorem zly_10_3 : u_lay RX10 TX10 3 ∈ zt := zt_a2 154 rfl rfl
theorem zly_10_4 : u_lay RX10 TX10 4 ∈ zt := zt_a2 156 rfl rfl
theorem zly_10_5 : u_lay RX10 TX10 5 ∈ zt := zt_a2 158 rfl rfl
theorem zly_10_6 : u_lay RX10 TX10 6 ∈ zt := zt_a2 160 rfl rfl
theorem zly_10_7 : u_lay RX10 TX10 7 ∈ zt := zt_a2 162 rfl rfl
theorem zly_10_8 : u_lay RX10 TX10 8 ∈ zt := zt_a2 164 rfl rfl
theorem zly_10_9 : u_lay RX10 TX10 9 ∈ zt := zt_a2 166 rfl rfl
theorem zly_10_10 : u_lay RX10 TX10 10 ∈ zt := zt_a2 168 rfl rfl
theorem zlw_10 : ∀ w ∈ u_ws RX10 TX10 (znf 10), w ∈ zt := by
  intro w hw
  obtain ⟨k, hk, rfl⟩ := List.mem_map.mp hw
  have hk : k < 11 := List.mem_range.mp hk
  match k, hk with
  | 0, _ => exact zly_10_0
  | 1, _ => exact zly_10_1
  | 2, _ => exact zly_10_2
  | 3, _ => exact zly_10_3
  | 4, _ => exact zly_10_4
  | 5, _ => exact zly_10_5
  | 6, _ => exact zly_10_6
  | 7, _ => exact zly_10_7
  | 8, _ => exact zly_10_8
  | 9, _ => exact zly_10_9
  | 10, _ => exact zly_10_10
  | k + 11, h => exact absurd h (by omega)
theorem z_tyX10 : ∀ k, k < znf 10 → zty (zfk 10 k) (tyX10 k) := by
  intro k hk
  have hk : k < 11 := hk
  match k, hk with
  | 0, _ => exact ⟨rfl, fun v hv => by rcases hv with rfl | ⟨a, rfl⟩ <;> exact ⟨rfl, rfl⟩⟩
  | 1, _ => exact ⟨rfl, fun v hv => by rcases hv with rfl | ⟨a, rfl⟩ <;> exact ⟨rfl, rfl⟩⟩
  | 2, _ => exact ⟨rfl, fun v hv => by rcases hv with rfl | ⟨a, rfl⟩ <;> exact ⟨rfl, rfl⟩⟩
  | 3, _ => exact ⟨rfl, fun v hv => by rcases hv with rfl | ⟨a, rfl⟩ <;> exact ⟨rfl, rfl⟩⟩
  | 4, _ => exact ⟨rfl, fun v hv => by rcases hv with rfl | ⟨a, rfl⟩ <;> exact ⟨rfl, rfl⟩⟩
  | 5, _ => exact ⟨rfl, fun v hv => by rcases hv with rfl | ⟨a, rfl⟩ <;> exact ⟨rfl, rfl⟩⟩
  | 6, _ => exact ⟨rfl, fun v hv => by rcases hv with rfl | ⟨a, rfl⟩ <;> exact ⟨rfl, rfl⟩⟩
  | 7, _ => exact ⟨rfl, fun v hv => by rcases hv with rfl | ⟨a, rfl⟩ <;> exact ⟨rfl, rfl⟩⟩
  | 8, _ => exact rfl
  | 9, _ => exact rfl
  | 10, _ => exact ⟨rfl, fun v hv => by rcases hv with rfl | ⟨a, rfl⟩ <;> exact ⟨rfl, rfl⟩⟩
  | k + 11, h => exact absurd h (by omega)
theorem zcl10 : zCl 10 RX10 TX10 tyX10 := ⟨rfl, zlw_10, tyX10_ok, nmX10, z_tyX10⟩
theorem zly_11_0 : u_lay RX11 TX11 0 ∈ zt := zt_a5 217 rfl rfl
theorem zly_11_1 : u_lay RX11 TX11 1 ∈ zt := zt_a5 219 rfl rfl
theorem zly_11_2 : u_lay RX11 TX11 2 ∈ zt := zt_a5 221 rfl rfl
theorem zly_11_3 : u_lay RX11 TX11 3 ∈ zt := zt_a5 223 rfl rfl
theorem zly_11_4 : u_lay RX11 TX11 4 ∈ zt := zt_a5 225 rfl rfl
theorem zly_11_5 : u_lay RX11 TX11 5 ∈ zt := zt_a5 227 rfl rfl
theorem zly_11_6 : u_lay RX11 TX11 6 ∈ zt := zt_a5 229 rfl rfl
theorem zly_11_7 : u_lay RX11 TX11 7 ∈ zt := zt_a5 231 rfl rfl
theorem zly_11_8 : u_lay RX11 TX11 8 ∈ zt := zt_a5 233 rfl rfl
theorem zly_11_9 : u_lay RX11 TX11 9 ∈ zt := zt_a5 235 rfl rfl
theorem zly_11_10 : u_lay RX11 TX11 10 ∈ zt := zt_a5 237 rfl rfl
theorem zly_11_11 : u_lay RX11 TX11 11 ∈ zt := zt_a5 239 rfl rfl
theorem zly_11_12 : u_lay RX11 TX11 12 ∈ zt := zt_a6 1 rfl rfl
theorem zly_11_13 : u_lay RX11 TX11 13 ∈ zt := zt_a6 3 rfl rfl
theorem zly_11_14 : u_lay RX11 TX11 14 ∈ zt := zt_a6 5 rfl rfl
theorem zly_11_15 : u_lay RX11 TX11 15 ∈ zt := zt_a6 7 rfl rfl
theorem zly_11_16 : u_lay RX11 TX11 16 ∈ zt := zt_a6 9 rfl rfl
theorem zly_11_17 : u_lay RX11 TX11 17 ∈ zt := zt_a6 11 rfl rfl
theorem zly_11_18 : u_lay RX11 TX11 18 ∈ zt := zt_a6 13 rfl rfl
theorem zly_11_19 : u_lay RX11 TX11 19 ∈ zt := zt_a6 15 rfl rfl
theorem zly_11_20 : u_lay RX11 TX11 20 ∈ zt := zt_a6 17 rfl rfl
theorem zly_11_21 : u_lay RX11 TX11 21 ∈ zt := zt_a6 19 rfl rfl
theorem zly_11_22 : u_lay RX11 TX11 22 ∈ zt := zt_a6 21 rfl rfl
theorem zly_11_23 : u_lay RX11 TX11 23 ∈ zt := zt_a6 23 rfl rfl
theorem zly_11_24 : u_lay RX11 TX11 24 ∈ zt := zt_a6 25 rfl rfl
theorem zly_11_25 : u_lay RX11 TX11 25 ∈ zt := zt_a6 27 rfl rfl
theorem zly_11_26 : u_lay RX11 TX11 26 ∈ zt := zt_a6 29 rfl rfl
theorem zly_11_27 : u_lay RX11 TX11 27 ∈ zt := zt_a6 31 rfl rfl
theorem zly_11_28 : u_lay RX11 TX11 28 ∈ zt := zt_a6 33 rfl rfl
theorem zly_11_29 : u_lay RX11 TX11 29 ∈ zt := zt_a6 35 rfl rfl
theorem zly_11_30 : u_lay RX11 TX11 30 ∈ zt := zt_a6 37 rfl rfl
theorem zly_11_31 : u_lay RX11 TX11 31 ∈ zt := zt_a6 39 rfl rfl
theorem zly_11_32 : u_lay RX11 TX11 32 ∈ zt := zt_a6 41 rfl rfl
theorem zly_11_33 : u_lay RX11 TX11 33 ∈ zt := zt_a6 43 rfl rfl
theorem zly_11_34 : u_lay RX11 TX11 34 ∈ zt := zt_a6 45 rfl rfl
theorem zly_11_35 : u_lay RX11 TX11 35 ∈ zt := zt_a6 47 rfl rfl
theorem zly_11_36 : u_lay RX11 TX11 36 ∈ zt := zt_a6 49 rfl rfl
theorem zly_11_37 : u_lay RX11 TX11 37 ∈ zt := zt_a6 51 rfl rfl
theorem zly_11_38 : u_lay RX11 TX11 38 ∈ zt := zt_a6 53 rfl rfl
theorem zly_11_39 : u_lay RX11 TX11 39 ∈ zt := zt_a6 55 rfl rfl
theorem zly_11_40 : u_lay RX11 TX11 40 ∈ zt := zt_a6 57 rfl rfl
theorem zly_11_41 : u_lay RX11 TX11 41 ∈ zt := zt_a6 59 rfl rfl
theorem zly_11_42 : u_lay RX11 TX11 42 ∈ zt := zt_a6 61 rfl rfl
theorem zly_11_43 : u_lay RX11 TX11 43 ∈ zt := zt_a6 63 rfl rfl
theorem zly_11_44 : u_lay RX11 TX11 44 ∈ zt := zt_a6 65 rfl rfl
theorem zly_11_45 : u_lay RX11 TX11 45 ∈ zt := zt_a6 67 rfl rfl
theorem zly_11_46 : u_lay RX11 TX11 46 ∈ zt := zt_a6 69 rfl rfl
theorem zly_11_47 : u_lay RX11 TX11 47 ∈ zt := zt_a6 71 rfl rfl
theorem zly_11_48 : u_lay RX11 TX11 48 ∈ zt := zt_a6 73 rfl rfl
theorem zly_11_49 : u_lay RX11 TX11 49 ∈ zt := zt_a6 75 rfl rfl
theorem zly_11_50 : u_lay RX11 TX11 50 ∈ zt := zt_a6 77 rfl rfl
theorem zly_11_51 : u_lay RX11 TX11 51 ∈ zt := zt_a6 79 rfl rfl
theorem zly_11_52 : u_lay RX11 TX11 52 ∈ zt := zt_a6 81 rfl rfl
theorem zly_11_53 : u_lay RX11 TX11 53 ∈ zt := zt_a6 83 rfl rfl
theorem zly_11_54 : u_lay RX11 TX11 54 ∈ zt := zt_a6 85 rfl rfl
theorem zly_11_55 : u_lay RX11 TX11 55 ∈ zt := zt_a6 87 rfl rfl
theorem zly_11_56 : u_lay RX11 TX11 56 ∈ zt := zt_a6 89 rfl rfl
theorem zly_11_57 : u_lay RX11 TX11 57 ∈ zt := zt_a6 91 rfl rfl
theorem zly_11_58 : u_lay RX11 TX11 58 ∈ zt := zt_a6 93 rfl rfl
theorem zly_11_59 : u_lay RX11 TX11 59 ∈ zt := zt_a6 95 rfl rfl
theorem zly_11_60 : u_lay RX11 TX11 60 ∈ zt := zt_a6 97 rfl rfl
theorem zly_11_61 : u_lay RX11 TX11 61 ∈ zt := zt_a6 99 rfl rfl
theorem zlw_11 : ∀ w ∈ u_ws RX11 TX11 (znf 11), w ∈ zt := by
  intro w hw
  obtain ⟨k, hk, rfl⟩ := List.mem_map.mp hw
  have hk : k < 62 := List.mem_range.mp hk
  match k, hk with
  | 0, _ => exact zly_11_0
  | 1, _ => exact zly_11_1
  | 2, _ => exact zly_11_2
  | 3, _ => exact zly_11_3
  | 4, _ => exact zly_11_4
  | 5, _ => exact zly_11_5
  | 6, _ => exact zly_11_6
  | 7, _ => exact zly_11_7
  | 8, _ => exact zly_11_8
  | 9, _ => exact zly_11_9
  | 10, _ => exact zly_11_10
  | 11, _ => exact zly_11_11
  | 12, _ => exact zly_11_12
  | 13, _ => exact zly_11_13
  | 14, _ => exact zly_11_14
  | 15, _ => exact zly_11_15
  | 16, _ => exact zly_11_16
  | 17, _ => exact zly_11_17
  | 18, _ => exact zly_11_18
  | 19, _ => exact zly_11_19
  | 20, _ => exact zly_11_20
  | 21, _ => exact zly_11_21
  | 22, _ => exact zly_11_22
  | 23, _ => exact zly_11_23
  | 24, _ => exact zly_11_24
  | 25, _ => exact zly_11_25
  | 26, _ => exact zly_11_26
  | 27, _ => exact zly_11_27
  | 28, _ => exact zly_11_28
  | 29, _ => exact zly_11_29
  | 30, _ => exact zly_11_30
  | 31, _ => exact zly_11_31
  | 32, _ => exact zly_11_32
  | 33, _ => exact zly_11_33
  | 34, _ => exact zly_11_34
  | 35, _ => exact zly_11_35
  | 36, _ => exact zly_11_36
  | 37, _ => exact zly_11_37
  | 38, _ => exact zly_11_38
  | 39, _ => exact zly_11_39
  | 40, _ => exact zly_11_40
  | 41, _ => exact zly_11_41
  | 42, _ => exact zly_11_42
  | 43, _ => exact zly_11_43
  | 44, _ => exact zly_11_44
  | 45, _ => exact zly_11_45
  | 46, _ => exact zly_11_46
  | 47, _ => exact zly_11_47
  | 48, _ => exact zly_11_48
  | 49, _ => exact zly_11_49
  | 50, _ => exact zly_11_50
  | 51, _ => exact zly_11_51
  | 52, _ => exact zly_11_52
  | 53, _ => exact zly_11_53
  | 54, _ => exact zly_11_54
  | 55, _ => exact zly_11_55
  | 56, _ => exact zly_11_56
  | 57, _ => exact zly_11_57
  | 58, _ => exact zly_11_58
  | 59, _ => exact zly_11_59
  | 60, _ => exact zly_11_60
  | 61, _ => exact zly_11_61
  | k + 62, h => exact absurd h (by omega)
theorem z_tyX11 : ∀ k, k < znf 11 → zty (zfk 11 k) (tyX11 k) := by
  intro k hk
  have hk : k < 62 := hk
  match k, hk with
  | 0, _ => exact rfl
  | 1, _ => exact ⟨rfl, fun v hv => by rcases hv with rfl | ⟨a, rfl⟩ <;> exact ⟨rfl, rfl⟩⟩
  | 2, _ => exact ⟨rfl, fun v hv => by rcases hv with rfl | ⟨a, rfl⟩ <;> exact ⟨rfl, rfl⟩⟩
  | 3, _ => exact rfl
  | 4, _ => exact ⟨rfl, fun v hv => by rcases hv with rfl | ⟨a, rfl⟩ <;> exact ⟨rfl, rfl⟩⟩
  | 5, _ => exact rfl
  | 6, _ => exact rfl
  | 7, _ => exact ⟨rfl, fun v hv => by rcases hv with rfl | ⟨a, rfl⟩ <;> exact ⟨rfl, rfl⟩⟩
  | 8, _ => exact ⟨rfl, fun v hv => by rcases hv with rfl | ⟨a, rfl⟩ <;> exact ⟨rfl, rfl⟩⟩
  | 9, _ => exact ⟨rfl, fun v hv => by rcases hv with rfl | ⟨a, rfl⟩ <;> exact ⟨rfl, rfl⟩⟩
  | 10, _ => exact ⟨rfl, fun v hv => by rcases hv with rfl | ⟨a, rfl⟩ <;> exact ⟨rfl, rfl⟩⟩
  | 11, _ => exact rfl
  | 12, _ => exact rfl
  | 13, _ => exact rfl
  | 14, _ => exact rfl
  | 15, _ => exact rfl
  | 16, _ => exact ⟨rfl, fun v hv => by rcases hv with rfl | ⟨a, rfl⟩ <;> exact ⟨rfl, rfl⟩⟩
  | 17, _ => exact ⟨rfl, fun v hv => by rcases hv with rfl | ⟨a, rfl⟩ <;> exact ⟨rfl, rfl⟩⟩
  | 18, _ => exact ⟨rfl, fun v hv => by rcases hv with rfl | ⟨a, rfl⟩ <;> exact ⟨rfl, rfl⟩⟩
  | 19, _ => exact ⟨rfl, fun v hv => by rcases hv with rfl | ⟨a, rfl⟩ <;> exact ⟨rfl, rfl⟩⟩
  | 20, _ => exact ⟨rfl, fun v hv => by rcases hv with rfl | ⟨a, rfl⟩ <;> exact ⟨rfl, rfl⟩⟩
  | 21, _ => exact ⟨rfl, fun v hv => by rcases hv with rfl | ⟨a, rfl⟩ <;> exact ⟨rfl, rfl⟩⟩
  | 22, _ => exact ⟨rfl, fun v hv => by rcases hv with rfl | ⟨a, rfl⟩ <;> exact ⟨rfl, rfl⟩⟩
  | 23, _ => exact ⟨rfl, fun v hv => by rcases hv with rfl | ⟨a, rfl⟩ <;> exact ⟨rfl, rfl⟩⟩
  | 24, _ => exact rfl
  | 25, _ => exact rfl
  | 26, _ => exact rfl
  | 27, _ => exact ⟨rfl, fun v hv => by rcases hv with rfl | ⟨a, rfl⟩ <;> exact ⟨rfl, rfl⟩⟩
  | 28, _ => exact rfl
  | 29, _ => exact rfl
  | 30, _ => exact rfl
  | 31, _ => exact rfl
  | 32, _ => exact rfl
  | 33, _ => exact rfl
  | 34, _ => exact ⟨rfl, fun v hv => by rcases hv with rfl | ⟨a, rfl⟩ <;> exact ⟨rfl, rfl⟩⟩
  | 35, _ => exact rfl
  | 36, _ => exact ⟨rfl, fun v hv => by rcases hv with rfl | ⟨a, rfl⟩ <;> exact ⟨rfl, rfl⟩⟩
  | 37, _ => exact rfl
  | 38, _ => exact ⟨rfl, fun v hv => by rcases hv with rfl | ⟨a, rfl⟩ <;> exact ⟨rfl, rfl⟩⟩
  | 39, _ => exact ⟨rfl, fun v hv => by rcases hv with rfl | ⟨a, rfl⟩ <;> exact ⟨rfl, rfl⟩⟩
  | 40, _ => exact ⟨rfl, fun v hv => by rcases hv with rfl | ⟨a, rfl⟩ <;> exact ⟨rfl, rfl⟩⟩
  | 41, _ => exact ⟨rfl, fun v hv => by rcases hv with rfl | ⟨a, rfl⟩ <;> exact ⟨rfl, rfl⟩⟩
  | 42, _ => exact rfl
  | 43, _ => exact ⟨rfl, fun v hv => by rcases hv with rfl | ⟨a, rfl⟩ <;> exact ⟨rfl, rfl⟩⟩
  | 44, _ => exact ⟨rfl, fun v hv => by rcases hv with rfl | ⟨a, rfl⟩ <;> exact ⟨rfl, rfl⟩⟩
  | 45, _ => exact rfl
  | 46, _ => exact ⟨rfl, fun v hv => by rcases hv with rfl | ⟨a, rfl⟩ <;> exact ⟨rfl, rfl⟩⟩
  | 47, _ => exact ⟨rfl, fun v hv => by rcases hv with rfl | ⟨a, rfl⟩ <;> exact ⟨rfl, rfl⟩⟩
  | 48, _ => exact ⟨rfl, fun v hv => by rcases hv with rfl | ⟨a, rfl⟩ <;> exact ⟨rfl, rfl⟩⟩
  | 49, _ => exact rfl
  | 50, _ => exact ⟨rfl, fun v hv => by rcases hv with rfl | ⟨a, rfl⟩ <;> exact ⟨rfl, rfl⟩⟩
  | 51, _ => exact ⟨rfl, fun v hv => by rcases hv with rfl | ⟨a, rfl⟩ <;> exact ⟨rfl, rfl⟩⟩
  | 52, _ => exact ⟨rfl, fun v hv => by rcases hv with rfl | ⟨a, rfl⟩ <;> exact ⟨rfl, rfl⟩⟩
  | 53, _ => exact rfl
  | 54, _ => exact ⟨rfl, fun v hv => by rcases hv with rfl | ⟨a, rfl⟩ <;> exact ⟨rfl, rfl⟩⟩
  | 55, _ => exact ⟨rfl, fun v hv => by rcases hv with rfl | ⟨a, rfl⟩ <;> exact ⟨rfl, rfl⟩⟩
  | 56, _ => exact ⟨rfl, fun v hv => by rcases hv with rfl | ⟨a, rfl⟩ <;> exact ⟨rfl, rfl⟩⟩
  | 57, _ => exact ⟨rfl, fun v hv => by rcases hv with rfl | ⟨a, rfl⟩ <;> exact ⟨rfl, rfl⟩⟩
  | 58, _ => exact rfl
  | 59, _ => exact rfl
  | 60, _ => exact rfl
  | 61, _ => exact ⟨rfl, fun v hv => by rcases hv with rfl | ⟨a, rfl⟩ <;> exact ⟨rfl, rfl⟩⟩
  | k + 62, h => exact absurd h (by omega)
theorem zcl11 : zCl 11 RX11 TX11 tyX11 := ⟨rfl, zlw_11, tyX11_ok, nmX11, z_tyX11⟩
theorem zf_RX1_9 : zF RX1 9 1 0 := ⟨_, _, _, zcl1, by decide, zt_a1 42 rfl rfl⟩
theorem zw_RX1_9 : zFO RX1 1 0 := by intro C T e; cases e; exact ⟨rfl, rfl⟩
theorem zf_RX10_91 : zF RX10 91 1 0 := ⟨_, _, _, zcl1, by decide, zt_a1 43 rfl rfl⟩
theorem zf_RX9_205 : zF RX9 205 1 0 := ⟨_, _, _, zcl1, by decide, zt_a1 44 rfl rfl⟩
theorem zf_RX1_15 : zF RX1 15 1 1 := ⟨_, _, _, zcl1, by decide, zt_a1 45 rfl rfl⟩
theorem zw_RX1_15 : zFO RX1 1 1 := by intro C T e; cases e; exact ⟨rfl, rfl⟩
theorem zf_RX10_94 : zF RX10 94 1 1 := ⟨_, _, _, zcl1, by decide, zt_a1 46 rfl rfl⟩
theorem zf_RX9_202 : zF RX9 202 1 1 := ⟨_, _, _, zcl1, by decide, zt_a1 47 rfl rfl⟩
theorem zf_RX1_18 : zF RX1 18 1 2 := ⟨_, _, _, zcl1, by decide, zt_a1 48 rfl rfl⟩
theorem zw_RX1_18 : zFO RX1 1 2 := by intro C T e; cases e; exact ⟨rfl, rfl⟩
theorem zf_RX9_156 : zF RX9 156 1 2 := ⟨_, _, _, zcl1, by decide, zt_a1 49 rfl rfl⟩
theorem zf_RX10_210 : zF RX10 210 1 2 := ⟨_, _, _, zcl1, by decide, zt_a1 50 rfl rfl⟩
theorem zf_RX1_21 : zF RX1 21 1 3 := ⟨_, _, _, zcl1, by decide, zt_a1 51 rfl rfl⟩
theorem zw_RX1_21 : zNF 1 3 := by intro C T e; cases e; rfl
theorem zf_RX10_81 : zF RX10 81 1 3 := ⟨_, _, _, zcl1, by decide, zt_a1 52 rfl rfl⟩
theorem zw_RX10_81 : zNF 1 3 := by intro C T e; cases e; rfl
theorem zf_RX9_121 : zF RX9 121 1 3 := ⟨_, _, _, zcl1, by decide, zt_a1 53 rfl rfl⟩
theorem zw_RX9_121 : zNF 1 3 := by intro C T e; cases e; rfl
theorem zf_RX1_25 : zF RX1 25 1 4 := ⟨_, _, _, zcl1, by decide, zt_a1 54 rfl rfl⟩
theorem zw_RX1_25 : zNF 1 4 := by intro C T e; cases e; rfl
theorem zf_RX9_153 : zF RX9 153 1 4 := ⟨_, _, _, zcl1, by decide, zt_a1 55 rfl rfl⟩
theorem zw_RX9_153 : zNF 1 4 := by intro C T e; cases e; rfl
theorem zf_RX10_240 : zF RX10 240 1 4 := ⟨_, _, _, zcl1, by decide, zt_a1 56 rfl rfl⟩
theorem zw_RX10_240 : zNF 1 4 := by intro C T e; cases e; rfl
theorem zf_RX1_28 : zF RX1 28 1 5 := ⟨_, _, _, zcl1, by decide, zt_a1 57 rfl rfl⟩
theorem zw_RX1_28 : zNF 1 5 := by intro C T e; cases e; rfl
theorem zf_RX9_105 : zF RX9 105 1 5 := ⟨_, _, _, zcl1, by decide, zt_a1 58 rfl rfl⟩
theorem zw_RX9_105 : zNF 1 5 := by intro C T e; cases e; rfl
theorem zf_RX10_124 : zF RX10 124 1 5 := ⟨_, _, _, zcl1, by decide, zt_a1 59 rfl rfl⟩
theorem zw_RX10_124 : zNF 1 5 := by intro C T e; cases e; rfl
theorem zf_RX1_31 : zF RX1 31 1 6 := ⟨_, _, _, zcl1, by decide, zt_a1 60 rfl rfl⟩
theorem zw_RX1_31 : zNF 1 6 := by intro C T e; cases e; rfl
theorem zf_RX10_97 : zF RX10 97 1 6 := ⟨_, _, _, zcl1, by decide, zt_a1 61 rfl rfl⟩
theorem zw_RX10_97 : zNF 1 6 := by intro C T e; cases e; rfl
theorem zf_RX9_114 : zF RX9 114 1 6 := ⟨_, _, _, zcl1, by decide, zt_a1 62 rfl rfl⟩
theorem zw_RX9_114 : zNF 1 6 := by intro C T e; cases e; rfl
theorem zf_RX1_34 : zF RX1 34 1 7 := ⟨_, _, _, zcl1, by decide, zt_a1 63 rfl rfl⟩
theorem zw_RX1_34 : zNF 1 7 := by intro C T e; cases e; rfl
theorem zf_RX10_100 : zF RX10 100 1 7 := ⟨_, _, _, zcl1, by decide, zt_a1 64 rfl rfl⟩
theorem zw_RX10_100 : zNF 1 7 := by intro C T e; cases e; rfl
theorem zf_RX9_159 : zF RX9 159 1 7 := ⟨_, _, _, zcl1, by decide, zt_a1 65 rfl rfl⟩
theorem zw_RX9_159 : zNF 1 7 := by intro C T e; cases e; rfl
theorem zf_RX1_37 : zF RX1 37 1 8 := ⟨_, _, _, zcl1, by decide, zt_a1 66 rfl rfl⟩
theorem zw_RX1_37 : zNF 1 8 := by intro C T e; cases e; rfl
theorem zf_RX10_130 : zF RX10 130 1 8 := ⟨_, _, _, zcl1, by decide, zt_a1 67 rfl rfl⟩
theorem zw_RX10_130 : zNF 1 8 := by intro C T e; cases e; rfl
theorem zf_RX9_179 : zF RX9 179 1 8 := ⟨_, _, _, zcl1, by decide, zt_a1 68 rfl rfl⟩
theorem zw_RX9_179 : zNF 1 8 := by intro C T e; cases e; rfl
theorem zf_RX1_40 : zF RX1 40 1 9 := ⟨_, _, _, zcl1, by decide, zt_a1 69 rfl rfl⟩
theorem zw_RX1_40 : zNF 1 9 := by intro C T e; cases e; rfl
theorem zf_RX10_335 : zF RX10 335 1 9 := ⟨_, _, _, zcl1, by decide, zt_a1 70 rfl rfl⟩
theorem zw_RX10_335 : zNF 1 9 := by intro C T e; cases e; rfl
theorem zf_RX1_43 : zF RX1 43 1 10 := ⟨_, _, _, zcl1, by decide, zt_a1 71 rfl rfl⟩
theorem zw_RX1_43 : zNF 1 10 := by intro C T e; cases e; rfl
theorem zf_RX9_108 : zF RX9 108 1 10 := ⟨_, _, _, zcl1, by decide, zt_a1 72 rfl rfl⟩
theorem zw_RX9_108 : zNF 1 10 := by intro C T e; cases e; rfl
theorem zf_RX10_338 : zF RX10 338 1 10 := ⟨_, _, _, zcl1, by decide, zt_a1 73 rfl rfl⟩
theorem zw_RX10_338 : zNF 1 10 := by intro C T e; cases e; rfl
theorem zf_RX1_46 : zF RX1 46 1 11 := ⟨_, _, _, zcl1, by decide, zt_a1 74 rfl rfl⟩
theorem zw_RX1_46 : zNF 1 11 := by intro C T e; cases e; rfl
theorem zf_RX10_103 : zF RX10 103 1 11 := ⟨_, _, _, zcl1, by decide, zt_a1 75 rfl rfl⟩
theorem zw_RX10_103 : zNF 1 11 := by intro C T e; cases e; rfl
theorem zf_RX9_111 : zF RX9 111 1 11 := ⟨_, _, _, zcl1, by decide, zt_a1 76 rfl rfl⟩
theorem zw_RX9_111 : zNF 1 11 := by intro C T e; cases e; rfl
theorem zf_RX1_49 : zF RX1 49 1 12 := ⟨_, _, _, zcl1, by decide, zt_a1 77 rfl rfl⟩
theorem zw_RX1_49 : zNF 1 12 := by intro C T e; cases e; rfl
theorem zf_RX9_83 : zF RX9 83 1 12 := ⟨_, _, _, zcl1, by decide, zt_a1 78 rfl rfl⟩
theorem zw_RX9_83 : zNF 1 12 := by intro C T e; cases e; rfl
theorem zf_RX10_127 : zF RX10 127 1 12 := ⟨_, _, _, zcl1, by decide, zt_a1 79 rfl rfl⟩
theorem zw_RX10_127 : zNF 1 12 := by intro C T e; cases e; rfl
theorem zf_RX1_52 : zF RX1 52 1 13 := ⟨_, _, _, zcl1, by decide, zt_a1 80 rfl rfl⟩
theorem zw_RX1_52 : zNF 1 13 := by intro C T e; cases e; rfl
theorem zf_RX10_71 : zF RX10 71 1 13 := ⟨_, _, _, zcl1, by decide, zt_a1 81 rfl rfl⟩
theorem zw_RX10_71 : zNF 1 13 := by intro C T e; cases e; rfl
theorem zf_RX3_9 : zF RX3 9 3 0 := ⟨_, _, _, zcl3, by decide, zt_a1 118 rfl rfl⟩
theorem zw_RX3_9 : zFO RX3 3 0 := by intro C T e; cases e; exact ⟨rfl, rfl⟩
theorem zf_RX7_43 : zF RX7 43 3 0 := ⟨_, _, _, zcl3, by decide, zt_a1 119 rfl rfl⟩
theorem zf_RX9_183 : zF RX9 183 3 0 := ⟨_, _, _, zcl3, by decide, zt_a1 120 rfl rfl⟩
theorem zf_RX3_15 : zF RX3 15 3 1 := ⟨_, _, _, zcl3, by decide, zt_a1 121 rfl rfl⟩
theorem zw_RX3_15 : zFO RX3 3 1 := by intro C T e; cases e; exact ⟨rfl, rfl⟩
theorem zf_RX7_50 : zF RX7 50 3 1 := ⟨_, _, _, zcl3, by decide, zt_a1 122 rfl rfl⟩
theorem zf_RX9_196 : zF RX9 196 3 1 := ⟨_, _, _, zcl3, by decide, zt_a1 123 rfl rfl⟩
theorem zf_RX3_18 : zF RX3 18 3 2 := ⟨_, _, _, zcl3, by decide, zt_a1 124 rfl rfl⟩
theorem zw_RX3_18 : zFO RX3 3 2 := by intro C T e; cases e; exact ⟨rfl, rfl⟩
theorem zf_RX7_57 : zF RX7 57 3 2 := ⟨_, _, _, zcl3, by decide, zt_a1 125 rfl rfl⟩
theorem zf_RX9_186 : zF RX9 186 3 2 := ⟨_, _, _, zcl3, by decide, zt_a1 126 rfl rfl⟩
theorem zf_RX3_21 : zF RX3 21 3 3 := ⟨_, _, _, zcl3, by decide, zt_a1 127 rfl rfl⟩
theorem zw_RX3_21 : zFO RX3 3 3 := by intro C T e; cases e; exact ⟨rfl, rfl⟩
theorem zf_RX7_67 : zF RX7 67 3 3 := ⟨_, _, _, zcl3, by decide, zt_a1 128 rfl rfl⟩
theorem zf_RX9_189 : zF RX9 189 3 3 := ⟨_, _, _, zcl3, by decide, zt_a1 129 rfl rfl⟩
theorem zf_RX3_26 : zF RX3 26 3 4 := ⟨_, _, _, zcl3, by decide, zt_a1 130 rfl rfl⟩
theorem zw_RX3_26 : zFO RX3 3 4 := by intro C T e; cases e; exact ⟨rfl, rfl⟩
theorem zf_RX3_29 : zF RX3 29 3 5 := ⟨_, _, _, zcl3, by decide, zt_a1 131 rfl rfl⟩
theorem zw_RX3_29 : zFO RX3 3 5 := by intro C T e; cases e; exact ⟨rfl, rfl⟩
theorem zf_RX3_32 : zF RX3 32 3 6 := ⟨_, _, _, zcl3, by decide, zt_a1 132 rfl rfl⟩
theorem zw_RX3_32 : zNF 3 6 := by intro C T e; cases e; rfl
theorem zf_RX7_25 : zF RX7 25 3 6 := ⟨_, _, _, zcl3, by decide, zt_a1 133 rfl rfl⟩
theorem zw_RX7_25 : zNF 3 6 := by intro C T e; cases e; rfl
theorem zf_RX10_160 : zF RX10 160 3 6 := ⟨_, _, _, zcl3, by decide, zt_a1 134 rfl rfl⟩
theorem zw_RX10_160 : zNF 3 6 := by intro C T e; cases e; rfl
theorem zf_RX9_182 : zF RX9 182 3 6 := ⟨_, _, _, zcl3, by decide, zt_a1 135 rfl rfl⟩
theorem zw_RX9_182 : zNF 3 6 := by intro C T e; cases e; rfl
theorem zf_RX3_36 : zF RX3 36 3 7 := ⟨_, _, _, zcl3, by decide, zt_a1 136 rfl rfl⟩
theorem zw_RX3_36 : zNF 3 7 := by intro C T e; cases e; rfl
theorem zf_RX7_29 : zF RX7 29 3 7 := ⟨_, _, _, zcl3, by decide, zt_a1 137 rfl rfl⟩
theorem zw_RX7_29 : zNF 3 7 := by intro C T e; cases e; rfl
theorem zf_RX4_9 : zF RX4 9 4 0 := ⟨_, _, _, zcl4, by decide, zt_a1 161 rfl rfl⟩
theorem zw_RX4_9 : zFO RX4 4 0 := by intro C T e; cases e; exact ⟨rfl, rfl⟩
theorem zf_RX9_79 : zF RX9 79 4 0 := ⟨_, _, _, zcl4, by decide, zt_a1 162 rfl rfl⟩
theorem zf_RX7_116 : zF RX7 116 4 0 := ⟨_, _, _, zcl4, by decide, zt_a1 163 rfl rfl⟩
theorem zf_RX4_15 : zF RX4 15 4 1 := ⟨_, _, _, zcl4, by decide, zt_a1 164 rfl rfl⟩
theorem zw_RX4_15 : zFO RX4 4 1 := by intro C T e; cases e; exact ⟨rfl, rfl⟩
theorem zf_RX9_85 : zF RX9 85 4 1 := ⟨_, _, _, zcl4, by decide, zt_a1 165 rfl rfl⟩
theorem zf_RX7_113 : zF RX7 113 4 1 := ⟨_, _, _, zcl4, by decide, zt_a1 166 rfl rfl⟩
theorem zf_RX4_18 : zF RX4 18 4 2 := ⟨_, _, _, zcl4, by decide, zt_a1 167 rfl rfl⟩
theorem zw_RX4_18 : zFO RX4 4 2 := by intro C T e; cases e; exact ⟨rfl, rfl⟩
theorem zf_RX9_88 : zF RX9 88 4 2 := ⟨_, _, _, zcl4, by decide, zt_a1 168 rfl rfl⟩
theorem zf_RX7_107 : zF RX7 107 4 2 := ⟨_, _, _, zcl4, by decide, zt_a1 169 rfl rfl⟩
theorem zf_RX4_21 : zF RX4 21 4 3 := ⟨_, _, _, zcl4, by decide, zt_a1 170 rfl rfl⟩
theorem zw_RX4_21 : zNF 4 3 := by intro C T e; cases e; rfl
theorem zf_RX9_75 : zF RX9 75 4 3 := ⟨_, _, _, zcl4, by decide, zt_a1 171 rfl rfl⟩
theorem zw_RX9_75 : zNF 4 3 := by intro C T e; cases e; rfl
theorem zf_RX7_96 : zF RX7 96 4 3 := ⟨_, _, _, zcl4, by decide, zt_a1 172 rfl rfl⟩
theorem zw_RX7_96 : zNF 4 3 := by intro C T e; cases e; rfl
theorem zf_RX10_176 : zF RX10 176 4 3 := ⟨_, _, _, zcl4, by decide, zt_a1 173 rfl rfl⟩
theorem zw_RX10_176 : zNF 4 3 := by intro C T e; cases e; rfl
theorem zf_RX2_9 : zF RX2 9 2 0 := ⟨_, _, _, zcl2, by decide, zt_a1 189 rfl rfl⟩
theorem zw_RX2_9 : zFO RX2 2 0 := by intro C T e; cases e; exact ⟨rfl, rfl⟩
theorem zf_RX10_216 : zF RX10 216 2 0 := ⟨_, _, _, zcl2, by decide, zt_a1 190 rfl rfl⟩
theorem zf_RX9_214 : zF RX9 214 2 0 := ⟨_, _, _, zcl2, by decide, zt_a1 191 rfl rfl⟩
theorem zf_RX2_15 : zF RX2 15 2 1 := ⟨_, _, _, zcl2, by decide, zt_a1 192 rfl rfl⟩
theorem zw_RX2_15 : zNF 2 1 := by intro C T e; cases e; rfl
theorem zf_RX10_197 : zF RX10 197 2 1 := ⟨_, _, _, zcl2, by decide, zt_a1 193 rfl rfl⟩
theorem zw_RX10_197 : zNF 2 1 := by intro C T e; cases e; rfl
theorem zf_RX7_139 : zF RX7 139 2 1 := ⟨_, _, _, zcl2, by decide, zt_a1 194 rfl rfl⟩
theorem zw_RX7_139 : zNF 2 1 := by intro C T e; cases e; rfl
theorem zf_RX0_9 : zF RX0 9 0 0 := ⟨_, _, _, zcl0, by decide, zt_a1 206 rfl rfl⟩
theorem zw_RX0_9 : zFO RX0 0 0 := by intro C T e; cases e; exact ⟨rfl, rfl⟩
theorem zf_RX10_226 : zF RX10 226 0 0 := ⟨_, _, _, zcl0, by decide, zt_a1 207 rfl rfl⟩
theorem zf_RX0_13 : zF RX0 13 0 1 := ⟨_, _, _, zcl0, by decide, zt_a1 208 rfl rfl⟩
theorem zw_RX0_13 : zFO RX0 0 1 := by intro C T e; cases e; exact ⟨rfl, rfl⟩
theorem zf_RX10_228 : zF RX10 228 0 1 := ⟨_, _, _, zcl0, by decide, zt_a1 209 rfl rfl⟩
theorem zf_RX0_16 : zF RX0 16 0 2 := ⟨_, _, _, zcl0, by decide, zt_a1 210 rfl rfl⟩
theorem zw_RX0_16 : zFO RX0 0 2 := by intro C T e; cases e; exact ⟨rfl, rfl⟩
theorem zf_RX10_231 : zF RX10 231 0 2 := ⟨_, _, _, zcl0, by decide, zt_a1 211 rfl rfl⟩
theorem zf_RX0_19 : zF RX0 19 0 3 := ⟨_, _, _, zcl0, by decide, zt_a1 212 rfl rfl⟩
theorem zw_RX0_19 : zFO RX0 0 3 := by intro C T e; cases e; exact ⟨rfl, rfl⟩
theorem zf_RX10_234 : zF RX10 234 0 3 := ⟨_, _, _, zcl0, by decide, zt_a1 213 rfl rfl⟩
theorem zf_RX0_22 : zF RX0 22 0 4 := ⟨_, _, _, zcl0, by decide, zt_a1 214 rfl rfl⟩
theorem zw_RX0_22 : zNF 0 4 := by intro C T e; cases e; rfl
theorem zf_RX10_223 : zF RX10 223 0 4 := ⟨_, _, _, zcl0, by decide, zt_a1 215 rfl rfl⟩
theorem zw_RX10_223 : zNF 0 4 := by intro C T e; cases e; rfl
theorem zf_RX5_11 : zF RX5 11 5 0 := ⟨_, _, _, zcl5, by decide, zt_a1 233 rfl rfl⟩
theorem zw_RX5_11 : zFO RX5 5 0 := by intro C T e; cases e; exact ⟨rfl, rfl⟩
theorem zf_RX5_15 : zF RX5 15 5 1 := ⟨_, _, _, zcl5, by decide, zt_a1 234 rfl rfl⟩
theorem zw_RX5_15 : zFO RX5 5 1 := by intro C T e; cases e; exact ⟨rfl, rfl⟩
theorem zf_RX5_19 : zF RX5 19 5 2 := ⟨_, _, _, zcl5, by decide, zt_a1 235 rfl rfl⟩
theorem zw_RX5_19 : zNF 5 2 := by intro C T e; cases e; rfl
theorem zf_RX5_23 : zF RX5 23 5 3 := ⟨_, _, _, zcl5, by decide, zt_a1 236 rfl rfl⟩
theorem zw_RX5_23 : zFO RX5 5 3 := by intro C T e; cases e; exact ⟨rfl, rfl⟩
theorem zf_RX5_26 : zF RX5 26 5 4 := ⟨_, _, _, zcl5, by decide, zt_a1 237 rfl rfl⟩
theorem zw_RX5_26 : zNF 5 4 := by intro C T e; cases e; rfl
theorem zf_RX5_29 : zF RX5 29 5 5 := ⟨_, _, _, zcl5, by decide, zt_a1 238 rfl rfl⟩
theorem zw_RX5_29 : zFO RX5 5 5 := by intro C T e; cases e; exact ⟨rfl, rfl⟩
theorem zf_RX8_66 : zF RX8 66 5 5 := ⟨_, _, _, zcl5, by decide, zt_a1 239 rfl rfl⟩
theorem zf_RX5_32 : zF RX5 32 5 6 := ⟨_, _, _, zcl5, by decide, zt_a2 0 rfl rfl⟩
theorem zw_RX5_32 : zNF 5 6 := by intro C T e; cases e; rfl
theorem zf_RX8_62 : zF RX8 62 5 6 := ⟨_, _, _, zcl5, by decide, zt_a2 1 rfl rfl⟩
theorem zw_RX8_62 : zNF 5 6 := by intro C T e; cases e; rfl
theorem zf_RX5_35 : zF RX5 35 5 7 := ⟨_, _, _, zcl5, by decide, zt_a2 2 rfl rfl⟩
theorem zw_RX5_35 : zFO RX5 5 7 := by intro C T e; cases e; exact ⟨rfl, rfl⟩
theorem zf_RX8_83 : zF RX8 83 5 7 := ⟨_, _, _, zcl5, by decide, zt_a2 3 rfl rfl⟩
theorem zf_RX5_38 : zF RX5 38 5 8 := ⟨_, _, _, zcl5, by decide, zt_a2 4 rfl rfl⟩
theorem zw_RX5_38 : zFO RX5 5 8 := by intro C T e; cases e; exact ⟨rfl, rfl⟩
theorem zf_RX8_80 : zF RX8 80 5 8 := ⟨_, _, _, zcl5, by decide, zt_a2 5 rfl rfl⟩
theorem zf_RX5_41 : zF RX5 41 5 9 := ⟨_, _, _, zcl5, by decide, zt_a2 6 rfl rfl⟩
theorem zw_RX5_41 : zNF 5 9 := by intro C T e; cases e; rfl
theorem zf_RX8_73 : zF RX8 73 5 9 := ⟨_, _, _, zcl5, by decide, zt_a2 7 rfl rfl⟩
theorem zw_RX8_73 : zNF 5 9 := by intro C T e; cases e; rfl
theorem zf_RX9_12 : zF RX9 12 9 0 := ⟨_, _, _, zcl9, by decide, zt_a2 30 rfl rfl⟩
theorem zw_RX9_12 : zFO RX9 9 0 := by intro C T e; cases e; exact ⟨rfl, rfl⟩
theorem zf_RX10_67 : zF RX10 67 9 0 := ⟨_, _, _, zcl9, by decide, zt_a2 31 rfl rfl⟩
theorem zf_RX9_21 : zF RX9 21 9 1 := ⟨_, _, _, zcl9, by decide, zt_a2 32 rfl rfl⟩
theorem zw_RX9_21 : zFO RX9 9 1 := by intro C T e; cases e; exact ⟨rfl, rfl⟩
theorem zf_RX10_146 : zF RX10 146 9 1 := ⟨_, _, _, zcl9, by decide, zt_a2 33 rfl rfl⟩
theorem zf_RX9_28 : zF RX9 28 9 2 := ⟨_, _, _, zcl9, by decide, zt_a2 34 rfl rfl⟩
theorem zw_RX9_28 : zFO RX9 9 2 := by intro C T e; cases e; exact ⟨rfl, rfl⟩
theorem zf_RX10_163 : zF RX10 163 9 2 := ⟨_, _, _, zcl9, by decide, zt_a2 35 rfl rfl⟩
theorem zf_RX9_32 : zF RX9 32 9 3 := ⟨_, _, _, zcl9, by decide, zt_a2 36 rfl rfl⟩
theorem zw_RX9_32 : zFO RX9 9 3 := by intro C T e; cases e; exact ⟨rfl, rfl⟩
theorem zf_RX10_177 : zF RX10 177 9 3 := ⟨_, _, _, zcl9, by decide, zt_a2 37 rfl rfl⟩
theorem zf_RX9_38 : zF RX9 38 9 4 := ⟨_, _, _, zcl9, by decide, zt_a2 38 rfl rfl⟩
theorem zw_RX9_38 : zFO RX9 9 4 := by intro C T e; cases e; exact ⟨rfl, rfl⟩
theorem zf_RX10_184 : zF RX10 184 9 4 := ⟨_, _, _, zcl9, by decide, zt_a2 39 rfl rfl⟩
theorem zf_RX9_45 : zF RX9 45 9 5 := ⟨_, _, _, zcl9, by decide, zt_a2 40 rfl rfl⟩
theorem zw_RX9_45 : zFO RX9 9 5 := by intro C T e; cases e; exact ⟨rfl, rfl⟩
theorem zf_RX10_219 : zF RX10 219 9 5 := ⟨_, _, _, zcl9, by decide, zt_a2 41 rfl rfl⟩
theorem zf_RX9_52 : zF RX9 52 9 6 := ⟨_, _, _, zcl9, by decide, zt_a2 42 rfl rfl⟩
theorem zw_RX9_52 : zFO RX9 9 6 := by intro C T e; cases e; exact ⟨rfl, rfl⟩
theorem zf_RX10_263 : zF RX10 263 9 6 := ⟨_, _, _, zcl9, by decide, zt_a2 43 rfl rfl⟩
theorem zf_RX6_11 : zF RX6 11 6 0 := ⟨_, _, _, zcl6, by decide, zt_a2 65 rfl rfl⟩
theorem zw_RX6_11 : zFO RX6 6 0 := by intro C T e; cases e; exact ⟨rfl, rfl⟩
theorem zf_RX6_15 : zF RX6 15 6 1 := ⟨_, _, _, zcl6, by decide, zt_a2 66 rfl rfl⟩
theorem zw_RX6_15 : zFO RX6 6 1 := by intro C T e; cases e; exact ⟨rfl, rfl⟩
theorem zf_RX6_18 : zF RX6 18 6 2 := ⟨_, _, _, zcl6, by decide, zt_a2 67 rfl rfl⟩
theorem zw_RX6_18 : zFO RX6 6 2 := by intro C T e; cases e; exact ⟨rfl, rfl⟩
theorem zf_RX6_21 : zF RX6 21 6 3 := ⟨_, _, _, zcl6, by decide, zt_a2 68 rfl rfl⟩
theorem zw_RX6_21 : zNF 6 3 := by intro C T e; cases e; rfl
theorem zf_RX10_137 : zF RX10 137 6 3 := ⟨_, _, _, zcl6, by decide, zt_a2 69 rfl rfl⟩
theorem zw_RX10_137 : zNF 6 3 := by intro C T e; cases e; rfl
theorem zf_RX6_25 : zF RX6 25 6 4 := ⟨_, _, _, zcl6, by decide, zt_a2 70 rfl rfl⟩
theorem zw_RX6_25 : zNF 6 4 := by intro C T e; cases e; rfl
theorem zf_RX6_28 : zF RX6 28 6 5 := ⟨_, _, _, zcl6, by decide, zt_a2 71 rfl rfl⟩
theorem zw_RX6_28 : zNF 6 5 := by intro C T e; cases e; rfl
theorem zf_RX6_31 : zF RX6 31 6 6 := ⟨_, _, _, zcl6, by decide, zt_a2 72 rfl rfl⟩
theorem zw_RX6_31 : zNF 6 6 := by intro C T e; cases e; rfl
theorem zf_RX7_32 : zF RX7 32 6 6 := ⟨_, _, _, zcl6, by decide, zt_a2 73 rfl rfl⟩
theorem zw_RX7_32 : zNF 6 6 := by intro C T e; cases e; rfl
theorem zf_RX6_34 : zF RX6 34 6 7 := ⟨_, _, _, zcl6, by decide, zt_a2 74 rfl rfl⟩
theorem zw_RX6_34 : zNF 6 7 := by intro C T e; cases e; rfl
theorem zf_RX10_198 : zF RX10 198 6 7 := ⟨_, _, _, zcl6, by decide, zt_a2 75 rfl rfl⟩
theorem zw_RX10_198 : zNF 6 7 := by intro C T e; cases e; rfl
theorem zf_RX6_37 : zF RX6 37 6 8 := ⟨_, _, _, zcl6, by decide, zt_a2 76 rfl rfl⟩
theorem zw_RX6_37 : zNF 6 8 := by intro C T e; cases e; rfl
theorem zf_RX10_201 : zF RX10 201 6 8 := ⟨_, _, _, zcl6, by decide, zt_a2 77 rfl rfl⟩
theorem zw_RX10_201 : zNF 6 8 := by intro C T e; cases e; rfl
theorem zf_RX6_40 : zF RX6 40 6 9 := ⟨_, _, _, zcl6, by decide, zt_a2 78 rfl rfl⟩
theorem zw_RX6_40 : zNF 6 9 := by intro C T e; cases e; rfl
theorem zf_RX7_110 : zF RX7 110 6 9 := ⟨_, _, _, zcl6, by decide, zt_a2 79 rfl rfl⟩
theorem zw_RX7_110 : zNF 6 9 := by intro C T e; cases e; rfl
theorem zf_RX7_9 : zF RX7 9 7 0 := ⟨_, _, _, zcl7, by decide, zt_a2 107 rfl rfl⟩
theorem zw_RX7_9 : zFO RX7 7 0 := by intro C T e; cases e; exact ⟨rfl, rfl⟩
theorem zf_RX8_11 : zF RX8 11 8 0 := ⟨_, _, _, zcl8, by decide, zt_a2 117 rfl rfl⟩
theorem zw_RX8_11 : zFO RX8 8 0 := by intro C T e; cases e; exact ⟨rfl, rfl⟩
theorem zf_RX10_326 : zF RX10 326 8 0 := ⟨_, _, _, zcl8, by decide, zt_a2 118 rfl rfl⟩
theorem zf_RX8_15 : zF RX8 15 8 1 := ⟨_, _, _, zcl8, by decide, zt_a2 119 rfl rfl⟩
theorem zw_RX8_15 : zFO RX8 8 1 := by intro C T e; cases e; exact ⟨rfl, rfl⟩
theorem zf_RX8_18 : zF RX8 18 8 2 := ⟨_, _, _, zcl8, by decide, zt_a2 120 rfl rfl⟩
theorem zw_RX8_18 : zFO RX8 8 2 := by intro C T e; cases e; exact ⟨rfl, rfl⟩
theorem zf_RX8_21 : zF RX8 21 8 3 := ⟨_, _, _, zcl8, by decide, zt_a2 121 rfl rfl⟩
theorem zw_RX8_21 : zFO RX8 8 3 := by intro C T e; cases e; exact ⟨rfl, rfl⟩
theorem zf_RX8_24 : zF RX8 24 8 4 := ⟨_, _, _, zcl8, by decide, zt_a2 122 rfl rfl⟩
theorem zw_RX8_24 : zFO RX8 8 4 := by intro C T e; cases e; exact ⟨rfl, rfl⟩
theorem zf_RX10_10 : zF RX10 10 10 0 := ⟨_, _, _, zcl10, by decide, zt_a2 137 rfl rfl⟩
theorem zw_RX10_10 : zFO RX10 10 0 := by intro C T e; cases e; exact ⟨rfl, rfl⟩
theorem zf_RX10_16 : zF RX10 16 10 1 := ⟨_, _, _, zcl10, by decide, zt_a2 138 rfl rfl⟩
theorem zw_RX10_16 : zFO RX10 10 1 := by intro C T e; cases e; exact ⟨rfl, rfl⟩
theorem zf_RX10_19 : zF RX10 19 10 2 := ⟨_, _, _, zcl10, by decide, zt_a2 139 rfl rfl⟩
theorem zw_RX10_19 : zFO RX10 10 2 := by intro C T e; cases e; exact ⟨rfl, rfl⟩
theorem zf_RX10_25 : zF RX10 25 10 3 := ⟨_, _, _, zcl10, by decide, zt_a2 140 rfl rfl⟩
theorem zw_RX10_25 : zFO RX10 10 3 := by intro C T e; cases e; exact ⟨rfl, rfl⟩
theorem zf_RX10_34 : zF RX10 34 10 4 := ⟨_, _, _, zcl10, by decide, zt_a2 141 rfl rfl⟩
theorem zw_RX10_34 : zFO RX10 10 4 := by intro C T e; cases e; exact ⟨rfl, rfl⟩
theorem zf_RX10_41 : zF RX10 41 10 5 := ⟨_, _, _, zcl10, by decide, zt_a2 142 rfl rfl⟩
theorem zw_RX10_41 : zFO RX10 10 5 := by intro C T e; cases e; exact ⟨rfl, rfl⟩
theorem zf_RX10_47 : zF RX10 47 10 6 := ⟨_, _, _, zcl10, by decide, zt_a2 143 rfl rfl⟩
theorem zw_RX10_47 : zFO RX10 10 6 := by intro C T e; cases e; exact ⟨rfl, rfl⟩
theorem zf_RX10_51 : zF RX10 51 10 7 := ⟨_, _, _, zcl10, by decide, zt_a2 144 rfl rfl⟩
theorem zw_RX10_51 : zFO RX10 10 7 := by intro C T e; cases e; exact ⟨rfl, rfl⟩
theorem zf_RX10_55 : zF RX10 55 10 8 := ⟨_, _, _, zcl10, by decide, zt_a2 145 rfl rfl⟩
theorem zw_RX10_55 : zNF 10 8 := by intro C T e; cases e; rfl
theorem zf_RX10_59 : zF RX10 59 10 9 := ⟨_, _, _, zcl10, by decide, zt_a2 146 rfl rfl⟩
theorem zw_RX10_59 : zNF 10 9 := by intro C T e; cases e; rfl
theorem zf_RX10_63 : zF RX10 63 10 10 := ⟨_, _, _, zcl10, by decide, zt_a2 147 rfl rfl⟩
theorem zw_RX10_63 : zNF 10 10 := by intro C T e; cases e; rfl
theorem zf_RX11_120 : zF RX11 120 11 0 := ⟨_, _, _, zcl11, by decide, zt_a5 155 rfl rfl⟩
theorem zw_RX11_120 : zNF 11 0 := by intro C T e; cases e; rfl
theorem zf_RX11_7 : zF RX11 7 11 1 := ⟨_, _, _, zcl11, by decide, zt_a5 156 rfl rfl⟩
theorem zw_RX11_7 : zFO RX11 11 1 := by intro C T e; cases e; exact ⟨rfl, rfl⟩
theorem zf_RX11_13 : zF RX11 13 11 2 := ⟨_, _, _, zcl11, by decide, zt_a5 157 rfl rfl⟩
theorem zw_RX11_13 : zFO RX11 11 2 := by intro C T e; cases e; exact ⟨rfl, rfl⟩
theorem zf_RX11_123 : zF RX11 123 11 3 := ⟨_, _, _, zcl11, by decide, zt_a5 158 rfl rfl⟩
theorem zw_RX11_123 : zNF 11 3 := by intro C T e; cases e; rfl
theorem zf_RX11_16 : zF RX11 16 11 4 := ⟨_, _, _, zcl11, by decide, zt_a5 159 rfl rfl⟩
theorem zw_RX11_16 : zFO RX11 11 4 := by intro C T e; cases e; exact ⟨rfl, rfl⟩
theorem zf_RX11_126 : zF RX11 126 11 5 := ⟨_, _, _, zcl11, by decide, zt_a5 160 rfl rfl⟩
theorem zw_RX11_126 : zNF 11 5 := by intro C T e; cases e; rfl
theorem zf_RX11_132 : zF RX11 132 11 6 := ⟨_, _, _, zcl11, by decide, zt_a5 161 rfl rfl⟩
theorem zw_RX11_132 : zNF 11 6 := by intro C T e; cases e; rfl
theorem zf_RX11_19 : zF RX11 19 11 7 := ⟨_, _, _, zcl11, by decide, zt_a5 162 rfl rfl⟩
theorem zw_RX11_19 : zFO RX11 11 7 := by intro C T e; cases e; exact ⟨rfl, rfl⟩
theorem zf_RX11_22 : zF RX11 22 11 8 := ⟨_, _, _, zcl11, by decide, zt_a5 163 rfl rfl⟩
theorem zw_RX11_22 : zFO RX11 11 8 := by intro C T e; cases e; exact ⟨rfl, rfl⟩
theorem zf_RX11_25 : zF RX11 25 11 9 := ⟨_, _, _, zcl11, by decide, zt_a5 164 rfl rfl⟩
theorem zw_RX11_25 : zFO RX11 11 9 := by intro C T e; cases e; exact ⟨rfl, rfl⟩
theorem zf_RX11_28 : zF RX11 28 11 10 := ⟨_, _, _, zcl11, by decide, zt_a5 165 rfl rfl⟩
theorem zw_RX11_28 : zFO RX11 11 10 := by intro C T e; cases e; exact ⟨rfl, rfl⟩
theorem zf_RX11_149 : zF RX11 149 11 11 := ⟨_, _, _, zcl11, by decide, zt_a5 166 rfl rfl⟩
theorem zw_RX11_149 : zNF 11 11 := by intro C T e; cases e; rfl
theorem zf_RX11_156 : zF RX11 156 11 12 := ⟨_, _, _, zcl11, by decide, zt_a5 167 rfl rfl⟩
theorem zw_RX11_156 : zNF 11 12 := by intro C T e; cases e; rfl
theorem zf_RX11_163 : zF RX11 163 11 13 := ⟨_, _, _, zcl11, by decide, zt_a5 168 rfl rfl⟩
theorem zw_RX11_163 : zNF 11 13 := by intro C T e; cases e; rfl
theorem zf_RX11_166 : zF RX11 166 11 14 := ⟨_, _, _, zcl11, by decide, zt_a5 169 rfl rfl⟩
theorem zw_RX11_166 : zNF 11 14 := by intro C T e; cases e; rfl
theorem zf_RX11_169 : zF RX11 169 11 15 := ⟨_, _, _, zcl11, by decide, zt_a5 170 rfl rfl⟩
theorem zw_RX11_169 : zNF 11 15 := by intro C T e; cases e; rfl
theorem zf_RX11_31 : zF RX11 31 11 16 := ⟨_, _, _, zcl11, by decide, zt_a5 171 rfl rfl⟩
theorem zw_RX11_31 : zFO RX11 11 16 := by intro C T e; cases e; exact ⟨rfl, rfl⟩
theorem zf_RX11_34 : zF RX11 34 11 17 := ⟨_, _, _, zcl11, by decide, zt_a5 172 rfl rfl⟩
theorem zw_RX11_34 : zFO RX11 11 17 := by intro C T e; cases e; exact ⟨rfl, rfl⟩
theorem zf_RX11_37 : zF RX11 37 11 18 := ⟨_, _, _, zcl11, by decide, zt_a5 173 rfl rfl⟩
theorem zw_RX11_37 : zFO RX11 11 18 := by intro C T e; cases e; exact ⟨rfl, rfl⟩
theorem zf_RX11_40 : zF RX11 40 11 19 := ⟨_, _, _, zcl11, by decide, zt_a5 174 rfl rfl⟩
theorem zw_RX11_40 : zFO RX11 11 19 := by intro C T e; cases e; exact ⟨rfl, rfl⟩
theorem zf_RX11_43 : zF RX11 43 11 20 := ⟨_, _, _, zcl11, by decide, zt_a5 175 rfl rfl⟩
theorem zw_RX11_43 : zFO RX11 11 20 := by intro C T e; cases e; exact ⟨rfl, rfl⟩
theorem zf_RX11_46 : zF RX11 46 11 21 := ⟨_, _, _, zcl11, by decide, zt_a5 176 rfl rfl⟩
theorem zw_RX11_46 : zFO RX11 11 21 := by intro C T e; cases e; exact ⟨rfl, rfl⟩
theorem zf_RX11_49 : zF RX11 49 11 22 := ⟨_, _, _, zcl11, by decide, zt_a5 177 rfl rfl⟩
theorem zw_RX11_49 : zFO RX11 11 22 := by intro C T e; cases e; exact ⟨rfl, rfl⟩
theorem zf_RX11_52 : zF RX11 52 11 23 := ⟨_, _, _, zcl11, by decide, zt_a5 178 rfl rfl⟩
theorem zw_RX11_52 : zFO RX11 11 23 := by intro C T e; cases e; exact ⟨rfl, rfl⟩
theorem zf_RX11_245 : zF RX11 245 11 24 := ⟨_, _, _, zcl11, by decide, zt_a5 179 rfl rfl⟩
theorem zw_RX11_245 : zNF 11 24 := by intro C T e; cases e; rfl
theorem zf_RX11_191 : zF RX11 191 11 25 := ⟨_, _, _, zcl11, by decide, zt_a5 180 rfl rfl⟩
theorem zw_RX11_191 : zNF 11 25 := by intro C T e; cases e; rfl
theorem zf_RX11_223 : zF RX11 223 11 26 := ⟨_, _, _, zcl11, by decide, zt_a5 181 rfl rfl⟩
theorem zw_RX11_223 : zNF 11 26 := by intro C T e; cases e; rfl
theorem zf_RX11_55 : zF RX11 55 11 27 := ⟨_, _, _, zcl11, by decide, zt_a5 182 rfl rfl⟩
theorem zw_RX11_55 : zFO RX11 11 27 := by intro C T e; cases e; exact ⟨rfl, rfl⟩
theorem zf_RX11_220 : zF RX11 220 11 28 := ⟨_, _, _, zcl11, by decide, zt_a5 183 rfl rfl⟩
theorem zw_RX11_220 : zNF 11 28 := by intro C T e; cases e; rfl
theorem zf_RX11_185 : zF RX11 185 11 29 := ⟨_, _, _, zcl11, by decide, zt_a5 184 rfl rfl⟩
theorem zw_RX11_185 : zNF 11 29 := by intro C T e; cases e; rfl
theorem zf_RX11_188 : zF RX11 188 11 30 := ⟨_, _, _, zcl11, by decide, zt_a5 185 rfl rfl⟩
theorem zw_RX11_188 : zNF 11 30 := by intro C T e; cases e; rfl
theorem zf_RX11_291 : zF RX11 291 11 31 := ⟨_, _, _, zcl11, by decide, zt_a5 186 rfl rfl⟩
theorem zw_RX11_291 : zNF 11 31 := by intro C T e; cases e; rfl
theorem zf_RX11_58 : zF RX11 58 11 32 := ⟨_, _, _, zcl11, by decide, zt_a5 187 rfl rfl⟩
theorem zw_RX11_58 : zNF 11 32 := by intro C T e; cases e; rfl
theorem zf_RX11_285 : zF RX11 285 11 33 := ⟨_, _, _, zcl11, by decide, zt_a5 188 rfl rfl⟩
theorem zw_RX11_285 : zNF 11 33 := by intro C T e; cases e; rfl
theorem zf_RX11_62 : zF RX11 62 11 34 := ⟨_, _, _, zcl11, by decide, zt_a5 189 rfl rfl⟩
theorem zw_RX11_62 : zFO RX11 11 34 := by intro C T e; cases e; exact ⟨rfl, rfl⟩
theorem zf_RX11_288 : zF RX11 288 11 35 := ⟨_, _, _, zcl11, by decide, zt_a5 190 rfl rfl⟩
theorem zw_RX11_288 : zNF 11 35 := by intro C T e; cases e; rfl
theorem zf_RX11_65 : zF RX11 65 11 36 := ⟨_, _, _, zcl11, by decide, zt_a5 191 rfl rfl⟩
theorem zw_RX11_65 : zFO RX11 11 36 := by intro C T e; cases e; exact ⟨rfl, rfl⟩
theorem zf_RX11_282 : zF RX11 282 11 37 := ⟨_, _, _, zcl11, by decide, zt_a5 192 rfl rfl⟩
theorem zw_RX11_282 : zNF 11 37 := by intro C T e; cases e; rfl
theorem zf_RX11_68 : zF RX11 68 11 38 := ⟨_, _, _, zcl11, by decide, zt_a5 193 rfl rfl⟩
theorem zw_RX11_68 : zFO RX11 11 38 := by intro C T e; cases e; exact ⟨rfl, rfl⟩
theorem zf_RX11_71 : zF RX11 71 11 39 := ⟨_, _, _, zcl11, by decide, zt_a5 194 rfl rfl⟩
theorem zw_RX11_71 : zFO RX11 11 39 := by intro C T e; cases e; exact ⟨rfl, rfl⟩
theorem zf_RX11_74 : zF RX11 74 11 40 := ⟨_, _, _, zcl11, by decide, zt_a5 195 rfl rfl⟩
theorem zw_RX11_74 : zFO RX11 11 40 := by intro C T e; cases e; exact ⟨rfl, rfl⟩
theorem zf_RX11_77 : zF RX11 77 11 41 := ⟨_, _, _, zcl11, by decide, zt_a5 196 rfl rfl⟩
theorem zw_RX11_77 : zFO RX11 11 41 := by intro C T e; cases e; exact ⟨rfl, rfl⟩
theorem zf_RX11_401 : zF RX11 401 11 42 := ⟨_, _, _, zcl11, by decide, zt_a5 197 rfl rfl⟩
theorem zw_RX11_401 : zNF 11 42 := by intro C T e; cases e; rfl
theorem zf_RX11_80 : zF RX11 80 11 43 := ⟨_, _, _, zcl11, by decide, zt_a5 198 rfl rfl⟩
theorem zw_RX11_80 : zFO RX11 11 43 := by intro C T e; cases e; exact ⟨rfl, rfl⟩
theorem zf_RX11_83 : zF RX11 83 11 44 := ⟨_, _, _, zcl11, by decide, zt_a5 199 rfl rfl⟩
theorem zw_RX11_83 : zFO RX11 11 44 := by intro C T e; cases e; exact ⟨rfl, rfl⟩
theorem zf_RX11_408 : zF RX11 408 11 45 := ⟨_, _, _, zcl11, by decide, zt_a5 200 rfl rfl⟩
theorem zw_RX11_408 : zNF 11 45 := by intro C T e; cases e; rfl
theorem zf_RX11_86 : zF RX11 86 11 46 := ⟨_, _, _, zcl11, by decide, zt_a5 201 rfl rfl⟩
theorem zw_RX11_86 : zFO RX11 11 46 := by intro C T e; cases e; exact ⟨rfl, rfl⟩
theorem zf_RX11_89 : zF RX11 89 11 47 := ⟨_, _, _, zcl11, by decide, zt_a5 202 rfl rfl⟩
theorem zw_RX11_89 : zFO RX11 11 47 := by intro C T e; cases e; exact ⟨rfl, rfl⟩
theorem zf_RX11_93 : zF RX11 93 11 48 := ⟨_, _, _, zcl11, by decide, zt_a5 203 rfl rfl⟩
theorem zw_RX11_93 : zFO RX11 11 48 := by intro C T e; cases e; exact ⟨rfl, rfl⟩
theorem zf_RX11_425 : zF RX11 425 11 49 := ⟨_, _, _, zcl11, by decide, zt_a5 204 rfl rfl⟩
theorem zw_RX11_425 : zNF 11 49 := by intro C T e; cases e; rfl
theorem zf_RX11_96 : zF RX11 96 11 50 := ⟨_, _, _, zcl11, by decide, zt_a5 205 rfl rfl⟩
theorem zw_RX11_96 : zFO RX11 11 50 := by intro C T e; cases e; exact ⟨rfl, rfl⟩
theorem zf_RX11_99 : zF RX11 99 11 51 := ⟨_, _, _, zcl11, by decide, zt_a5 206 rfl rfl⟩
theorem zw_RX11_99 : zFO RX11 11 51 := by intro C T e; cases e; exact ⟨rfl, rfl⟩
theorem zf_RX11_102 : zF RX11 102 11 52 := ⟨_, _, _, zcl11, by decide, zt_a5 207 rfl rfl⟩
theorem zw_RX11_102 : zFO RX11 11 52 := by intro C T e; cases e; exact ⟨rfl, rfl⟩
theorem zf_RX11_445 : zF RX11 445 11 53 := ⟨_, _, _, zcl11, by decide, zt_a5 208 rfl rfl⟩
theorem zw_RX11_445 : zNF 11 53 := by intro C T e; cases e; rfl
theorem zf_RX11_105 : zF RX11 105 11 54 := ⟨_, _, _, zcl11, by decide, zt_a5 209 rfl rfl⟩
theorem zw_RX11_105 : zFO RX11 11 54 := by intro C T e; cases e; exact ⟨rfl, rfl⟩
theorem zf_RX11_108 : zF RX11 108 11 55 := ⟨_, _, _, zcl11, by decide, zt_a5 210 rfl rfl⟩
theorem zw_RX11_108 : zFO RX11 11 55 := by intro C T e; cases e; exact ⟨rfl, rfl⟩
theorem zf_RX11_111 : zF RX11 111 11 56 := ⟨_, _, _, zcl11, by decide, zt_a5 211 rfl rfl⟩
theorem zw_RX11_111 : zFO RX11 11 56 := by intro C T e; cases e; exact ⟨rfl, rfl⟩
theorem zf_RX11_114 : zF RX11 114 11 57 := ⟨_, _, _, zcl11, by decide, zt_a5 212 rfl rfl⟩
theorem zw_RX11_114 : zFO RX11 11 57 := by intro C T e; cases e; exact ⟨rfl, rfl⟩
theorem zf_RX11_464 : zF RX11 464 11 58 := ⟨_, _, _, zcl11, by decide, zt_a5 213 rfl rfl⟩
theorem zw_RX11_464 : zNF 11 58 := by intro C T e; cases e; rfl
theorem zf_RX11_470 : zF RX11 470 11 59 := ⟨_, _, _, zcl11, by decide, zt_a5 214 rfl rfl⟩
theorem zw_RX11_470 : zNF 11 59 := by intro C T e; cases e; rfl
theorem zf_RX11_461 : zF RX11 461 11 60 := ⟨_, _, _, zcl11, by decide, zt_a5 215 rfl rfl⟩
theorem zw_RX11_461 : zNF 11 60 := by intro C T e; cases e; rfl
theorem zf_RX11_117 : zF RX11 117 11 61 := ⟨_, _, _, zcl11, by decide, zt_a5 216 rfl rfl⟩
theorem zw_RX11_117 : zFO RX11 11 61 := by intro C T e; cases e; exact ⟨rfl, rfl⟩
theorem wc_RJ6_265 : Cond.constant RJ6 265 (Int32.ofInt 1431655765) ∈ zt := zt_a3 8 (by decide +kernel) rfl
theorem wc_RJ6_266 : Cond.constant RJ6 266 (Int32.ofInt 858993459) ∈ zt := zt_a3 9 (by decide +kernel) rfl
theorem wc_RJ6_267 : Cond.constant RJ6 267 (Int32.ofInt 252645135) ∈ zt := zt_a3 10 (by decide +kernel) rfl
theorem wc_RX1_61 : Cond.constant RX1 61 (Int32.ofInt 1664525) ∈ zt := zt_a3 67 (by decide +kernel) rfl
theorem wc_RX1_62 : Cond.constant RX1 62 (Int32.ofInt 1013904223) ∈ zt := zt_a3 68 (by decide +kernel) rfl
theorem wc_RJ2_227 : Cond.constant RJ2 227 (Int32.ofInt 65536) ∈ zt := zt_a3 211 (by decide +kernel) rfl
theorem wc_RJ11_110 : Cond.constant RJ11 110 (Int32.ofInt 55232) ∈ zt := zt_a3 236 (by decide +kernel) rfl
theorem wc_RJ11_76 : Cond.constant RJ11 76 (Int32.ofInt 56320) ∈ zt := zt_a4 0 (by decide +kernel) rfl
theorem wc_RX10_252 : Cond.constant RX10 252 (Int32.ofInt 2147483647) ∈ zt := zt_a4 169 (by decide +kernel) rfl
theorem wc_RX10_353 : Cond.constant RX10 353 (Int32.ofInt 262144) ∈ zt := zt_a4 177 (by decide +kernel) rfl
theorem wc_RX10_253 : Cond.constant RX10 253 (Int32.ofInt 262143) ∈ zt := zt_a4 182 (by decide +kernel) rfl
theorem wc_RX10_276 : Cond.constant RX10 276 (Int32.ofInt (-10000000)) ∈ zt := zt_a4 224 (by decide +kernel) rfl
theorem wc_RX8_57 : Cond.constant RX8 57 (Int32.ofInt 2147483647) ∈ zt := zt_a5 15 (by decide +kernel) rfl
theorem wc_RX10_302 : Cond.constant RX10 302 (Int32.ofInt 1000000) ∈ zt := zt_a5 50 (by decide +kernel) rfl
theorem wc_RX8_79 : Cond.constant RX8 79 (Int32.ofInt 1000000) ∈ zt := zt_a5 113 (by decide +kernel) rfl
theorem wc_RX10_341 : Cond.constant RX10 341 (Int32.ofInt (-100000)) ∈ zt := zt_a5 147 (by decide +kernel) rfl
theorem wc_RX11_92 : Cond.constant RX11 92 (Int32.ofInt 116281) ∈ zt := zt_a5 154 (by decide +kernel) rfl
theorem wc_RX11_130 : Cond.constant RX11 130 (Int32.ofInt 1664525) ∈ zt := zt_a7 146 (by decide +kernel) rfl
theorem wc_RX11_131 : Cond.constant RX11 131 (Int32.ofInt 1013904223) ∈ zt := zt_a7 147 (by decide +kernel) rfl
theorem wc_RX11_404 : Cond.constant RX11 404 (Int32.ofInt (-10000000)) ∈ zt := zt_a7 220 (by decide +kernel) rfl
theorem wc_RX11_411 : Cond.constant RX11 411 (Int32.ofInt 100000000) ∈ zt := zt_a7 233 (by decide +kernel) rfl
theorem wc_RX11_443 : Cond.constant RX11 443 (Int32.ofInt 1000000) ∈ zt := zt_a8 50 (by decide +kernel) rfl
theorem wc_RX11_444 : Cond.constant RX11 444 (Int32.ofInt 399400) ∈ zt := zt_a8 59 (by decide +kernel) rfl
theorem wc_RX11_479 : Cond.constant RX11 479 (Int32.ofInt (-100000)) ∈ zt := zt_a8 116 (by decide +kernel) rfl
theorem mb_X0_init : zMb yX0_init cX0_init 1 none 0 := ⟨zt_a1 204 rfl rfl, zt_a1 7 rfl rfl, by decide, by decide, by decide +kernel⟩
theorem mb_X0_copyFrom : zMb yX0_copyFrom cX0_copyFrom 2 none 1 := ⟨zt_a4 149 rfl rfl, zt_a1 7 rfl rfl, by decide, by decide, by decide +kernel⟩
theorem mb_X0_write : zMb yX0_write cX0_write 5 none 4 := ⟨zt_a3 27 rfl rfl, zt_a1 7 rfl rfl, by decide, by decide, by decide +kernel⟩
theorem mb_X1_init : zMb yX1_init cX1_init 1 none 0 := ⟨zt_a1 40 rfl rfl, zt_a1 3 rfl rfl, by decide, by decide, by decide +kernel⟩
theorem mb_X1_copyFrom : zMb yX1_copyFrom cX1_copyFrom 2 none 1 := ⟨zt_a2 225 rfl rfl, zt_a1 3 rfl rfl, by decide, by decide, by decide +kernel⟩
theorem mb_X1_comes : zMb yX1_comes cX1_comes 3 (some .int) 2 := ⟨zt_a2 189 rfl rfl, zt_a1 3 rfl rfl, by decide, by decide, by decide +kernel⟩
theorem mb_X1_knows : zMb yX1_knows cX1_knows 2 (some .boolean) 1 := ⟨zt_a2 201 rfl rfl, zt_a1 3 rfl rfl, by decide, by decide, by decide +kernel⟩
theorem mb_X1_isHere : zMb yX1_isHere cX1_isHere 2 (some .boolean) 1 := ⟨zt_a2 213 rfl rfl, zt_a1 3 rfl rfl, by decide, by decide, by decide +kernel⟩
theorem mb_X1_isBegged : zMb yX1_isBegged cX1_isBegged 2 (some .boolean) 1 := ⟨zt_a2 217 rfl rfl, zt_a1 3 rfl rfl, by decide, by decide, by decide +kernel⟩
theorem mb_X1_drawOfThousand : zMb yX1_drawOfThousand cX1_drawOfThousand 1 (some .int) 0 := ⟨zt_a3 66 rfl rfl, zt_a1 3 rfl rfl, by decide, by decide, by decide +kernel⟩
theorem mb_X1_moveHands : zMb yX1_moveHands cX1_moveHands 3 none 1 := ⟨zt_a3 47 rfl rfl, zt_a1 3 rfl rfl, by decide, by decide, by decide +kernel⟩
theorem mb_X2_init : zMb yX2_init cX2_init 1 none 0 := ⟨zt_a1 187 rfl rfl, zt_a1 6 rfl rfl, by decide, by decide, by decide +kernel⟩
theorem mb_X2_copyFrom : zMb yX2_copyFrom cX2_copyFrom 2 none 1 := ⟨zt_a4 118 rfl rfl, zt_a1 6 rfl rfl, by decide, by decide, by decide +kernel⟩
theorem mb_X2_clear : zMb yX2_clear cX2_clear 1 none 0 := ⟨zt_a4 102 rfl rfl, zt_a1 6 rfl rfl, by decide, by decide, by decide +kernel⟩
theorem mb_X2_join : zMb yX2_join cX2_join 3 none 2 := ⟨zt_a4 113 rfl rfl, zt_a1 6 rfl rfl, by decide, by decide, by decide +kernel⟩
theorem mb_X2_areKin : zMb yX2_areKin cX2_areKin 3 (some .boolean) 2 := ⟨zt_a3 73 rfl rfl, zt_a1 6 rfl rfl, by decide, by decide, by decide +kernel⟩
theorem mb_X3_init : zMb yX3_init cX3_init 1 none 0 := ⟨zt_a1 116 rfl rfl, zt_a1 4 rfl rfl, by decide, by decide, by decide +kernel⟩
theorem mb_X3_copyFrom : zMb yX3_copyFrom cX3_copyFrom 2 none 1 := ⟨zt_a4 55 rfl rfl, zt_a1 4 rfl rfl, by decide, by decide, by decide +kernel⟩
theorem mb_X3_put : zMb yX3_put cX3_put 2 none 1 := ⟨zt_a4 37 rfl rfl, zt_a1 4 rfl rfl, by decide, by decide, by decide +kernel⟩
theorem mb_X3_run : zMb yX3_run cX3_run 8 (some .int) 4 := ⟨zt_a3 0 rfl rfl, zt_a1 4 rfl rfl, by decide, by decide, by decide +kernel⟩
theorem mb_X3_joined : zMb yX3_joined cX3_joined 3 (some .int) 3 := ⟨zt_a3 20 rfl rfl, zt_a1 4 rfl rfl, by decide, by decide, by decide +kernel⟩
theorem mb_X4_init : zMb yX4_init cX4_init 1 none 0 := ⟨zt_a1 159 rfl rfl, zt_a1 5 rfl rfl, by decide, by decide, by decide +kernel⟩
theorem mb_X4_copyFrom : zMb yX4_copyFrom cX4_copyFrom 2 none 1 := ⟨zt_a4 79 rfl rfl, zt_a1 5 rfl rfl, by decide, by decide, by decide +kernel⟩
theorem mb_X5_init : zMb yX5_init cX5_init 1 none 0 := ⟨zt_a1 231 rfl rfl, zt_a1 8 rfl rfl, by decide, by decide, by decide +kernel⟩
theorem mb_X5_copyFrom : zMb yX5_copyFrom cX5_copyFrom 3 none 1 := ⟨zt_a4 154 rfl rfl, zt_a1 8 rfl rfl, by decide, by decide, by decide +kernel⟩
theorem mb_X5_tellWheel : zMb yX5_tellWheel cX5_tellWheel 3 (some .int) 2 := ⟨zt_a4 207 rfl rfl, zt_a1 8 rfl rfl, by decide, by decide, by decide +kernel⟩
theorem mb_X5_tellCouple : zMb yX5_tellCouple cX5_tellCouple 3 (some .int) 2 := ⟨zt_a4 232 rfl rfl, zt_a1 8 rfl rfl, by decide, by decide, by decide +kernel⟩
theorem mb_X5_tellSeat : zMb yX5_tellSeat cX5_tellSeat 2 (some .int) 1 := ⟨zt_a5 27 rfl rfl, zt_a1 8 rfl rfl, by decide, by decide, by decide +kernel⟩
theorem mb_X5_tellArm : zMb yX5_tellArm cX5_tellArm 3 (some .int) 2 := ⟨zt_a5 104 rfl rfl, zt_a1 8 rfl rfl, by decide, by decide, by decide +kernel⟩
theorem mb_X5_isSafe : zMb yX5_isSafe cX5_isSafe 3 (some .boolean) 1 := ⟨zt_a5 6 rfl rfl, zt_a1 8 rfl rfl, by decide, by decide, by decide +kernel⟩
theorem mb_X5_turnOf : zMb yX5_turnOf cX5_turnOf 7 (some .int) 1 := ⟨zt_a4 216 rfl rfl, zt_a1 8 rfl rfl, by decide, by decide, by decide +kernel⟩
theorem mb_X6_init : zMb yX6_init cX6_init 1 none 0 := ⟨zt_a2 63 rfl rfl, zt_a1 9 rfl rfl, by decide, by decide, by decide +kernel⟩
theorem mb_X6_putFour : zMb yX6_putFour cX6_putFour 3 none 1 := ⟨zt_a3 93 rfl rfl, zt_a1 9 rfl rfl, by decide, by decide, by decide +kernel⟩
theorem mb_X6_rewind : zMb yX6_rewind cX6_rewind 1 none 0 := ⟨zt_a3 105 rfl rfl, zt_a1 9 rfl rfl, by decide, by decide, by decide +kernel⟩
theorem mb_X6_cut : zMb yX6_cut cX6_cut 5 none 1 := ⟨zt_a3 114 rfl rfl, zt_a1 9 rfl rfl, by decide, by decide, by decide +kernel⟩
theorem mb_X6_putToken : zMb yX6_putToken cX6_putToken 3 none 2 := ⟨zt_a3 177 rfl rfl, zt_a1 9 rfl rfl, by decide, by decide, by decide +kernel⟩
theorem mb_X6_isLetter : zMb yX6_isLetter cX6_isLetter 1 (some .boolean) 1 := ⟨zt_a3 117 rfl rfl, zt_a1 9 rfl rfl, by decide, by decide, by decide +kernel⟩
theorem mb_X6_isDigit : zMb yX6_isDigit cX6_isDigit 1 (some .boolean) 1 := ⟨zt_a3 180 rfl rfl, zt_a1 9 rfl rfl, by decide, by decide, by decide +kernel⟩
theorem mb_X6_numberAt : zMb yX6_numberAt cX6_numberAt 5 (some .int) 2 := ⟨zt_a3 184 rfl rfl, zt_a1 9 rfl rfl, by decide, by decide, by decide +kernel⟩
theorem mb_X6_wordAt : zMb yX6_wordAt cX6_wordAt 7 (some .int) 3 := ⟨zt_a3 121 rfl rfl, zt_a1 9 rfl rfl, by decide, by decide, by decide +kernel⟩
theorem mb_X6_isSame : zMb yX6_isSame cX6_isSame 7 (some .boolean) 4 := ⟨zt_a3 173 rfl rfl, zt_a1 9 rfl rfl, by decide, by decide, by decide +kernel⟩
theorem mb_X6_pass : zMb yX6_pass cX6_pass 1 none 0 := ⟨zt_a4 20 rfl rfl, zt_a1 9 rfl rfl, by decide, by decide, by decide +kernel⟩
theorem mb_X6_isNumber : zMb yX6_isNumber cX6_isNumber 1 (some .boolean) 0 := ⟨zt_a4 32 rfl rfl, zt_a1 9 rfl rfl, by decide, by decide, by decide +kernel⟩
theorem mb_X6_isWord : zMb yX6_isWord cX6_isWord 3 (some .boolean) 2 := ⟨zt_a4 8 rfl rfl, zt_a1 9 rfl rfl, by decide, by decide, by decide +kernel⟩
theorem mb_X6_refuse : zMb yX6_refuse cX6_refuse 2 (some .boolean) 1 := ⟨zt_a4 12 rfl rfl, zt_a1 9 rfl rfl, by decide, by decide, by decide +kernel⟩
theorem mb_X6_takes : zMb yX6_takes cX6_takes 2 (some .boolean) 1 := ⟨zt_a4 50 rfl rfl, zt_a1 9 rfl rfl, by decide, by decide, by decide +kernel⟩
theorem mb_X6_takesNumber : zMb yX6_takesNumber cX6_takesNumber 3 (some .boolean) 2 := ⟨zt_a4 73 rfl rfl, zt_a1 9 rfl rfl, by decide, by decide, by decide +kernel⟩
theorem mb_X6_opensLine : zMb yX6_opensLine cX6_opensLine 4 (some .boolean) 3 := ⟨zt_a4 4 rfl rfl, zt_a1 9 rfl rfl, by decide, by decide, by decide +kernel⟩
theorem mb_X7_init : zMb yX7_init cX7_init 2 none 1 := ⟨zt_a2 105 rfl rfl, zt_a1 10 rfl rfl, by decide, by decide, by decide +kernel⟩
theorem mb_X7_readLaw : zMb yX7_readLaw cX7_readLaw 3 (some .boolean) 1 := ⟨zt_a3 109 rfl rfl, zt_a1 10 rfl rfl, by decide, by decide, by decide +kernel⟩
theorem mb_X7_readLawLine : zMb yX7_readLawLine cX7_readLawLine 3 (some .boolean) 2 := ⟨zt_a4 16 rfl rfl, zt_a1 10 rfl rfl, by decide, by decide, by decide +kernel⟩
theorem mb_X7_readChoice : zMb yX7_readChoice cX7_readChoice 6 (some .boolean) 2 := ⟨zt_a4 42 rfl rfl, zt_a1 10 rfl rfl, by decide, by decide, by decide +kernel⟩
theorem mb_X7_readSingle : zMb yX7_readSingle cX7_readSingle 5 (some .boolean) 2 := ⟨zt_a4 46 rfl rfl, zt_a1 10 rfl rfl, by decide, by decide, by decide +kernel⟩
theorem mb_X7_readSum : zMb yX7_readSum cX7_readSum 6 (some .boolean) 1 := ⟨zt_a4 24 rfl rfl, zt_a1 10 rfl rfl, by decide, by decide, by decide +kernel⟩
theorem mb_X7_readOperand : zMb yX7_readOperand cX7_readOperand 4 (some .boolean) 2 := ⟨zt_a4 28 rfl rfl, zt_a1 10 rfl rfl, by decide, by decide, by decide +kernel⟩
theorem mb_X7_readBoats : zMb yX7_readBoats cX7_readBoats 3 (some .boolean) 1 := ⟨zt_a4 60 rfl rfl, zt_a1 10 rfl rfl, by decide, by decide, by decide +kernel⟩
theorem mb_X7_readBoat : zMb yX7_readBoat cX7_readBoat 3 (some .boolean) 2 := ⟨zt_a4 65 rfl rfl, zt_a1 10 rfl rfl, by decide, by decide, by decide +kernel⟩
theorem mb_X7_readDay : zMb yX7_readDay cX7_readDay 3 (some .boolean) 2 := ⟨zt_a4 69 rfl rfl, zt_a1 10 rfl rfl, by decide, by decide, by decide +kernel⟩
theorem mb_X7_readTown : zMb yX7_readTown cX7_readTown 4 (some .boolean) 2 := ⟨zt_a4 84 rfl rfl, zt_a1 10 rfl rfl, by decide, by decide, by decide +kernel⟩
theorem mb_X7_readDoing : zMb yX7_readDoing cX7_readDoing 5 (some .boolean) 3 := ⟨zt_a4 89 rfl rfl, zt_a1 10 rfl rfl, by decide, by decide, by decide +kernel⟩
theorem mb_X7_readAmount : zMb yX7_readAmount cX7_readAmount 3 (some .boolean) 2 := ⟨zt_a4 93 rfl rfl, zt_a1 10 rfl rfl, by decide, by decide, by decide +kernel⟩
theorem mb_X7_readKin : zMb yX7_readKin cX7_readKin 4 (some .boolean) 2 := ⟨zt_a4 97 rfl rfl, zt_a1 10 rfl rfl, by decide, by decide, by decide +kernel⟩
theorem mb_X7_readKinLine : zMb yX7_readKinLine cX7_readKinLine 4 (some .boolean) 2 := ⟨zt_a4 109 rfl rfl, zt_a1 10 rfl rfl, by decide, by decide, by decide +kernel⟩
theorem mb_X8_init : zMb yX8_init cX8_init 1 none 0 := ⟨zt_a2 115 rfl rfl, zt_a1 11 rfl rfl, by decide, by decide, by decide +kernel⟩
theorem mb_X8_strokesOver : zMb yX8_strokesOver cX8_strokesOver 5 (some .int) 2 := ⟨zt_a3 85 rfl rfl, zt_a1 11 rfl rfl, by decide, by decide, by decide +kernel⟩
theorem mb_X8_handsApart : zMb yX8_handsApart cX8_handsApart 2 (some .int) 1 := ⟨zt_a4 194 rfl rfl, zt_a1 11 rfl rfl, by decide, by decide, by decide +kernel⟩
theorem mb_X8_minutesApartBy : zMb yX8_minutesApartBy cX8_minutesApartBy 3 (some .int) 1 := ⟨zt_a4 198 rfl rfl, zt_a1 11 rfl rfl, by decide, by decide, by decide +kernel⟩
theorem mb_X8_commonPart : zMb yX8_commonPart cX8_commonPart 6 (some .int) 2 := ⟨zt_a4 222 rfl rfl, zt_a1 11 rfl rfl, by decide, by decide, by decide +kernel⟩
theorem mb_X8_fewestCrossings : zMb yX8_fewestCrossings cX8_fewestCrossings 15 (some .int) 3 := ⟨zt_a5 0 rfl rfl, zt_a1 11 rfl rfl, by decide, by decide, by decide +kernel⟩
theorem mb_X8_fewestTurnings : zMb yX8_fewestTurnings cX8_fewestTurnings 11 (some .int) 3 := ⟨zt_a5 14 rfl rfl, zt_a1 11 rfl rfl, by decide, by decide, by decide +kernel⟩
theorem mb_X8_turnInto : zMb yX8_turnInto cX8_turnInto 10 none 4 := ⟨zt_a5 19 rfl rfl, zt_a1 11 rfl rfl, by decide, by decide, by decide +kernel⟩
theorem mb_X8_waysToSit : zMb yX8_waysToSit cX8_waysToSit 6 (some .int) 4 := ⟨zt_a5 34 rfl rfl, zt_a1 11 rfl rfl, by decide, by decide, by decide +kernel⟩
theorem mb_X8_leastLean : zMb yX8_leastLean cX8_leastLean 8 (some .int) 5 := ⟨zt_a5 111 rfl rfl, zt_a1 11 rfl rfl, by decide, by decide, by decide +kernel⟩
theorem mb_X8_quotients : zMb yX8_quotients cX8_quotients 7 (some .int) 2 := ⟨zt_a5 42 rfl rfl, zt_a1 11 rfl rfl, by decide, by decide, by decide +kernel⟩
theorem mb_X8_partOf : zMb yX8_partOf cX8_partOf 15 (some .int) 4 := ⟨zt_a5 45 rfl rfl, zt_a1 11 rfl rfl, by decide, by decide, by decide +kernel⟩
theorem mb_X8_ringInOrder : zMb yX8_ringInOrder cX8_ringInOrder 3 none 1 := ⟨zt_a5 58 rfl rfl, zt_a1 11 rfl rfl, by decide, by decide, by decide +kernel⟩
theorem mb_X8_change : zMb yX8_change cX8_change 5 none 2 := ⟨zt_a5 62 rfl rfl, zt_a1 11 rfl rfl, by decide, by decide, by decide +kernel⟩
theorem mb_X8_isInOrder : zMb yX8_isInOrder cX8_isInOrder 3 (some .boolean) 1 := ⟨zt_a5 66 rfl rfl, zt_a1 11 rfl rfl, by decide, by decide, by decide +kernel⟩
theorem mb_X8_changesTillInOrder : zMb yX8_changesTillInOrder cX8_changesTillInOrder 3 (some .int) 1 := ⟨zt_a5 54 rfl rfl, zt_a1 11 rfl rfl, by decide, by decide, by decide +kernel⟩
theorem mb_X8_bellAt : zMb yX8_bellAt cX8_bellAt 6 (some .int) 3 := ⟨zt_a5 70 rfl rfl, zt_a1 11 rfl rfl, by decide, by decide, by decide +kernel⟩
theorem mb_X8_opponent : zMb yX8_opponent cX8_opponent 5 (some .int) 3 := ⟨zt_a5 77 rfl rfl, zt_a1 11 rfl rfl, by decide, by decide, by decide +kernel⟩
theorem mb_X8_meetsLast : zMb yX8_meetsLast cX8_meetsLast 3 (some .int) 2 := ⟨zt_a5 80 rfl rfl, zt_a1 11 rfl rfl, by decide, by decide, by decide +kernel⟩
theorem mb_X8_firstMeeting : zMb yX8_firstMeeting cX8_firstMeeting 7 (some .int) 4 := ⟨zt_a5 96 rfl rfl, zt_a1 11 rfl rfl, by decide, by decide, by decide +kernel⟩
theorem mb_X8_judgeHours : zMb yX8_judgeHours cX8_judgeHours 7 none 2 := ⟨zt_a5 122 rfl rfl, zt_a1 11 rfl rfl, by decide, by decide, by decide +kernel⟩
theorem mb_X8_bestFrom : zMb yX8_bestFrom cX8_bestFrom 6 (some .int) 3 := ⟨zt_a5 126 rfl rfl, zt_a1 11 rfl rfl, by decide, by decide, by decide +kernel⟩
theorem mb_X8_worthOfStep : zMb yX8_worthOfStep cX8_worthOfStep 5 (some .int) 3 := ⟨zt_a5 130 rfl rfl, zt_a1 11 rfl rfl, by decide, by decide, by decide +kernel⟩
theorem mb_X8_stepThatKeeps : zMb yX8_stepThatKeeps cX8_stepThatKeeps 5 (some .int) 3 := ⟨zt_a5 134 rfl rfl, zt_a1 11 rfl rfl, by decide, by decide, by decide +kernel⟩
theorem mb_X9_init : zMb yX9_init cX9_init 1 none 0 := ⟨zt_a1 34 rfl rfl, zt_a1 2 rfl rfl, by decide, by decide, by decide +kernel⟩
theorem mb_X9_copyFrom : zMb yX9_copyFrom cX9_copyFrom 2 none 1 := ⟨zt_a4 141 rfl rfl, zt_a1 2 rfl rfl, by decide, by decide, by decide +kernel⟩
theorem mb_X9_passDay : zMb yX9_passDay cX9_passDay 3 none 1 := ⟨zt_a3 39 rfl rfl, zt_a1 2 rfl rfl, by decide, by decide, by decide +kernel⟩
theorem mb_X9_happen : zMb yX9_happen cX9_happen 3 none 2 := ⟨zt_a3 43 rfl rfl, zt_a1 2 rfl rfl, by decide, by decide, by decide +kernel⟩
theorem mb_X9_sailOut : zMb yX9_sailOut cX9_sailOut 6 none 2 := ⟨zt_a3 57 rfl rfl, zt_a1 2 rfl rfl, by decide, by decide, by decide +kernel⟩
theorem mb_X9_sailBack : zMb yX9_sailBack cX9_sailBack 5 none 2 := ⟨zt_a3 77 rfl rfl, zt_a1 2 rfl rfl, by decide, by decide, by decide +kernel⟩
theorem mb_X9_isWilling : zMb yX9_isWilling cX9_isWilling 5 (some .boolean) 3 := ⟨zt_a3 62 rfl rfl, zt_a1 2 rfl rfl, by decide, by decide, by decide +kernel⟩
theorem mb_X9_goAboard : zMb yX9_goAboard cX9_goAboard 3 none 1 := ⟨zt_a2 232 rfl rfl, zt_a1 2 rfl rfl, by decide, by decide, by decide +kernel⟩
theorem mb_X9_comeBack : zMb yX9_comeBack cX9_comeBack 3 none 1 := ⟨zt_a3 31 rfl rfl, zt_a1 2 rfl rfl, by decide, by decide, by decide +kernel⟩
theorem mb_X9_runClock : zMb yX9_runClock cX9_runClock 3 none 0 := ⟨zt_a3 82 rfl rfl, zt_a1 2 rfl rfl, by decide, by decide, by decide +kernel⟩
theorem mb_X9_tells : zMb yX9_tells cX9_tells 6 (some .int) 2 := ⟨zt_a2 236 rfl rfl, zt_a1 2 rfl rfl, by decide, by decide, by decide +kernel⟩
theorem mb_X9_held : zMb yX9_held cX9_held 2 (some .int) 2 := ⟨zt_a3 23 rfl rfl, zt_a1 2 rfl rfl, by decide, by decide, by decide +kernel⟩
theorem mb_X9_valueOf : zMb yX9_valueOf cX9_valueOf 3 (some .int) 2 := ⟨zt_a3 4 rfl rfl, zt_a1 2 rfl rfl, by decide, by decide, by decide +kernel⟩
theorem mb_X10_init : zMb yX10_init cX10_init 2 none 0 := ⟨zt_a1 26 rfl rfl, zt_a1 1 rfl rfl, by decide, by decide, by decide +kernel⟩
theorem mb_X10_state : zMb yX10_state cX10_state 3 (some .int) 1 := ⟨zt_a2 174 rfl rfl, zt_a1 1 rfl rfl, by decide, by decide, by decide +kernel⟩
theorem mb_X10_islander : zMb yX10_islander cX10_islander 4 (some .int) 2 := ⟨zt_a2 182 rfl rfl, zt_a1 1 rfl rfl, by decide, by decide, by decide +kernel⟩
theorem mb_X10_set : zMb yX10_set cX10_set 5 (some .boolean) 3 := ⟨zt_a2 193 rfl rfl, zt_a1 1 rfl rfl, by decide, by decide, by decide +kernel⟩
theorem mb_X10_act : zMb yX10_act cX10_act 3 (some .boolean) 2 := ⟨zt_a2 205 rfl rfl, zt_a1 1 rfl rfl, by decide, by decide, by decide +kernel⟩
theorem mb_X10_days : zMb yX10_days cX10_days 4 (some .int) 1 := ⟨zt_a3 35 rfl rfl, zt_a1 1 rfl rfl, by decide, by decide, by decide +kernel⟩
theorem mb_X10_feed : zMb yX10_feed cX10_feed 6 (some .int) 5 := ⟨zt_a3 89 rfl rfl, zt_a1 1 rfl rfl, by decide, by decide, by decide +kernel⟩
theorem mb_X10_end : zMb yX10_end cX10_end 2 (some .boolean) 1 := ⟨zt_a3 97 rfl rfl, zt_a1 1 rfl rfl, by decide, by decide, by decide +kernel⟩
theorem mb_X10_text : zMb yX10_text cX10_text 4 (some .int) 1 := ⟨zt_a3 101 rfl rfl, zt_a1 1 rfl rfl, by decide, by decide, by decide +kernel⟩
theorem mb_X10_fault : zMb yX10_fault cX10_fault 2 (some .int) 1 := ⟨zt_a4 124 rfl rfl, zt_a1 1 rfl rfl, by decide, by decide, by decide +kernel⟩
theorem mb_X10_of : zMb yX10_of cX10_of 4 (some .int) 2 := ⟨zt_a4 128 rfl rfl, zt_a1 1 rfl rfl, by decide, by decide, by decide +kernel⟩
theorem mb_X10_book : zMb yX10_book cX10_book 4 (some .int) 2 := ⟨zt_a4 133 rfl rfl, zt_a1 1 rfl rfl, by decide, by decide, by decide +kernel⟩
theorem mb_X10_goes : zMb yX10_goes cX10_goes 4 (some .int) 2 := ⟨zt_a4 137 rfl rfl, zt_a1 1 rfl rfl, by decide, by decide, by decide +kernel⟩
theorem mb_X10_lonely : zMb yX10_lonely cX10_lonely 2 (some .int) 0 := ⟨zt_a4 160 rfl rfl, zt_a1 1 rfl rfl, by decide, by decide, by decide +kernel⟩
theorem mb_X10_must : zMb yX10_must cX10_must 4 (some .int) 2 := ⟨zt_a4 164 rfl rfl, zt_a1 1 rfl rfl, by decide, by decide, by decide +kernel⟩
theorem mb_X10_strokes : zMb yX10_strokes cX10_strokes 3 (some .int) 2 := ⟨zt_a4 186 rfl rfl, zt_a1 1 rfl rfl, by decide, by decide, by decide +kernel⟩
theorem mb_X10_hands : zMb yX10_hands cX10_hands 3 (some .int) 2 := ⟨zt_a4 191 rfl rfl, zt_a1 1 rfl rfl, by decide, by decide, by decide +kernel⟩
theorem mb_X10_wheel : zMb yX10_wheel cX10_wheel 3 (some .int) 2 := ⟨zt_a4 203 rfl rfl, zt_a1 1 rfl rfl, by decide, by decide, by decide +kernel⟩
theorem mb_X10_wheels : zMb yX10_wheels cX10_wheels 2 (some .int) 1 := ⟨zt_a4 212 rfl rfl, zt_a1 1 rfl rfl, by decide, by decide, by decide +kernel⟩
theorem mb_X10_couple : zMb yX10_couple cX10_couple 3 (some .int) 2 := ⟨zt_a4 228 rfl rfl, zt_a1 1 rfl rfl, by decide, by decide, by decide +kernel⟩
theorem mb_X10_ferry : zMb yX10_ferry cX10_ferry 3 (some .int) 2 := ⟨zt_a4 236 rfl rfl, zt_a1 1 rfl rfl, by decide, by decide, by decide +kernel⟩
theorem mb_X10_glasses : zMb yX10_glasses cX10_glasses 4 (some .int) 3 := ⟨zt_a5 10 rfl rfl, zt_a1 1 rfl rfl, by decide, by decide, by decide +kernel⟩
theorem mb_X10_seat : zMb yX10_seat cX10_seat 2 (some .int) 1 := ⟨zt_a5 23 rfl rfl, zt_a1 1 rfl rfl, by decide, by decide, by decide +kernel⟩
theorem mb_X10_level : zMb yX10_level cX10_level 1 (some .int) 0 := ⟨zt_a5 31 rfl rfl, zt_a1 1 rfl rfl, by decide, by decide, by decide +kernel⟩
theorem mb_X10_part : zMb yX10_part cX10_part 4 (some .int) 3 := ⟨zt_a5 39 rfl rfl, zt_a1 1 rfl rfl, by decide, by decide, by decide +kernel⟩
theorem mb_X10_bells : zMb yX10_bells cX10_bells 4 (some .int) 3 := ⟨zt_a5 49 rfl rfl, zt_a1 1 rfl rfl, by decide, by decide, by decide +kernel⟩
theorem mb_X10_against : zMb yX10_against cX10_against 4 (some .int) 3 := ⟨zt_a5 74 rfl rfl, zt_a1 1 rfl rfl, by decide, by decide, by decide +kernel⟩
theorem mb_X10_calendar : zMb yX10_calendar cX10_calendar 6 (some .int) 3 := ⟨zt_a5 85 rfl rfl, zt_a1 1 rfl rfl, by decide, by decide, by decide +kernel⟩
theorem mb_X10_rope : zMb yX10_rope cX10_rope 5 (some .int) 3 := ⟨zt_a5 89 rfl rfl, zt_a1 1 rfl rfl, by decide, by decide, by decide +kernel⟩
theorem mb_X10_meets : zMb yX10_meets cX10_meets 5 (some .int) 4 := ⟨zt_a5 93 rfl rfl, zt_a1 1 rfl rfl, by decide, by decide, by decide +kernel⟩
theorem mb_X10_arm : zMb yX10_arm cX10_arm 3 (some .int) 2 := ⟨zt_a5 100 rfl rfl, zt_a1 1 rfl rfl, by decide, by decide, by decide +kernel⟩
theorem mb_X10_hung : zMb yX10_hung cX10_hung 3 (some .int) 1 := ⟨zt_a5 108 rfl rfl, zt_a1 1 rfl rfl, by decide, by decide, by decide +kernel⟩
theorem mb_X10_game : zMb yX10_game cX10_game 5 (some .int) 4 := ⟨zt_a5 118 rfl rfl, zt_a1 1 rfl rfl, by decide, by decide, by decide +kernel⟩
theorem mb_X10_undo : zMb yX10_undo cX10_undo 1 (some .boolean) 0 := ⟨zt_a5 138 rfl rfl, zt_a1 1 rfl rfl, by decide, by decide, by decide +kernel⟩
theorem mb_X10_image : zMb yX10_image cX10_image 2 (some .boolean) 1 := ⟨zt_a5 142 rfl rfl, zt_a1 1 rfl rfl, by decide, by decide, by decide +kernel⟩
theorem mb_X10_look : zMb yX10_look cX10_look 3 (some .int) 1 := ⟨zt_a5 146 rfl rfl, zt_a1 1 rfl rfl, by decide, by decide, by decide +kernel⟩
theorem mb_X10_within : zMb yX10_within cX10_within 3 (some .boolean) 3 := ⟨zt_a2 185 rfl rfl, zt_a1 1 rfl rfl, by decide, by decide, by decide +kernel⟩
theorem mb_X10_canBeSet : zMb yX10_canBeSet cX10_canBeSet 4 (some .boolean) 3 := ⟨zt_a2 197 rfl rfl, zt_a1 1 rfl rfl, by decide, by decide, by decide +kernel⟩
theorem mb_X10_canAct : zMb yX10_canAct cX10_canAct 3 (some .boolean) 2 := ⟨zt_a2 209 rfl rfl, zt_a1 1 rfl rfl, by decide, by decide, by decide +kernel⟩
theorem mb_X10_forget : zMb yX10_forget cX10_forget 1 none 0 := ⟨zt_a2 178 rfl rfl, zt_a1 1 rfl rfl, by decide, by decide, by decide +kernel⟩
theorem mb_X10_remember : zMb yX10_remember cX10_remember 3 none 0 := ⟨zt_a2 221 rfl rfl, zt_a1 1 rfl rfl, by decide, by decide, by decide +kernel⟩
theorem mb_X10_fewestWinding : zMb yX10_fewestWinding cX10_fewestWinding 6 (some .int) 1 := ⟨zt_a4 168 rfl rfl, zt_a1 1 rfl rfl, by decide, by decide, by decide +kernel⟩
theorem mb_X10_addToSums : zMb yX10_addToSums cX10_addToSums 6 none 3 := ⟨zt_a4 181 rfl rfl, zt_a1 1 rfl rfl, by decide, by decide, by decide +kernel⟩
theorem mb_X11_init : zMb yX11_init cX11_init 1 none 0 := ⟨zt_a5 152 rfl rfl, zt_a1 12 rfl rfl, by decide, by decide, by decide +kernel⟩
theorem mb_X11_isIn : zMb yX11_isIn cX11_isIn 4 (some .boolean) 3 := ⟨zt_a6 117 rfl rfl, zt_a1 12 rfl rfl, by decide, by decide, by decide +kernel⟩
theorem mb_X11_held : zMb yX11_held cX11_held 4 (some .int) 3 := ⟨zt_a7 81 rfl rfl, zt_a1 12 rfl rfl, by decide, by decide, by decide +kernel⟩
theorem mb_X11_greater : zMb yX11_greater cX11_greater 3 (some .int) 2 := ⟨zt_a8 9 rfl rfl, zt_a1 12 rfl rfl, by decide, by decide, by decide +kernel⟩
theorem mb_X11_lesser : zMb yX11_lesser cX11_lesser 3 (some .int) 2 := ⟨zt_a7 167 rfl rfl, zt_a1 12 rfl rfl, by decide, by decide, by decide +kernel⟩
theorem mb_X11_plain : zMb yX11_plain cX11_plain 2 (some .int) 1 := ⟨zt_a7 163 rfl rfl, zt_a1 12 rfl rfl, by decide, by decide, by decide +kernel⟩
theorem mb_X11_common : zMb yX11_common cX11_common 6 (some .int) 2 := ⟨zt_a7 224 rfl rfl, zt_a1 12 rfl rfl, by decide, by decide, by decide +kernel⟩
theorem mb_X11_onesOf : zMb yX11_onesOf cX11_onesOf 4 (some .int) 1 := ⟨zt_a7 77 rfl rfl, zt_a1 12 rfl rfl, by decide, by decide, by decide +kernel⟩
theorem mb_X11_has : zMb yX11_has cX11_has 3 (some .boolean) 2 := ⟨zt_a7 89 rfl rfl, zt_a1 12 rfl rfl, by decide, by decide, by decide +kernel⟩
theorem mb_X11_keepsAhead : zMb yX11_keepsAhead cX11_keepsAhead 2 none 0 := ⟨zt_a7 57 rfl rfl, zt_a1 12 rfl rfl, by decide, by decide, by decide +kernel⟩
theorem mb_X11_undo : zMb yX11_undo cX11_undo 2 (some .boolean) 0 := ⟨zt_a6 105 rfl rfl, zt_a1 12 rfl rfl, by decide, by decide, by decide +kernel⟩
theorem mb_X11_thinks : zMb yX11_thinks cX11_thinks 2 none 0 := ⟨zt_a7 187 rfl rfl, zt_a1 12 rfl rfl, by decide, by decide, by decide +kernel⟩
theorem mb_X11_endsThought : zMb yX11_endsThought cX11_endsThought 2 none 0 := ⟨zt_a7 191 rfl rfl, zt_a1 12 rfl rfl, by decide, by decide, by decide +kernel⟩
theorem mb_X11_state : zMb yX11_state cX11_state 3 (some .int) 1 := ⟨zt_a6 109 rfl rfl, zt_a1 12 rfl rfl, by decide, by decide, by decide +kernel⟩
theorem mb_X11_draw : zMb yX11_draw cX11_draw 2 (some .int) 1 := ⟨zt_a7 145 rfl rfl, zt_a1 12 rfl rfl, by decide, by decide, by decide +kernel⟩
theorem mb_X11_isIslander : zMb yX11_isIslander cX11_isIslander 2 (some .boolean) 1 := ⟨zt_a6 129 rfl rfl, zt_a1 12 rfl rfl, by decide, by decide, by decide +kernel⟩
theorem mb_X11_isHere : zMb yX11_isHere cX11_isHere 2 (some .boolean) 1 := ⟨zt_a7 53 rfl rfl, zt_a1 12 rfl rfl, by decide, by decide, by decide +kernel⟩
theorem mb_X11_hereSet : zMb yX11_hereSet cX11_hereSet 3 (some .int) 0 := ⟨zt_a7 73 rfl rfl, zt_a1 12 rfl rfl, by decide, by decide, by decide +kernel⟩
theorem mb_X11_islander : zMb yX11_islander cX11_islander 3 (some .int) 2 := ⟨zt_a6 113 rfl rfl, zt_a1 12 rfl rfl, by decide, by decide, by decide +kernel⟩
theorem mb_X11_canSet : zMb yX11_canSet cX11_canSet 4 (some .boolean) 3 := ⟨zt_a6 125 rfl rfl, zt_a1 12 rfl rfl, by decide, by decide, by decide +kernel⟩
theorem mb_X11_set : zMb yX11_set cX11_set 4 (some .boolean) 3 := ⟨zt_a6 121 rfl rfl, zt_a1 12 rfl rfl, by decide, by decide, by decide +kernel⟩
theorem mb_X11_types : zMb yX11_types cX11_types 3 none 1 := ⟨zt_a6 137 rfl rfl, zt_a1 12 rfl rfl, by decide, by decide, by decide +kernel⟩
theorem mb_X11_feed : zMb yX11_feed cX11_feed 6 (some .int) 5 := ⟨zt_a6 133 rfl rfl, zt_a1 12 rfl rfl, by decide, by decide, by decide +kernel⟩
theorem mb_X11_end : zMb yX11_end cX11_end 2 (some .boolean) 1 := ⟨zt_a6 141 rfl rfl, zt_a1 12 rfl rfl, by decide, by decide, by decide +kernel⟩
theorem mb_X11_raw : zMb yX11_raw cX11_raw 2 (some .int) 1 := ⟨zt_a6 157 rfl rfl, zt_a1 12 rfl rfl, by decide, by decide, by decide +kernel⟩
theorem mb_X11_isLetter : zMb yX11_isLetter cX11_isLetter 2 (some .boolean) 1 := ⟨zt_a6 161 rfl rfl, zt_a1 12 rfl rfl, by decide, by decide, by decide +kernel⟩
theorem mb_X11_isDigit : zMb yX11_isDigit cX11_isDigit 2 (some .boolean) 1 := ⟨zt_a6 169 rfl rfl, zt_a1 12 rfl rfl, by decide, by decide, by decide +kernel⟩
theorem mb_X11_isMarkSign : zMb yX11_isMarkSign cX11_isMarkSign 2 (some .boolean) 1 := ⟨zt_a6 173 rfl rfl, zt_a1 12 rfl rfl, by decide, by decide, by decide +kernel⟩
theorem mb_X11_wordAt : zMb yX11_wordAt cX11_wordAt 6 (some .int) 2 := ⟨zt_a6 165 rfl rfl, zt_a1 12 rfl rfl, by decide, by decide, by decide +kernel⟩
theorem mb_X11_reads : zMb yX11_reads cX11_reads 2 none 0 := ⟨zt_a6 153 rfl rfl, zt_a1 12 rfl rfl, by decide, by decide, by decide +kernel⟩
theorem mb_X11_errs : zMb yX11_errs cX11_errs 2 (some .int) 1 := ⟨zt_a6 185 rfl rfl, zt_a1 12 rfl rfl, by decide, by decide, by decide +kernel⟩
theorem mb_X11_isWord : zMb yX11_isWord cX11_isWord 2 (some .boolean) 1 := ⟨zt_a6 181 rfl rfl, zt_a1 12 rfl rfl, by decide, by decide, by decide +kernel⟩
theorem mb_X11_isSign : zMb yX11_isSign cX11_isSign 2 (some .boolean) 1 := ⟨zt_a6 205 rfl rfl, zt_a1 12 rfl rfl, by decide, by decide, by decide +kernel⟩
theorem mb_X11_emits : zMb yX11_emits cX11_emits 3 none 2 := ⟨zt_a7 13 rfl rfl, zt_a1 12 rfl rfl, by decide, by decide, by decide +kernel⟩
theorem mb_X11_canAsk : zMb yX11_canAsk cX11_canAsk 2 (some .boolean) 1 := ⟨zt_a7 9 rfl rfl, zt_a1 12 rfl rfl, by decide, by decide, by decide +kernel⟩
theorem mb_X11_readUnit : zMb yX11_readUnit cX11_readUnit 2 (some .int) 0 := ⟨zt_a7 5 rfl rfl, zt_a1 12 rfl rfl, by decide, by decide, by decide +kernel⟩
theorem mb_X11_readProduct : zMb yX11_readProduct cX11_readProduct 2 (some .int) 0 := ⟨zt_a7 1 rfl rfl, zt_a1 12 rfl rfl, by decide, by decide, by decide +kernel⟩
theorem mb_X11_readSum : zMb yX11_readSum cX11_readSum 2 (some .int) 0 := ⟨zt_a6 237 rfl rfl, zt_a1 12 rfl rfl, by decide, by decide, by decide +kernel⟩
theorem mb_X11_readCompared : zMb yX11_readCompared cX11_readCompared 2 (some .int) 0 := ⟨zt_a7 25 rfl rfl, zt_a1 12 rfl rfl, by decide, by decide, by decide +kernel⟩
theorem mb_X11_waits : zMb yX11_waits cX11_waits 2 none 1 := ⟨zt_a7 21 rfl rfl, zt_a1 12 rfl rfl, by decide, by decide, by decide +kernel⟩
theorem mb_X11_settles : zMb yX11_settles cX11_settles 2 none 1 := ⟨zt_a7 29 rfl rfl, zt_a1 12 rfl rfl, by decide, by decide, by decide +kernel⟩
theorem mb_X11_readAny : zMb yX11_readAny cX11_readAny 4 (some .int) 0 := ⟨zt_a7 17 rfl rfl, zt_a1 12 rfl rfl, by decide, by decide, by decide +kernel⟩
theorem mb_X11_isLineWord : zMb yX11_isLineWord cX11_isLineWord 1 (some .boolean) 0 := ⟨zt_a6 233 rfl rfl, zt_a1 12 rfl rfl, by decide, by decide, by decide +kernel⟩
theorem mb_X11_readLaw : zMb yX11_readLaw cX11_readLaw 3 (some .int) 0 := ⟨zt_a6 229 rfl rfl, zt_a1 12 rfl rfl, by decide, by decide, by decide +kernel⟩
theorem mb_X11_takesLaw : zMb yX11_takesLaw cX11_takesLaw 3 none 1 := ⟨zt_a7 33 rfl rfl, zt_a1 12 rfl rfl, by decide, by decide, by decide +kernel⟩
theorem mb_X11_readNumber : zMb yX11_readNumber cX11_readNumber 4 (some .int) 2 := ⟨zt_a6 197 rfl rfl, zt_a1 12 rfl rfl, by decide, by decide, by decide +kernel⟩
theorem mb_X11_readMark : zMb yX11_readMark cX11_readMark 2 (some .int) 1 := ⟨zt_a6 201 rfl rfl, zt_a1 12 rfl rfl, by decide, by decide, by decide +kernel⟩
theorem mb_X11_readTold : zMb yX11_readTold cX11_readTold 4 (some .int) 3 := ⟨zt_a6 193 rfl rfl, zt_a1 12 rfl rfl, by decide, by decide, by decide +kernel⟩
theorem mb_X11_readBoat : zMb yX11_readBoat cX11_readBoat 2 (some .int) 1 := ⟨zt_a6 189 rfl rfl, zt_a1 12 rfl rfl, by decide, by decide, by decide +kernel⟩
theorem mb_X11_readBoats : zMb yX11_readBoats cX11_readBoats 2 (some .int) 0 := ⟨zt_a6 177 rfl rfl, zt_a1 12 rfl rfl, by decide, by decide, by decide +kernel⟩
theorem mb_X11_kindOfDeed : zMb yX11_kindOfDeed cX11_kindOfDeed 1 (some .int) 0 := ⟨zt_a6 217 rfl rfl, zt_a1 12 rfl rfl, by decide, by decide, by decide +kernel⟩
theorem mb_X11_readDeed : zMb yX11_readDeed cX11_readDeed 3 (some .int) 1 := ⟨zt_a6 213 rfl rfl, zt_a1 12 rfl rfl, by decide, by decide, by decide +kernel⟩
theorem mb_X11_readTown : zMb yX11_readTown cX11_readTown 2 (some .int) 0 := ⟨zt_a6 209 rfl rfl, zt_a1 12 rfl rfl, by decide, by decide, by decide +kernel⟩
theorem mb_X11_readKin : zMb yX11_readKin cX11_readKin 3 (some .int) 0 := ⟨zt_a6 225 rfl rfl, zt_a1 12 rfl rfl, by decide, by decide, by decide +kernel⟩
theorem mb_X11_readAllKin : zMb yX11_readAllKin cX11_readAllKin 2 (some .int) 0 := ⟨zt_a6 221 rfl rfl, zt_a1 12 rfl rfl, by decide, by decide, by decide +kernel⟩
theorem mb_X11_readsText : zMb yX11_readsText cX11_readsText 2 (some .int) 1 := ⟨zt_a6 149 rfl rfl, zt_a1 12 rfl rfl, by decide, by decide, by decide +kernel⟩
theorem mb_X11_takesOther : zMb yX11_takesOther cX11_takesOther 4 none 2 := ⟨zt_a7 37 rfl rfl, zt_a1 12 rfl rfl, by decide, by decide, by decide +kernel⟩
theorem mb_X11_text : zMb yX11_text cX11_text 3 (some .int) 1 := ⟨zt_a6 145 rfl rfl, zt_a1 12 rfl rfl, by decide, by decide, by decide +kernel⟩
theorem mb_X11_fault : zMb yX11_fault cX11_fault 2 (some .int) 1 := ⟨zt_a7 41 rfl rfl, zt_a1 12 rfl rfl, by decide, by decide, by decide +kernel⟩
theorem mb_X11_twoOf : zMb yX11_twoOf cX11_twoOf 4 (some .int) 3 := ⟨zt_a7 105 rfl rfl, zt_a1 12 rfl rfl, by decide, by decide, by decide +kernel⟩
theorem mb_X11_runs : zMb yX11_runs cX11_runs 6 (some .int) 3 := ⟨zt_a7 101 rfl rfl, zt_a1 12 rfl rfl, by decide, by decide, by decide +kernel⟩
theorem mb_X11_lineOf : zMb yX11_lineOf cX11_lineOf 3 (some .int) 1 := ⟨zt_a7 97 rfl rfl, zt_a1 12 rfl rfl, by decide, by decide, by decide +kernel⟩
theorem mb_X11_kinApart : zMb yX11_kinApart cX11_kinApart 4 (some .int) 1 := ⟨zt_a7 85 rfl rfl, zt_a1 12 rfl rfl, by decide, by decide, by decide +kernel⟩
theorem mb_X11_asks : zMb yX11_asks cX11_asks 2 none 1 := ⟨zt_a7 69 rfl rfl, zt_a1 12 rfl rfl, by decide, by decide, by decide +kernel⟩
theorem mb_X11_lawTells : zMb yX11_lawTells cX11_lawTells 5 (some .int) 3 := ⟨zt_a7 93 rfl rfl, zt_a1 12 rfl rfl, by decide, by decide, by decide +kernel⟩
theorem mb_X11_leavesOf : zMb yX11_leavesOf cX11_leavesOf 2 (some .int) 1 := ⟨zt_a7 137 rfl rfl, zt_a1 12 rfl rfl, by decide, by decide, by decide +kernel⟩
theorem mb_X11_windsOf : zMb yX11_windsOf cX11_windsOf 2 (some .int) 1 := ⟨zt_a7 65 rfl rfl, zt_a1 12 rfl rfl, by decide, by decide, by decide +kernel⟩
theorem mb_X11_returnsOf : zMb yX11_returnsOf cX11_returnsOf 2 (some .int) 1 := ⟨zt_a7 155 rfl rfl, zt_a1 12 rfl rfl, by decide, by decide, by decide +kernel⟩
theorem mb_X11_notes : zMb yX11_notes cX11_notes 5 none 3 := ⟨zt_a7 109 rfl rfl, zt_a1 12 rfl rfl, by decide, by decide, by decide +kernel⟩
theorem mb_X11_goesAboard : zMb yX11_goesAboard cX11_goesAboard 3 none 1 := ⟨zt_a7 61 rfl rfl, zt_a1 12 rfl rfl, by decide, by decide, by decide +kernel⟩
theorem mb_X11_comesBack : zMb yX11_comesBack cX11_comesBack 3 none 1 := ⟨zt_a7 113 rfl rfl, zt_a1 12 rfl rfl, by decide, by decide, by decide +kernel⟩
theorem mb_X11_canAct : zMb yX11_canAct cX11_canAct 3 (some .boolean) 2 := ⟨zt_a7 49 rfl rfl, zt_a1 12 rfl rfl, by decide, by decide, by decide +kernel⟩
theorem mb_X11_act : zMb yX11_act cX11_act 3 (some .boolean) 2 := ⟨zt_a7 45 rfl rfl, zt_a1 12 rfl rfl, by decide, by decide, by decide +kernel⟩
theorem mb_X11_happens : zMb yX11_happens cX11_happens 2 (some .boolean) 1 := ⟨zt_a7 141 rfl rfl, zt_a1 12 rfl rfl, by decide, by decide, by decide +kernel⟩
theorem mb_X11_isPushed : zMb yX11_isPushed cX11_isPushed 2 none 1 := ⟨zt_a7 129 rfl rfl, zt_a1 12 rfl rfl, by decide, by decide, by decide +kernel⟩
theorem mb_X11_does : zMb yX11_does cX11_does 4 none 1 := ⟨zt_a7 125 rfl rfl, zt_a1 12 rfl rfl, by decide, by decide, by decide +kernel⟩
theorem mb_X11_goesOut : zMb yX11_goesOut cX11_goesOut 5 none 1 := ⟨zt_a7 133 rfl rfl, zt_a1 12 rfl rfl, by decide, by decide, by decide +kernel⟩
theorem mb_X11_bringsBack : zMb yX11_bringsBack cX11_bringsBack 4 none 1 := ⟨zt_a7 151 rfl rfl, zt_a1 12 rfl rfl, by decide, by decide, by decide +kernel⟩
theorem mb_X11_strokesAt : zMb yX11_strokesAt cX11_strokesAt 2 (some .int) 1 := ⟨zt_a7 171 rfl rfl, zt_a1 12 rfl rfl, by decide, by decide, by decide +kernel⟩
theorem mb_X11_clockRuns : zMb yX11_clockRuns cX11_clockRuns 6 (some .int) 0 := ⟨zt_a7 159 rfl rfl, zt_a1 12 rfl rfl, by decide, by decide, by decide +kernel⟩
theorem mb_X11_goesBy : zMb yX11_goesBy cX11_goesBy 2 (some .int) 0 := ⟨zt_a7 121 rfl rfl, zt_a1 12 rfl rfl, by decide, by decide, by decide +kernel⟩
theorem mb_X11_days : zMb yX11_days cX11_days 4 (some .int) 1 := ⟨zt_a7 117 rfl rfl, zt_a1 12 rfl rfl, by decide, by decide, by decide +kernel⟩
theorem mb_X11_of : zMb yX11_of cX11_of 3 (some .int) 2 := ⟨zt_a7 175 rfl rfl, zt_a1 12 rfl rfl, by decide, by decide, by decide +kernel⟩
theorem mb_X11_book : zMb yX11_book cX11_book 3 (some .int) 2 := ⟨zt_a7 179 rfl rfl, zt_a1 12 rfl rfl, by decide, by decide, by decide +kernel⟩
theorem mb_X11_goes : zMb yX11_goes cX11_goes 4 (some .int) 2 := ⟨zt_a7 183 rfl rfl, zt_a1 12 rfl rfl, by decide, by decide, by decide +kernel⟩
theorem mb_X11_lonely : zMb yX11_lonely cX11_lonely 2 (some .int) 0 := ⟨zt_a7 195 rfl rfl, zt_a1 12 rfl rfl, by decide, by decide, by decide +kernel⟩
theorem mb_X11_must : zMb yX11_must cX11_must 8 (some .int) 2 := ⟨zt_a7 199 rfl rfl, zt_a1 12 rfl rfl, by decide, by decide, by decide +kernel⟩
theorem mb_X11_strokes : zMb yX11_strokes cX11_strokes 5 (some .int) 2 := ⟨zt_a7 203 rfl rfl, zt_a1 12 rfl rfl, by decide, by decide, by decide +kernel⟩
theorem mb_X11_handsAt : zMb yX11_handsAt cX11_handsAt 2 (some .int) 1 := ⟨zt_a7 211 rfl rfl, zt_a1 12 rfl rfl, by decide, by decide, by decide +kernel⟩
theorem mb_X11_hands : zMb yX11_hands cX11_hands 5 (some .int) 2 := ⟨zt_a7 207 rfl rfl, zt_a1 12 rfl rfl, by decide, by decide, by decide +kernel⟩
theorem mb_X11_wheel : zMb yX11_wheel cX11_wheel 3 (some .int) 2 := ⟨zt_a7 215 rfl rfl, zt_a1 12 rfl rfl, by decide, by decide, by decide +kernel⟩
theorem mb_X11_wheels : zMb yX11_wheels cX11_wheels 8 (some .int) 1 := ⟨zt_a7 219 rfl rfl, zt_a1 12 rfl rfl, by decide, by decide, by decide +kernel⟩
theorem mb_X11_couple : zMb yX11_couple cX11_couple 4 (some .int) 2 := ⟨zt_a7 228 rfl rfl, zt_a1 12 rfl rfl, by decide, by decide, by decide +kernel⟩
theorem mb_X11_isPeace : zMb yX11_isPeace cX11_isPeace 3 (some .boolean) 1 := ⟨zt_a7 237 rfl rfl, zt_a1 12 rfl rfl, by decide, by decide, by decide +kernel⟩
theorem mb_X11_ferry : zMb yX11_ferry cX11_ferry 10 (some .int) 2 := ⟨zt_a7 232 rfl rfl, zt_a1 12 rfl rfl, by decide, by decide, by decide +kernel⟩
theorem mb_X11_glassAt : zMb yX11_glassAt cX11_glassAt 4 (some .int) 3 := ⟨zt_a8 5 rfl rfl, zt_a1 12 rfl rfl, by decide, by decide, by decide +kernel⟩
theorem mb_X11_turns : zMb yX11_turns cX11_turns 5 none 4 := ⟨zt_a8 13 rfl rfl, zt_a1 12 rfl rfl, by decide, by decide, by decide +kernel⟩
theorem mb_X11_glasses : zMb yX11_glasses cX11_glasses 12 (some .int) 3 := ⟨zt_a8 1 rfl rfl, zt_a1 12 rfl rfl, by decide, by decide, by decide +kernel⟩
theorem mb_X11_seat : zMb yX11_seat cX11_seat 2 (some .int) 1 := ⟨zt_a8 17 rfl rfl, zt_a1 12 rfl rfl, by decide, by decide, by decide +kernel⟩
theorem mb_X11_isLevel : zMb yX11_isLevel cX11_isLevel 6 (some .boolean) 1 := ⟨zt_a8 25 rfl rfl, zt_a1 12 rfl rfl, by decide, by decide, by decide +kernel⟩
theorem mb_X11_level : zMb yX11_level cX11_level 4 (some .int) 0 := ⟨zt_a8 21 rfl rfl, zt_a1 12 rfl rfl, by decide, by decide, by decide +kernel⟩
theorem mb_X11_findsQuotients : zMb yX11_findsQuotients cX11_findsQuotients 7 (some .int) 2 := ⟨zt_a8 33 rfl rfl, zt_a1 12 rfl rfl, by decide, by decide, by decide +kernel⟩
theorem mb_X11_part : zMb yX11_part cX11_part 10 (some .int) 3 := ⟨zt_a8 29 rfl rfl, zt_a1 12 rfl rfl, by decide, by decide, by decide +kernel⟩
theorem mb_X11_changes : zMb yX11_changes cX11_changes 5 none 2 := ⟨zt_a8 45 rfl rfl, zt_a1 12 rfl rfl, by decide, by decide, by decide +kernel⟩
theorem mb_X11_areInOrder : zMb yX11_areInOrder cX11_areInOrder 3 (some .boolean) 1 := ⟨zt_a8 49 rfl rfl, zt_a1 12 rfl rfl, by decide, by decide, by decide +kernel⟩
theorem mb_X11_againAt : zMb yX11_againAt cX11_againAt 3 (some .int) 1 := ⟨zt_a8 41 rfl rfl, zt_a1 12 rfl rfl, by decide, by decide, by decide +kernel⟩
theorem mb_X11_bells : zMb yX11_bells cX11_bells 6 (some .int) 3 := ⟨zt_a8 37 rfl rfl, zt_a1 12 rfl rfl, by decide, by decide, by decide +kernel⟩
theorem mb_X11_against : zMb yX11_against cX11_against 7 (some .int) 3 := ⟨zt_a8 54 rfl rfl, zt_a1 12 rfl rfl, by decide, by decide, by decide +kernel⟩
theorem mb_X11_calendar : zMb yX11_calendar cX11_calendar 6 (some .int) 3 := ⟨zt_a8 58 rfl rfl, zt_a1 12 rfl rfl, by decide, by decide, by decide +kernel⟩
theorem mb_X11_rope : zMb yX11_rope cX11_rope 4 (some .int) 3 := ⟨zt_a8 63 rfl rfl, zt_a1 12 rfl rfl, by decide, by decide, by decide +kernel⟩
theorem mb_X11_meets : zMb yX11_meets cX11_meets 7 (some .int) 4 := ⟨zt_a8 67 rfl rfl, zt_a1 12 rfl rfl, by decide, by decide, by decide +kernel⟩
theorem mb_X11_arm : zMb yX11_arm cX11_arm 3 (some .int) 2 := ⟨zt_a8 71 rfl rfl, zt_a1 12 rfl rfl, by decide, by decide, by decide +kernel⟩
theorem mb_X11_goesToNextOrder : zMb yX11_goesToNextOrder cX11_goesToNextOrder 6 (some .boolean) 0 := ⟨zt_a8 79 rfl rfl, zt_a1 12 rfl rfl, by decide, by decide, by decide +kernel⟩
theorem mb_X11_hung : zMb yX11_hung cX11_hung 8 (some .int) 1 := ⟨zt_a8 75 rfl rfl, zt_a1 12 rfl rfl, by decide, by decide, by decide +kernel⟩
theorem mb_X11_leadsTo : zMb yX11_leadsTo cX11_leadsTo 4 (some .int) 3 := ⟨zt_a8 91 rfl rfl, zt_a1 12 rfl rfl, by decide, by decide, by decide +kernel⟩
theorem mb_X11_endOf : zMb yX11_endOf cX11_endOf 7 (some .int) 3 := ⟨zt_a8 87 rfl rfl, zt_a1 12 rfl rfl, by decide, by decide, by decide +kernel⟩
theorem mb_X11_keepsSo : zMb yX11_keepsSo cX11_keepsSo 6 (some .boolean) 4 := ⟨zt_a8 95 rfl rfl, zt_a1 12 rfl rfl, by decide, by decide, by decide +kernel⟩
theorem mb_X11_game : zMb yX11_game cX11_game 7 (some .int) 4 := ⟨zt_a8 83 rfl rfl, zt_a1 12 rfl rfl, by decide, by decide, by decide +kernel⟩
theorem mb_X11_keeps : zMb yX11_keeps cX11_keeps 2 (some .int) 1 := ⟨zt_a8 103 rfl rfl, zt_a1 12 rfl rfl, by decide, by decide, by decide +kernel⟩
theorem mb_X11_keepsLaw : zMb yX11_keepsLaw cX11_keepsLaw 2 none 0 := ⟨zt_a8 111 rfl rfl, zt_a1 12 rfl rfl, by decide, by decide, by decide +kernel⟩
theorem mb_X11_keepsTold : zMb yX11_keepsTold cX11_keepsTold 2 none 0 := ⟨zt_a8 107 rfl rfl, zt_a1 12 rfl rfl, by decide, by decide, by decide +kernel⟩
theorem mb_X11_image : zMb yX11_image cX11_image 3 (some .boolean) 1 := ⟨zt_a8 99 rfl rfl, zt_a1 12 rfl rfl, by decide, by decide, by decide +kernel⟩
theorem mb_X11_look : zMb yX11_look cX11_look 2 (some .int) 1 := ⟨zt_a8 115 rfl rfl, zt_a1 12 rfl rfl, by decide, by decide, by decide +kernel⟩
theorem mb_J11_isValidCodePoint_9a6ad : zMb yJ11_isValidCodePoint_9a6ad cJ11_isValidCodePoint_9a6ad 2 (some .boolean) 1 := ⟨zt_a3 232 rfl rfl, zt_a1 20 rfl rfl, by decide, by decide, by decide +kernel⟩
theorem mb_J11_highSurrogate_5068e : zMb yJ11_highSurrogate_5068e cJ11_highSurrogate_5068e 1 (some .char) 1 := ⟨zt_a3 235 rfl rfl, zt_a1 20 rfl rfl, by decide, by decide, by decide +kernel⟩
theorem mb_J11_lowSurrogate_5068e : zMb yJ11_lowSurrogate_5068e cJ11_lowSurrogate_5068e 1 (some .char) 1 := ⟨zt_a3 239 rfl rfl, zt_a1 20 rfl rfl, by decide, by decide, by decide +kernel⟩
theorem mb_J6_bitCount_0f7a4 : zMb yJ6_bitCount_0f7a4 cJ6_bitCount_0f7a4 1 (some .int) 1 := ⟨zt_a3 7 rfl rfl, zt_a1 14 rfl rfl, by decide, by decide, by decide +kernel⟩
theorem mb_J9_floorDiv_7cf53 : zMb yJ9_floorDiv_7cf53 cJ9_floorDiv_7cf53 3 (some .int) 2 := ⟨zt_a3 50 rfl rfl, zt_a1 15 rfl rfl, by decide, by decide, by decide +kernel⟩
theorem mb_J9_floorMod_7cf53 : zMb yJ9_floorMod_7cf53 cJ9_floorMod_7cf53 3 (some .int) 2 := ⟨zt_a3 53 rfl rfl, zt_a1 15 rfl rfl, by decide, by decide, by decide +kernel⟩
theorem mb_J9_abs_0f7a4 : zMb yJ9_abs_0f7a4 cJ9_abs_0f7a4 1 (some .int) 1 := ⟨zt_a4 219 rfl rfl, zt_a1 15 rfl rfl, by decide, by decide, by decide +kernel⟩
theorem mb_J9_max_7cf53 : zMb yJ9_max_7cf53 cJ9_max_7cf53 2 (some .int) 2 := ⟨zt_a3 16 rfl rfl, zt_a1 15 rfl rfl, by decide, by decide, by decide +kernel⟩
theorem mb_J9_min_7cf53 : zMb yJ9_min_7cf53 cJ9_min_7cf53 2 (some .int) 2 := ⟨zt_a3 13 rfl rfl, zt_a1 15 rfl rfl, by decide, by decide, by decide +kernel⟩
theorem mb_J0_length_8abf5 : zMb yJ0_length_8abf5 cJ0_length_8abf5 1 (some .int) 0 := ⟨zt_a3 125 rfl rfl, zt_a1 16 rfl rfl, by decide, by decide, by decide +kernel⟩
theorem mb_J0_charAt_5068e : zMb yJ0_charAt_5068e cJ0_charAt_5068e 2 (some .char) 1 := ⟨zt_a3 135 rfl rfl, zt_a1 16 rfl rfl, by decide, by decide, by decide +kernel⟩
theorem mb_J0_indexOf_0f7a4 : zMb yJ0_indexOf_0f7a4 cJ0_indexOf_0f7a4 2 (some .int) 1 := ⟨zt_a3 189 rfl rfl, zt_a1 16 rfl rfl, by decide, by decide, by decide +kernel⟩
theorem mb_J0_indexOf_7cf53 : zMb yJ0_indexOf_7cf53 cJ0_indexOf_7cf53 3 (some .int) 2 := ⟨zt_a3 193 rfl rfl, zt_a1 16 rfl rfl, by decide, by decide, by decide +kernel⟩
theorem mb_J0_coder_7d493 : zMb yJ0_coder_7d493 cJ0_coder_7d493 1 (some .byte) 0 := ⟨zt_a3 129 rfl rfl, zt_a1 16 rfl rfl, by decide, by decide, by decide +kernel⟩
theorem mb_J0_isLatin1_aae02 : zMb yJ0_isLatin1_aae02 cJ0_isLatin1_aae02 1 (some .boolean) 0 := ⟨zt_a3 139 rfl rfl, zt_a1 16 rfl rfl, by decide, by decide, by decide +kernel⟩
theorem mb_J0_checkIndex_df160 : zMb yJ0_checkIndex_df160 cJ0_checkIndex_df160 2 none 2 := ⟨zt_a3 145 rfl rfl, zt_a1 16 rfl rfl, by decide, by decide, by decide +kernel⟩
theorem mb_J0_checkBoundsBeginEnd_23922 : zMb yJ0_checkBoundsBeginEnd_23922 cJ0_checkBoundsBeginEnd_23922 3 none 3 := ⟨zt_a3 220 rfl rfl, zt_a1 16 rfl rfl, by decide, by decide, by decide +kernel⟩
theorem mb_J1_charAt_3b067 : zMb yJ1_charAt_3b067 cJ1_charAt_3b067 2 (some .char) 2 := ⟨zt_a3 142 rfl rfl, zt_a1 17 rfl rfl, by decide, by decide, by decide +kernel⟩
theorem mb_J1_canEncode_9a6ad : zMb yJ1_canEncode_9a6ad cJ1_canEncode_9a6ad 1 (some .boolean) 1 := ⟨zt_a3 200 rfl rfl, zt_a1 17 rfl rfl, by decide, by decide, by decide +kernel⟩
theorem mb_J1_indexOf_4cfef : zMb yJ1_indexOf_4cfef cJ1_indexOf_4cfef 4 (some .int) 4 := ⟨zt_a3 197 rfl rfl, zt_a1 17 rfl rfl, by decide, by decide, by decide +kernel⟩
theorem mb_J1_indexOfChar_4cfef : zMb yJ1_indexOfChar_4cfef cJ1_indexOfChar_4cfef 6 (some .int) 4 := ⟨zt_a3 205 rfl rfl, zt_a1 17 rfl rfl, by decide, by decide, by decide +kernel⟩
theorem mb_J2_getChar_3b067 : zMb yJ2_getChar_3b067 cJ2_getChar_3b067 2 (some .char) 2 := ⟨zt_a3 163 rfl rfl, zt_a1 19 rfl rfl, by decide, by decide, by decide +kernel⟩
theorem mb_J2_length_9d52b : zMb yJ2_length_9d52b cJ2_length_9d52b 1 (some .int) 1 := ⟨zt_a3 159 rfl rfl, zt_a1 19 rfl rfl, by decide, by decide, by decide +kernel⟩
theorem mb_J2_indexOf_4cfef : zMb yJ2_indexOf_4cfef cJ2_indexOf_4cfef 4 (some .int) 4 := ⟨zt_a3 208 rfl rfl, zt_a1 19 rfl rfl, by decide, by decide, by decide +kernel⟩
theorem mb_J2_indexOfChar_4cfef : zMb yJ2_indexOfChar_4cfef cJ2_indexOfChar_4cfef 4 (some .int) 4 := ⟨zt_a3 214 rfl rfl, zt_a1 19 rfl rfl, by decide, by decide, by decide +kernel⟩
theorem mb_J2_indexOfCharUnsafe_4cfef : zMb yJ2_indexOfCharUnsafe_4cfef cJ2_indexOfCharUnsafe_4cfef 5 (some .int) 4 := ⟨zt_a3 226 rfl rfl, zt_a1 19 rfl rfl, by decide, by decide, by decide +kernel⟩
theorem mb_J2_indexOfSupplementary_4cfef : zMb yJ2_indexOfSupplementary_4cfef cJ2_indexOfSupplementary_4cfef 7 (some .int) 4 := ⟨zt_a3 229 rfl rfl, zt_a1 19 rfl rfl, by decide, by decide, by decide +kernel⟩
theorem mb_J2_charAt_3b067 : zMb yJ2_charAt_3b067 cJ2_charAt_3b067 2 (some .char) 2 := ⟨zt_a3 153 rfl rfl, zt_a1 19 rfl rfl, by decide, by decide, by decide +kernel⟩
theorem mb_J2_checkIndex_2214a : zMb yJ2_checkIndex_2214a cJ2_checkIndex_2214a 2 none 2 := ⟨zt_a3 156 rfl rfl, zt_a1 19 rfl rfl, by decide, by decide, by decide +kernel⟩
theorem mb_J2_checkBoundsBeginEnd_d044e : zMb yJ2_checkBoundsBeginEnd_d044e cJ2_checkBoundsBeginEnd_d044e 3 none 3 := ⟨zt_a3 217 rfl rfl, zt_a1 19 rfl rfl, by decide, by decide, by decide +kernel⟩
theorem mb_J7_rangeCheck_23922 : zMb yJ7_rangeCheck_23922 cJ7_rangeCheck_23922 3 none 3 := ⟨zt_a4 175 rfl rfl, zt_a1 21 rfl rfl, by decide, by decide, by decide +kernel⟩
theorem mb_J7_fill_53178 : zMb yJ7_fill_53178 cJ7_fill_53178 4 none 2 := ⟨zt_a4 105 rfl rfl, zt_a1 21 rfl rfl, by decide, by decide, by decide +kernel⟩
theorem mb_J7_fill_fda19 : zMb yJ7_fill_fda19 cJ7_fill_fda19 5 none 4 := ⟨zt_a4 172 rfl rfl, zt_a1 21 rfl rfl, by decide, by decide, by decide +kernel⟩
theorem mb_J3_checkIndex_8e157 : zMb yJ3_checkIndex_8e157 cJ3_checkIndex_8e157 3 (some .int) 3 := ⟨zt_a3 150 rfl rfl, zt_a1 18 rfl rfl, by decide, by decide, by decide +kernel⟩
theorem mb_J3_checkFromToIndex_8c36e : zMb yJ3_checkFromToIndex_8c36e cJ3_checkFromToIndex_8c36e 4 (some .int) 4 := ⟨zt_a3 223 rfl rfl, zt_a1 18 rfl rfl, by decide, by decide, by decide +kernel⟩
theorem mi_RL_9 : zMI RL 9 yX10_init := ⟨zt_a1 25 rfl rfl, rfl, Or.inl (zt_a1 24 rfl rfl)⟩
theorem mi_RX10_31 : zMI RX10 31 yX7_init := ⟨zt_a2 104 rfl rfl, rfl, Or.inl (zt_a2 103 rfl rfl)⟩
theorem mv_RL_13 : zMV RL 13 yX10_state.cls yX10_state := ⟨zt_a2 171 rfl rfl, zt_a2 172 rfl rfl, zt_a2 173 rfl rfl⟩
theorem mv_RX10_74 : zMV RX10 74 yX10_forget.cls yX10_forget := ⟨zt_a2 175 rfl rfl, zt_a2 177 rfl rfl, zt_sel (n := 11) 0 (by decide +kernel)⟩
theorem mv_RL_18 : zMV RL 18 yX10_islander.cls yX10_islander := ⟨zt_a2 179 rfl rfl, zt_a2 180 rfl rfl, zt_a2 181 rfl rfl⟩
theorem ms_RX10_77 : zMS RX10 77 yX10_within := ⟨zt_a2 184 rfl rfl, Or.inl (zt_a2 183 rfl rfl)⟩
theorem mv_RX10_84 : zMV RX10 84 yX1_comes.cls yX1_comes := ⟨zt_a2 186 rfl rfl, zt_a2 187 rfl rfl, zt_a2 188 rfl rfl⟩
theorem mv_RL_23 : zMV RL 23 yX10_set.cls yX10_set := ⟨zt_a2 190 rfl rfl, zt_a2 191 rfl rfl, zt_a2 192 rfl rfl⟩
theorem mv_RX10_88 : zMV RX10 88 yX10_canBeSet.cls yX10_canBeSet := ⟨zt_a2 194 rfl rfl, zt_a2 196 rfl rfl, zt_sel (n := 11) 1 (by decide +kernel)⟩
theorem mv_RX10_106 : zMV RX10 106 yX1_knows.cls yX1_knows := ⟨zt_a2 198 rfl rfl, zt_a2 199 rfl rfl, zt_a2 200 rfl rfl⟩
theorem mv_RL_28 : zMV RL 28 yX10_act.cls yX10_act := ⟨zt_a2 202 rfl rfl, zt_a2 203 rfl rfl, zt_a2 204 rfl rfl⟩
theorem mv_RX10_110 : zMV RX10 110 yX10_canAct.cls yX10_canAct := ⟨zt_a2 206 rfl rfl, zt_a2 208 rfl rfl, zt_sel (n := 11) 2 (by decide +kernel)⟩
theorem mv_RX10_204 : zMV RX10 204 yX1_isHere.cls yX1_isHere := ⟨zt_a2 210 rfl rfl, zt_a2 211 rfl rfl, zt_a2 212 rfl rfl⟩
theorem mv_RX10_207 : zMV RX10 207 yX1_isBegged.cls yX1_isBegged := ⟨zt_a2 214 rfl rfl, zt_a2 215 rfl rfl, zt_a2 216 rfl rfl⟩
theorem mv_RX10_114 : zMV RX10 114 yX10_remember.cls yX10_remember := ⟨zt_a2 218 rfl rfl, zt_a2 220 rfl rfl, zt_sel (n := 11) 3 (by decide +kernel)⟩
theorem mv_RX10_332 : zMV RX10 332 yX1_copyFrom.cls yX1_copyFrom := ⟨zt_a2 222 rfl rfl, zt_a2 223 rfl rfl, zt_a2 224 rfl rfl⟩
theorem mv_RX10_117 : zMV RX10 117 yX9_goAboard.cls yX9_goAboard := ⟨zt_a2 229 rfl rfl, zt_a2 230 rfl rfl, zt_a2 231 rfl rfl⟩
theorem mv_RX9_145 : zMV RX9 145 yX9_tells.cls yX9_tells := ⟨zt_a2 233 rfl rfl, zt_a2 234 rfl rfl, zt_a2 235 rfl rfl⟩
theorem mv_RX9_192 : zMV RX9 192 yX3_run.cls yX3_run := ⟨zt_a2 237 rfl rfl, zt_a2 238 rfl rfl, zt_a2 239 rfl rfl⟩
theorem mv_RX3_45 : zMV RX3 45 yX9_valueOf.cls yX9_valueOf := ⟨zt_a3 1 rfl rfl, zt_a3 2 rfl rfl, zt_a3 3 rfl rfl⟩
theorem ms_RX9_208 : zMS RX9 208 yJ6_bitCount_0f7a4 := ⟨zt_a3 6 rfl rfl, Or.inl (zt_a3 5 rfl rfl)⟩
theorem ms_RX9_166 : zMS RX9 166 yJ9_min_7cf53 := ⟨zt_a3 12 rfl rfl, Or.inl (zt_a3 11 rfl rfl)⟩
theorem ms_RX9_171 : zMS RX9 171 yJ9_max_7cf53 := ⟨zt_a3 15 rfl rfl, Or.inl (zt_a3 14 rfl rfl)⟩
theorem mv_RX9_124 : zMV RX9 124 yX1_isHere.cls yX1_isHere := ⟨zt_a3 17 rfl rfl, zt_a2 211 rfl rfl, zt_a2 212 rfl rfl⟩
theorem ms_RX3_51 : zMS RX3 51 yX3_joined := ⟨zt_a3 19 rfl rfl, Or.inl (zt_a3 18 rfl rfl)⟩
theorem ms_RX9_199 : zMS RX9 199 yX9_held := ⟨zt_a3 22 rfl rfl, Or.inl (zt_a3 21 rfl rfl)⟩
theorem mv_RX9_162 : zMV RX9 162 yX0_write.cls yX0_write := ⟨zt_a3 24 rfl rfl, zt_a3 25 rfl rfl, zt_a3 26 rfl rfl⟩
theorem mv_RX10_121 : zMV RX10 121 yX9_comeBack.cls yX9_comeBack := ⟨zt_a3 28 rfl rfl, zt_a3 29 rfl rfl, zt_a3 30 rfl rfl⟩
theorem mv_RL_33 : zMV RL 33 yX10_days.cls yX10_days := ⟨zt_a3 32 rfl rfl, zt_a3 33 rfl rfl, zt_a3 34 rfl rfl⟩
theorem mv_RX10_133 : zMV RX10 133 yX9_passDay.cls yX9_passDay := ⟨zt_a3 36 rfl rfl, zt_a3 37 rfl rfl, zt_a3 38 rfl rfl⟩
theorem mv_RX9_91 : zMV RX9 91 yX9_happen.cls yX9_happen := ⟨zt_a3 40 rfl rfl, zt_a3 42 rfl rfl, zt_sel (n := 7) 4 (by decide +kernel)⟩
theorem mv_RX9_117 : zMV RX9 117 yX1_moveHands.cls yX1_moveHands := ⟨zt_a3 44 rfl rfl, zt_a3 45 rfl rfl, zt_a3 46 rfl rfl⟩
theorem ms_RX1_63 : zMS RX1 63 yJ9_floorDiv_7cf53 := ⟨zt_a3 49 rfl rfl, Or.inl (zt_a3 48 rfl rfl)⟩
theorem ms_RX1_69 : zMS RX1 69 yJ9_floorMod_7cf53 := ⟨zt_a3 52 rfl rfl, Or.inl (zt_a3 51 rfl rfl)⟩
theorem mv_RX9_95 : zMV RX9 95 yX9_sailOut.cls yX9_sailOut := ⟨zt_a3 54 rfl rfl, zt_a3 56 rfl rfl, zt_sel (n := 7) 5 (by decide +kernel)⟩
theorem mv_RX9_128 : zMV RX9 128 yX1_isBegged.cls yX1_isBegged := ⟨zt_a3 58 rfl rfl, zt_a2 215 rfl rfl, zt_a2 216 rfl rfl⟩
theorem mv_RX9_131 : zMV RX9 131 yX9_isWilling.cls yX9_isWilling := ⟨zt_a3 59 rfl rfl, zt_a3 61 rfl rfl, zt_sel (n := 7) 6 (by decide +kernel)⟩
theorem mv_RX9_149 : zMV RX9 149 yX1_drawOfThousand.cls yX1_drawOfThousand := ⟨zt_a3 63 rfl rfl, zt_a3 64 rfl rfl, zt_a3 65 rfl rfl⟩
theorem mv_RX9_135 : zMV RX9 135 yX9_goAboard.cls yX9_goAboard := ⟨zt_a3 69 rfl rfl, zt_a2 230 rfl rfl, zt_a2 231 rfl rfl⟩
theorem mv_RX9_138 : zMV RX9 138 yX2_areKin.cls yX2_areKin := ⟨zt_a3 70 rfl rfl, zt_a3 71 rfl rfl, zt_a3 72 rfl rfl⟩
theorem mv_RX9_99 : zMV RX9 99 yX9_sailBack.cls yX9_sailBack := ⟨zt_a3 74 rfl rfl, zt_a3 76 rfl rfl, zt_sel (n := 7) 7 (by decide +kernel)⟩
theorem mv_RX9_142 : zMV RX9 142 yX9_comeBack.cls yX9_comeBack := ⟨zt_a3 78 rfl rfl, zt_a3 29 rfl rfl, zt_a3 30 rfl rfl⟩
theorem mv_RX9_102 : zMV RX9 102 yX9_runClock.cls yX9_runClock := ⟨zt_a3 79 rfl rfl, zt_a3 81 rfl rfl, zt_sel (n := 7) 8 (by decide +kernel)⟩
theorem ms_RX9_174 : zMS RX9 174 yX8_strokesOver := ⟨zt_a3 84 rfl rfl, Or.inl (zt_a3 83 rfl rfl)⟩
theorem mv_RL_37 : zMV RL 37 yX10_feed.cls yX10_feed := ⟨zt_a3 86 rfl rfl, zt_a3 87 rfl rfl, zt_a3 88 rfl rfl⟩
theorem mv_RX10_140 : zMV RX10 140 yX6_putFour.cls yX6_putFour := ⟨zt_a3 90 rfl rfl, zt_a3 91 rfl rfl, zt_a3 92 rfl rfl⟩
theorem mv_RL_42 : zMV RL 42 yX10_end.cls yX10_end := ⟨zt_a3 94 rfl rfl, zt_a3 95 rfl rfl, zt_a3 96 rfl rfl⟩
theorem mv_RL_47 : zMV RL 47 yX10_text.cls yX10_text := ⟨zt_a3 98 rfl rfl, zt_a3 99 rfl rfl, zt_a3 100 rfl rfl⟩
theorem mv_RX10_143 : zMV RX10 143 yX6_rewind.cls yX6_rewind := ⟨zt_a3 102 rfl rfl, zt_a3 103 rfl rfl, zt_a3 104 rfl rfl⟩
theorem mv_RX10_150 : zMV RX10 150 yX7_readLaw.cls yX7_readLaw := ⟨zt_a3 106 rfl rfl, zt_a3 107 rfl rfl, zt_a3 108 rfl rfl⟩
theorem mv_RX7_19 : zMV RX7 19 yX6_cut.cls yX6_cut := ⟨zt_a3 111 rfl rfl, zt_a3 112 rfl rfl, zt_a3 113 rfl rfl⟩
theorem ms_RX6_43 : zMS RX6 43 yX6_isLetter := ⟨zt_a3 116 rfl rfl, Or.inl (zt_a3 115 rfl rfl)⟩
theorem mv_RX6_47 : zMV RX6 47 yX6_wordAt.cls yX6_wordAt := ⟨zt_a3 118 rfl rfl, zt_a3 120 rfl rfl, zt_sel (n := 10) 9 (by decide +kernel)⟩
theorem mv_RX6_70 : zMV RX6 70 yJ0_length_8abf5.cls yJ0_length_8abf5 := ⟨zt_a3 122 rfl rfl, zt_a3 123 rfl rfl, zt_a3 124 rfl rfl⟩
theorem mv_RJ0_335 : zMV RJ0 335 yJ0_coder_7d493.cls yJ0_coder_7d493 := ⟨zt_a3 126 rfl rfl, zt_a3 127 rfl rfl, zt_a3 128 rfl rfl⟩
theorem mv_RX6_73 : zMV RX6 73 yJ0_charAt_5068e.cls yJ0_charAt_5068e := ⟨zt_a3 132 rfl rfl, zt_a3 133 rfl rfl, zt_a3 134 rfl rfl⟩
theorem mv_RJ0_492 : zMV RJ0 492 yJ0_isLatin1_aae02.cls yJ0_isLatin1_aae02 := ⟨zt_a3 136 rfl rfl, zt_a3 137 rfl rfl, zt_a3 138 rfl rfl⟩
theorem ms_RJ0_495 : zMS RJ0 495 yJ1_charAt_3b067 := ⟨zt_a3 141 rfl rfl, Or.inl (zt_a3 140 rfl rfl)⟩
theorem ms_RJ1_9 : zMS RJ1 9 yJ0_checkIndex_df160 := ⟨zt_a3 144 rfl rfl, Or.inl (zt_a3 143 rfl rfl)⟩
theorem ms_RJ0_1059 : zMS RJ0 1059 yJ3_checkIndex_8e157 := ⟨zt_a3 149 rfl rfl, Or.inl (zt_a3 148 rfl rfl)⟩
theorem ms_RJ0_498 : zMS RJ0 498 yJ2_charAt_3b067 := ⟨zt_a3 152 rfl rfl, Or.inl (zt_a3 151 rfl rfl)⟩
theorem ms_RJ2_67 : zMS RJ2 67 yJ2_checkIndex_2214a := ⟨zt_a3 155 rfl rfl, Or.inl (zt_a3 154 rfl rfl)⟩
theorem ms_RJ2_48 : zMS RJ2 48 yJ2_length_9d52b := ⟨zt_a3 158 rfl rfl, Or.inl (zt_a3 157 rfl rfl)⟩
theorem ms_RJ2_414 : zMS RJ2 414 yJ0_checkIndex_df160 := ⟨zt_a3 144 rfl rfl, Or.inl (zt_a3 160 rfl rfl)⟩
theorem ms_RJ2_71 : zMS RJ2 71 yJ2_getChar_3b067 := ⟨zt_a3 162 rfl rfl, Or.inl (zt_a3 161 rfl rfl)⟩
theorem mv_RX6_77 : zMV RX6 77 yX6_isSame.cls yX6_isSame := ⟨zt_a3 170 rfl rfl, zt_a3 172 rfl rfl, zt_sel (n := 10) 10 (by decide +kernel)⟩
theorem mv_RX6_51 : zMV RX6 51 yX6_putToken.cls yX6_putToken := ⟨zt_a3 174 rfl rfl, zt_a3 176 rfl rfl, zt_sel (n := 10) 11 (by decide +kernel)⟩
theorem ms_RX6_55 : zMS RX6 55 yX6_isDigit := ⟨zt_a3 179 rfl rfl, Or.inl (zt_a3 178 rfl rfl)⟩
theorem mv_RX6_58 : zMV RX6 58 yX6_numberAt.cls yX6_numberAt := ⟨zt_a3 181 rfl rfl, zt_a3 183 rfl rfl, zt_sel (n := 10) 12 (by decide +kernel)⟩
theorem mv_RX6_64 : zMV RX6 64 yJ0_indexOf_0f7a4.cls yJ0_indexOf_0f7a4 := ⟨zt_a3 186 rfl rfl, zt_a3 187 rfl rfl, zt_a3 188 rfl rfl⟩
theorem mv_RJ0_633 : zMV RJ0 633 yJ0_indexOf_7cf53.cls yJ0_indexOf_7cf53 := ⟨zt_a3 190 rfl rfl, zt_a3 191 rfl rfl, zt_a3 192 rfl rfl⟩
theorem mv_RJ0_505 : zMV RJ0 505 yJ0_length_8abf5.cls yJ0_length_8abf5 := ⟨zt_a3 194 rfl rfl, zt_a3 123 rfl rfl, zt_a3 124 rfl rfl⟩
theorem ms_RJ0_637 : zMS RJ0 637 yJ1_indexOf_4cfef := ⟨zt_a3 196 rfl rfl, Or.inl (zt_a3 195 rfl rfl)⟩
theorem ms_RJ1_88 : zMS RJ1 88 yJ1_canEncode_9a6ad := ⟨zt_a3 199 rfl rfl, Or.inl (zt_a3 198 rfl rfl)⟩
theorem ms_RJ1_92 : zMS RJ1 92 yJ9_max_7cf53 := ⟨zt_a3 15 rfl rfl, Or.inl (zt_a3 201 rfl rfl)⟩
theorem ms_RJ1_38 : zMS RJ1 38 yJ9_min_7cf53 := ⟨zt_a3 12 rfl rfl, Or.inl (zt_a3 202 rfl rfl)⟩
theorem ms_RJ1_95 : zMS RJ1 95 yJ1_indexOfChar_4cfef := ⟨zt_a3 204 rfl rfl, Or.inl (zt_a3 203 rfl rfl)⟩
theorem ms_RJ0_640 : zMS RJ0 640 yJ2_indexOf_4cfef := ⟨zt_a3 207 rfl rfl, Or.inl (zt_a3 206 rfl rfl)⟩
theorem ms_RJ2_224 : zMS RJ2 224 yJ9_max_7cf53 := ⟨zt_a3 15 rfl rfl, Or.inl (zt_a3 209 rfl rfl)⟩
theorem ms_RJ2_183 : zMS RJ2 183 yJ9_min_7cf53 := ⟨zt_a3 12 rfl rfl, Or.inl (zt_a3 210 rfl rfl)⟩
theorem ms_RJ2_228 : zMS RJ2 228 yJ2_indexOfChar_4cfef := ⟨zt_a3 213 rfl rfl, Or.inl (zt_a3 212 rfl rfl)⟩
theorem ms_RJ2_96 : zMS RJ2 96 yJ2_checkBoundsBeginEnd_d044e := ⟨zt_a3 216 rfl rfl, Or.inl (zt_a3 215 rfl rfl)⟩
theorem ms_RJ2_241 : zMS RJ2 241 yJ0_checkBoundsBeginEnd_23922 := ⟨zt_a3 219 rfl rfl, Or.inl (zt_a3 218 rfl rfl)⟩
theorem ms_RJ0_1062 : zMS RJ0 1062 yJ3_checkFromToIndex_8c36e := ⟨zt_a3 222 rfl rfl, Or.inl (zt_a3 221 rfl rfl)⟩
theorem ms_RJ2_244 : zMS RJ2 244 yJ2_indexOfCharUnsafe_4cfef := ⟨zt_a3 225 rfl rfl, Or.inl (zt_a3 224 rfl rfl)⟩
theorem ms_RJ2_232 : zMS RJ2 232 yJ2_indexOfSupplementary_4cfef := ⟨zt_a3 228 rfl rfl, Or.inl (zt_a3 227 rfl rfl)⟩
theorem ms_RJ2_164 : zMS RJ2 164 yJ11_isValidCodePoint_9a6ad := ⟨zt_a3 231 rfl rfl, Or.inl (zt_a3 230 rfl rfl)⟩
theorem ms_RJ2_157 : zMS RJ2 157 yJ11_highSurrogate_5068e := ⟨zt_a3 234 rfl rfl, Or.inl (zt_a3 233 rfl rfl)⟩
theorem ms_RJ2_161 : zMS RJ2 161 yJ11_lowSurrogate_5068e := ⟨zt_a3 238 rfl rfl, Or.inl (zt_a3 237 rfl rfl)⟩
theorem mv_RX7_35 : zMV RX7 35 yX6_opensLine.cls yX6_opensLine := ⟨zt_a4 1 rfl rfl, zt_a4 2 rfl rfl, zt_a4 3 rfl rfl⟩
theorem mv_RX6_95 : zMV RX6 95 yX6_isWord.cls yX6_isWord := ⟨zt_a4 5 rfl rfl, zt_a4 6 rfl rfl, zt_a4 7 rfl rfl⟩
theorem mv_RX6_81 : zMV RX6 81 yX6_refuse.cls yX6_refuse := ⟨zt_a4 9 rfl rfl, zt_a4 10 rfl rfl, zt_a4 11 rfl rfl⟩
theorem mv_RX7_39 : zMV RX7 39 yX7_readLawLine.cls yX7_readLawLine := ⟨zt_a4 13 rfl rfl, zt_a4 15 rfl rfl, zt_sel (n := 1) 13 (by decide +kernel)⟩
theorem mv_RX7_47 : zMV RX7 47 yX6_pass.cls yX6_pass := ⟨zt_a4 17 rfl rfl, zt_a4 18 rfl rfl, zt_a4 19 rfl rfl⟩
theorem mv_RX7_53 : zMV RX7 53 yX7_readSum.cls yX7_readSum := ⟨zt_a4 21 rfl rfl, zt_a4 23 rfl rfl, zt_sel (n := 1) 14 (by decide +kernel)⟩
theorem mv_RX7_84 : zMV RX7 84 yX7_readOperand.cls yX7_readOperand := ⟨zt_a4 25 rfl rfl, zt_a4 27 rfl rfl, zt_sel (n := 1) 15 (by decide +kernel)⟩
theorem mv_RX7_88 : zMV RX7 88 yX6_isNumber.cls yX6_isNumber := ⟨zt_a4 29 rfl rfl, zt_a4 30 rfl rfl, zt_a4 31 rfl rfl⟩
theorem mv_RX7_81 : zMV RX7 81 yX6_refuse.cls yX6_refuse := ⟨zt_a4 33 rfl rfl, zt_a4 10 rfl rfl, zt_a4 11 rfl rfl⟩
theorem mv_RX7_77 : zMV RX7 77 yX3_put.cls yX3_put := ⟨zt_a4 34 rfl rfl, zt_a4 35 rfl rfl, zt_a4 36 rfl rfl⟩
theorem mv_RX7_60 : zMV RX7 60 yX6_isWord.cls yX6_isWord := ⟨zt_a4 38 rfl rfl, zt_a4 6 rfl rfl, zt_a4 7 rfl rfl⟩
theorem mv_RX7_64 : zMV RX7 64 yX7_readChoice.cls yX7_readChoice := ⟨zt_a4 39 rfl rfl, zt_a4 41 rfl rfl, zt_sel (n := 1) 16 (by decide +kernel)⟩
theorem mv_RX7_74 : zMV RX7 74 yX7_readSingle.cls yX7_readSingle := ⟨zt_a4 43 rfl rfl, zt_a4 45 rfl rfl, zt_sel (n := 1) 17 (by decide +kernel)⟩
theorem mv_RX7_70 : zMV RX7 70 yX6_takes.cls yX6_takes := ⟨zt_a4 47 rfl rfl, zt_a4 48 rfl rfl, zt_a4 49 rfl rfl⟩
theorem mv_RX6_84 : zMV RX6 84 yX6_pass.cls yX6_pass := ⟨zt_a4 51 rfl rfl, zt_a4 18 rfl rfl, zt_a4 19 rfl rfl⟩
theorem mv_RX10_154 : zMV RX10 154 yX3_copyFrom.cls yX3_copyFrom := ⟨zt_a4 52 rfl rfl, zt_a4 53 rfl rfl, zt_a4 54 rfl rfl⟩
theorem mv_RX10_167 : zMV RX10 167 yX7_readBoats.cls yX7_readBoats := ⟨zt_a4 57 rfl rfl, zt_a4 58 rfl rfl, zt_a4 59 rfl rfl⟩
theorem mv_RX7_97 : zMV RX7 97 yX7_readBoat.cls yX7_readBoat := ⟨zt_a4 62 rfl rfl, zt_a4 64 rfl rfl, zt_sel (n := 1) 18 (by decide +kernel)⟩
theorem mv_RX7_101 : zMV RX7 101 yX7_readDay.cls yX7_readDay := ⟨zt_a4 66 rfl rfl, zt_a4 68 rfl rfl, zt_sel (n := 1) 19 (by decide +kernel)⟩
theorem mv_RX7_104 : zMV RX7 104 yX6_takesNumber.cls yX6_takesNumber := ⟨zt_a4 70 rfl rfl, zt_a4 71 rfl rfl, zt_a4 72 rfl rfl⟩
theorem mv_RX6_87 : zMV RX6 87 yX6_isNumber.cls yX6_isNumber := ⟨zt_a4 74 rfl rfl, zt_a4 30 rfl rfl, zt_a4 31 rfl rfl⟩
theorem mv_RX10_171 : zMV RX10 171 yX4_copyFrom.cls yX4_copyFrom := ⟨zt_a4 76 rfl rfl, zt_a4 77 rfl rfl, zt_a4 78 rfl rfl⟩
theorem mv_RX10_180 : zMV RX10 180 yX7_readTown.cls yX7_readTown := ⟨zt_a4 81 rfl rfl, zt_a4 82 rfl rfl, zt_a4 83 rfl rfl⟩
theorem mv_RX7_121 : zMV RX7 121 yX7_readDoing.cls yX7_readDoing := ⟨zt_a4 86 rfl rfl, zt_a4 88 rfl rfl, zt_sel (n := 1) 20 (by decide +kernel)⟩
theorem mv_RX7_125 : zMV RX7 125 yX7_readAmount.cls yX7_readAmount := ⟨zt_a4 90 rfl rfl, zt_a4 92 rfl rfl, zt_sel (n := 1) 21 (by decide +kernel)⟩
theorem mv_RX10_188 : zMV RX10 188 yX7_readKin.cls yX7_readKin := ⟨zt_a4 94 rfl rfl, zt_a4 95 rfl rfl, zt_a4 96 rfl rfl⟩
theorem mv_RX7_132 : zMV RX7 132 yX2_clear.cls yX2_clear := ⟨zt_a4 99 rfl rfl, zt_a4 100 rfl rfl, zt_a4 101 rfl rfl⟩
theorem ms_RX2_25 : zMS RX2 25 yJ7_fill_53178 := ⟨zt_a4 104 rfl rfl, Or.inl (zt_a4 103 rfl rfl)⟩
theorem mv_RX7_135 : zMV RX7 135 yX7_readKinLine.cls yX7_readKinLine := ⟨zt_a4 106 rfl rfl, zt_a4 108 rfl rfl, zt_sel (n := 1) 22 (by decide +kernel)⟩
theorem mv_RX7_140 : zMV RX7 140 yX2_join.cls yX2_join := ⟨zt_a4 110 rfl rfl, zt_a4 111 rfl rfl, zt_a4 112 rfl rfl⟩
theorem mv_RX10_192 : zMV RX10 192 yX2_copyFrom.cls yX2_copyFrom := ⟨zt_a4 115 rfl rfl, zt_a4 116 rfl rfl, zt_a4 117 rfl rfl⟩
theorem mv_RL_51 : zMV RL 51 yX10_fault.cls yX10_fault := ⟨zt_a4 121 rfl rfl, zt_a4 122 rfl rfl, zt_a4 123 rfl rfl⟩
theorem mv_RL_55 : zMV RL 55 yX10_of.cls yX10_of := ⟨zt_a4 125 rfl rfl, zt_a4 126 rfl rfl, zt_a4 127 rfl rfl⟩
theorem mv_RX10_213 : zMV RX10 213 yX9_tells.cls yX9_tells := ⟨zt_a4 129 rfl rfl, zt_a2 234 rfl rfl, zt_a2 235 rfl rfl⟩
theorem mv_RL_59 : zMV RL 59 yX10_book.cls yX10_book := ⟨zt_a4 130 rfl rfl, zt_a4 131 rfl rfl, zt_a4 132 rfl rfl⟩
theorem mv_RL_63 : zMV RL 63 yX10_goes.cls yX10_goes := ⟨zt_a4 134 rfl rfl, zt_a4 135 rfl rfl, zt_a4 136 rfl rfl⟩
theorem mv_RX10_237 : zMV RX10 237 yX9_copyFrom.cls yX9_copyFrom := ⟨zt_a4 138 rfl rfl, zt_a4 139 rfl rfl, zt_a4 140 rfl rfl⟩
theorem mv_RX9_56 : zMV RX9 56 yX1_copyFrom.cls yX1_copyFrom := ⟨zt_a4 142 rfl rfl, zt_a2 223 rfl rfl, zt_a2 224 rfl rfl⟩
theorem mv_RX9_60 : zMV RX9 60 yX3_copyFrom.cls yX3_copyFrom := ⟨zt_a4 143 rfl rfl, zt_a4 53 rfl rfl, zt_a4 54 rfl rfl⟩
theorem mv_RX9_63 : zMV RX9 63 yX4_copyFrom.cls yX4_copyFrom := ⟨zt_a4 144 rfl rfl, zt_a4 77 rfl rfl, zt_a4 78 rfl rfl⟩
theorem mv_RX9_66 : zMV RX9 66 yX2_copyFrom.cls yX2_copyFrom := ⟨zt_a4 145 rfl rfl, zt_a4 116 rfl rfl, zt_a4 117 rfl rfl⟩
theorem mv_RX9_69 : zMV RX9 69 yX0_copyFrom.cls yX0_copyFrom := ⟨zt_a4 146 rfl rfl, zt_a4 147 rfl rfl, zt_a4 148 rfl rfl⟩
theorem mv_RX9_72 : zMV RX9 72 yX5_copyFrom.cls yX5_copyFrom := ⟨zt_a4 151 rfl rfl, zt_a4 152 rfl rfl, zt_a4 153 rfl rfl⟩
theorem ms_RX10_243 : zMS RX10 243 yJ6_bitCount_0f7a4 := ⟨zt_a3 6 rfl rfl, Or.inl (zt_a4 156 rfl rfl)⟩
theorem mv_RL_67 : zMV RL 67 yX10_lonely.cls yX10_lonely := ⟨zt_a4 157 rfl rfl, zt_a4 158 rfl rfl, zt_a4 159 rfl rfl⟩
theorem mv_RL_72 : zMV RL 72 yX10_must.cls yX10_must := ⟨zt_a4 161 rfl rfl, zt_a4 162 rfl rfl, zt_a4 163 rfl rfl⟩
theorem mv_RX10_249 : zMV RX10 249 yX10_fewestWinding.cls yX10_fewestWinding := ⟨zt_a4 165 rfl rfl, zt_a4 167 rfl rfl, zt_sel (n := 11) 23 (by decide +kernel)⟩
theorem ms_RX10_342 : zMS RX10 342 yJ7_fill_fda19 := ⟨zt_a4 171 rfl rfl, Or.inl (zt_a4 170 rfl rfl)⟩
theorem ms_RJ7_13 : zMS RJ7 13 yJ7_rangeCheck_23922 := ⟨zt_a4 174 rfl rfl, Or.inl (zt_a4 173 rfl rfl)⟩
theorem ms_RX10_348 : zMS RX10 348 yJ9_min_7cf53 := ⟨zt_a3 12 rfl rfl, Or.inl (zt_a4 176 rfl rfl)⟩
theorem mv_RX10_354 : zMV RX10 354 yX10_addToSums.cls yX10_addToSums := ⟨zt_a4 178 rfl rfl, zt_a4 180 rfl rfl, zt_sel (n := 11) 24 (by decide +kernel)⟩
theorem mv_RL_76 : zMV RL 76 yX10_strokes.cls yX10_strokes := ⟨zt_a4 183 rfl rfl, zt_a4 184 rfl rfl, zt_a4 185 rfl rfl⟩
theorem ms_RX10_254 : zMS RX10 254 yX8_strokesOver := ⟨zt_a3 84 rfl rfl, Or.inl (zt_a4 187 rfl rfl)⟩
theorem mv_RL_80 : zMV RL 80 yX10_hands.cls yX10_hands := ⟨zt_a4 188 rfl rfl, zt_a4 189 rfl rfl, zt_a4 190 rfl rfl⟩
theorem ms_RX10_257 : zMS RX10 257 yX8_handsApart := ⟨zt_a4 193 rfl rfl, Or.inl (zt_a4 192 rfl rfl)⟩
theorem ms_RX8_27 : zMS RX8 27 yJ9_min_7cf53 := ⟨zt_a3 12 rfl rfl, Or.inl (zt_a4 195 rfl rfl)⟩
theorem ms_RX10_260 : zMS RX10 260 yX8_minutesApartBy := ⟨zt_a4 197 rfl rfl, Or.inl (zt_a4 196 rfl rfl)⟩
theorem ms_RX8_33 : zMS RX8 33 yX8_handsApart := ⟨zt_a4 193 rfl rfl, Or.inl (zt_a4 199 rfl rfl)⟩
theorem mv_RL_84 : zMV RL 84 yX10_wheel.cls yX10_wheel := ⟨zt_a4 200 rfl rfl, zt_a4 201 rfl rfl, zt_a4 202 rfl rfl⟩
theorem mv_RX10_267 : zMV RX10 267 yX5_tellWheel.cls yX5_tellWheel := ⟨zt_a4 204 rfl rfl, zt_a4 205 rfl rfl, zt_a4 206 rfl rfl⟩
theorem mv_RL_89 : zMV RL 89 yX10_wheels.cls yX10_wheels := ⟨zt_a4 209 rfl rfl, zt_a4 210 rfl rfl, zt_a4 211 rfl rfl⟩
theorem mv_RX10_273 : zMV RX10 273 yX5_turnOf.cls yX5_turnOf := ⟨zt_a4 213 rfl rfl, zt_a4 214 rfl rfl, zt_a4 215 rfl rfl⟩
theorem ms_RX5_54 : zMS RX5 54 yJ9_abs_0f7a4 := ⟨zt_a4 218 rfl rfl, Or.inl (zt_a4 217 rfl rfl)⟩
theorem ms_RX5_60 : zMS RX5 60 yX8_commonPart := ⟨zt_a4 221 rfl rfl, Or.inl (zt_a4 220 rfl rfl)⟩
theorem ms_RX8_37 : zMS RX8 37 yJ9_max_7cf53 := ⟨zt_a3 15 rfl rfl, Or.inl (zt_a4 223 rfl rfl)⟩
theorem mv_RL_93 : zMV RL 93 yX10_couple.cls yX10_couple := ⟨zt_a4 225 rfl rfl, zt_a4 226 rfl rfl, zt_a4 227 rfl rfl⟩
theorem mv_RX10_277 : zMV RX10 277 yX5_tellCouple.cls yX5_tellCouple := ⟨zt_a4 229 rfl rfl, zt_a4 230 rfl rfl, zt_a4 231 rfl rfl⟩
theorem mv_RL_97 : zMV RL 97 yX10_ferry.cls yX10_ferry := ⟨zt_a4 233 rfl rfl, zt_a4 234 rfl rfl, zt_a4 235 rfl rfl⟩
theorem mv_RX10_280 : zMV RX10 280 yX8_fewestCrossings.cls yX8_fewestCrossings := ⟨zt_a4 237 rfl rfl, zt_a4 238 rfl rfl, zt_a4 239 rfl rfl⟩
theorem ms_RX8_40 : zMS RX8 40 yJ7_fill_53178 := ⟨zt_a4 104 rfl rfl, Or.inl (zt_a5 1 rfl rfl)⟩
theorem ms_RX8_46 : zMS RX8 46 yJ6_bitCount_0f7a4 := ⟨zt_a3 6 rfl rfl, Or.inl (zt_a5 2 rfl rfl)⟩
theorem mv_RX8_51 : zMV RX8 51 yX5_isSafe.cls yX5_isSafe := ⟨zt_a5 3 rfl rfl, zt_a5 4 rfl rfl, zt_a5 5 rfl rfl⟩
theorem mv_RL_101 : zMV RL 101 yX10_glasses.cls yX10_glasses := ⟨zt_a5 7 rfl rfl, zt_a5 8 rfl rfl, zt_a5 9 rfl rfl⟩
theorem mv_RX10_284 : zMV RX10 284 yX8_fewestTurnings.cls yX8_fewestTurnings := ⟨zt_a5 11 rfl rfl, zt_a5 12 rfl rfl, zt_a5 13 rfl rfl⟩
theorem mv_RX8_58 : zMV RX8 58 yX8_turnInto.cls yX8_turnInto := ⟨zt_a5 16 rfl rfl, zt_a5 18 rfl rfl, zt_sel (n := 5) 25 (by decide +kernel)⟩
theorem mv_RL_106 : zMV RL 106 yX10_seat.cls yX10_seat := ⟨zt_a5 20 rfl rfl, zt_a5 21 rfl rfl, zt_a5 22 rfl rfl⟩
theorem mv_RX10_288 : zMV RX10 288 yX5_tellSeat.cls yX5_tellSeat := ⟨zt_a5 24 rfl rfl, zt_a5 25 rfl rfl, zt_a5 26 rfl rfl⟩
theorem mv_RL_110 : zMV RL 110 yX10_level.cls yX10_level := ⟨zt_a5 28 rfl rfl, zt_a5 29 rfl rfl, zt_a5 30 rfl rfl⟩
theorem ms_RX8_69 : zMS RX8 69 yX8_waysToSit := ⟨zt_a5 33 rfl rfl, Or.inl (zt_a5 35 rfl rfl)⟩
theorem mv_RL_114 : zMV RL 114 yX10_part.cls yX10_part := ⟨zt_a5 36 rfl rfl, zt_a5 37 rfl rfl, zt_a5 38 rfl rfl⟩
theorem ms_RX10_295 : zMS RX10 295 yX8_quotients := ⟨zt_a5 41 rfl rfl, Or.inl (zt_a5 40 rfl rfl)⟩
theorem ms_RX10_298 : zMS RX10 298 yX8_partOf := ⟨zt_a5 44 rfl rfl, Or.inl (zt_a5 43 rfl rfl)⟩
theorem mv_RL_118 : zMV RL 118 yX10_bells.cls yX10_bells := ⟨zt_a5 46 rfl rfl, zt_a5 47 rfl rfl, zt_a5 48 rfl rfl⟩
theorem mv_RX10_303 : zMV RX10 303 yX8_changesTillInOrder.cls yX8_changesTillInOrder := ⟨zt_a5 51 rfl rfl, zt_a5 52 rfl rfl, zt_a5 53 rfl rfl⟩
theorem mv_RX8_90 : zMV RX8 90 yX8_ringInOrder.cls yX8_ringInOrder := ⟨zt_a5 55 rfl rfl, zt_a5 57 rfl rfl, zt_sel (n := 5) 26 (by decide +kernel)⟩
theorem mv_RX8_94 : zMV RX8 94 yX8_change.cls yX8_change := ⟨zt_a5 59 rfl rfl, zt_a5 61 rfl rfl, zt_sel (n := 5) 27 (by decide +kernel)⟩
theorem mv_RX8_98 : zMV RX8 98 yX8_isInOrder.cls yX8_isInOrder := ⟨zt_a5 63 rfl rfl, zt_a5 65 rfl rfl, zt_sel (n := 5) 28 (by decide +kernel)⟩
theorem mv_RX10_306 : zMV RX10 306 yX8_bellAt.cls yX8_bellAt := ⟨zt_a5 67 rfl rfl, zt_a5 68 rfl rfl, zt_a5 69 rfl rfl⟩
theorem mv_RL_122 : zMV RL 122 yX10_against.cls yX10_against := ⟨zt_a5 71 rfl rfl, zt_a5 72 rfl rfl, zt_a5 73 rfl rfl⟩
theorem ms_RX10_309 : zMS RX10 309 yX8_opponent := ⟨zt_a5 76 rfl rfl, Or.inl (zt_a5 75 rfl rfl)⟩
theorem ms_RX8_101 : zMS RX8 101 yX8_meetsLast := ⟨zt_a5 79 rfl rfl, Or.inl (zt_a5 78 rfl rfl)⟩
theorem ms_RX8_104 : zMS RX8 104 yJ9_floorMod_7cf53 := ⟨zt_a3 52 rfl rfl, Or.inl (zt_a5 81 rfl rfl)⟩
theorem mv_RL_126 : zMV RL 126 yX10_calendar.cls yX10_calendar := ⟨zt_a5 82 rfl rfl, zt_a5 83 rfl rfl, zt_a5 84 rfl rfl⟩
theorem mv_RL_130 : zMV RL 130 yX10_rope.cls yX10_rope := ⟨zt_a5 86 rfl rfl, zt_a5 87 rfl rfl, zt_a5 88 rfl rfl⟩
theorem mv_RL_134 : zMV RL 134 yX10_meets.cls yX10_meets := ⟨zt_a5 90 rfl rfl, zt_a5 91 rfl rfl, zt_a5 92 rfl rfl⟩
theorem ms_RX10_312 : zMS RX10 312 yX8_firstMeeting := ⟨zt_a5 95 rfl rfl, Or.inl (zt_a5 94 rfl rfl)⟩
theorem mv_RL_139 : zMV RL 139 yX10_arm.cls yX10_arm := ⟨zt_a5 97 rfl rfl, zt_a5 98 rfl rfl, zt_a5 99 rfl rfl⟩
theorem mv_RX10_315 : zMV RX10 315 yX5_tellArm.cls yX5_tellArm := ⟨zt_a5 101 rfl rfl, zt_a5 102 rfl rfl, zt_a5 103 rfl rfl⟩
theorem mv_RL_143 : zMV RL 143 yX10_hung.cls yX10_hung := ⟨zt_a5 105 rfl rfl, zt_a5 106 rfl rfl, zt_a5 107 rfl rfl⟩
theorem ms_RX8_76 : zMS RX8 76 yJ9_abs_0f7a4 := ⟨zt_a4 218 rfl rfl, Or.inl (zt_a5 112 rfl rfl)⟩
theorem ms_RX8_86 : zMS RX8 86 yX8_leastLean := ⟨zt_a5 110 rfl rfl, Or.inl (zt_a5 114 rfl rfl)⟩
theorem mv_RL_147 : zMV RL 147 yX10_game.cls yX10_game := ⟨zt_a5 115 rfl rfl, zt_a5 116 rfl rfl, zt_a5 117 rfl rfl⟩
theorem mv_RX10_322 : zMV RX10 322 yX8_judgeHours.cls yX8_judgeHours := ⟨zt_a5 119 rfl rfl, zt_a5 120 rfl rfl, zt_a5 121 rfl rfl⟩
theorem mv_RX8_107 : zMV RX8 107 yX8_bestFrom.cls yX8_bestFrom := ⟨zt_a5 123 rfl rfl, zt_a5 125 rfl rfl, zt_sel (n := 5) 29 (by decide +kernel)⟩
theorem mv_RX8_111 : zMV RX8 111 yX8_worthOfStep.cls yX8_worthOfStep := ⟨zt_a5 127 rfl rfl, zt_a5 129 rfl rfl, zt_sel (n := 5) 30 (by decide +kernel)⟩
theorem mv_RX10_329 : zMV RX10 329 yX8_stepThatKeeps.cls yX8_stepThatKeeps := ⟨zt_a5 131 rfl rfl, zt_a5 132 rfl rfl, zt_a5 133 rfl rfl⟩
theorem mv_RL_151 : zMV RL 151 yX10_undo.cls yX10_undo := ⟨zt_a5 135 rfl rfl, zt_a5 136 rfl rfl, zt_a5 137 rfl rfl⟩
theorem mv_RL_156 : zMV RL 156 yX10_image.cls yX10_image := ⟨zt_a5 139 rfl rfl, zt_a5 140 rfl rfl, zt_a5 141 rfl rfl⟩
theorem mv_RL_161 : zMV RL 161 yX10_look.cls yX10_look := ⟨zt_a5 143 rfl rfl, zt_a5 144 rfl rfl, zt_a5 145 rfl rfl⟩
theorem mi_RL_12 : zMI RL 12 yX11_init := ⟨zt_a5 151 rfl rfl, rfl, Or.inl (zt_a5 150 rfl rfl)⟩
theorem mv_RL_155 : zMV RL 155 yX11_undo.cls yX11_undo := ⟨zt_a6 102 rfl rfl, zt_a6 103 rfl rfl, zt_a6 104 rfl rfl⟩
theorem mv_RL_17 : zMV RL 17 yX11_state.cls yX11_state := ⟨zt_a6 106 rfl rfl, zt_a6 107 rfl rfl, zt_a6 108 rfl rfl⟩
theorem mv_RL_22 : zMV RL 22 yX11_islander.cls yX11_islander := ⟨zt_a6 110 rfl rfl, zt_a6 111 rfl rfl, zt_a6 112 rfl rfl⟩
theorem mv_RX11_139 : zMV RX11 139 yX11_isIn.cls yX11_isIn := ⟨zt_a6 114 rfl rfl, zt_a6 116 rfl rfl, zt_sel (n := 62) 31 (by decide +kernel)⟩
theorem mv_RL_27 : zMV RL 27 yX11_set.cls yX11_set := ⟨zt_a6 118 rfl rfl, zt_a6 119 rfl rfl, zt_a6 120 rfl rfl⟩
theorem mv_RX11_146 : zMV RX11 146 yX11_canSet.cls yX11_canSet := ⟨zt_a6 122 rfl rfl, zt_a6 124 rfl rfl, zt_sel (n := 62) 32 (by decide +kernel)⟩
theorem mv_RX11_143 : zMV RX11 143 yX11_isIslander.cls yX11_isIslander := ⟨zt_a6 126 rfl rfl, zt_a6 128 rfl rfl, zt_sel (n := 62) 33 (by decide +kernel)⟩
theorem mv_RL_41 : zMV RL 41 yX11_feed.cls yX11_feed := ⟨zt_a6 130 rfl rfl, zt_a6 131 rfl rfl, zt_a6 132 rfl rfl⟩
theorem mv_RX11_152 : zMV RX11 152 yX11_types.cls yX11_types := ⟨zt_a6 134 rfl rfl, zt_a6 136 rfl rfl, zt_sel (n := 62) 34 (by decide +kernel)⟩
theorem mv_RL_46 : zMV RL 46 yX11_end.cls yX11_end := ⟨zt_a6 138 rfl rfl, zt_a6 139 rfl rfl, zt_a6 140 rfl rfl⟩
theorem mv_RL_50 : zMV RL 50 yX11_text.cls yX11_text := ⟨zt_a6 142 rfl rfl, zt_a6 143 rfl rfl, zt_a6 144 rfl rfl⟩
theorem mv_RX11_294 : zMV RX11 294 yX11_readsText.cls yX11_readsText := ⟨zt_a6 146 rfl rfl, zt_a6 148 rfl rfl, zt_sel (n := 62) 35 (by decide +kernel)⟩
theorem mv_RX11_204 : zMV RX11 204 yX11_reads.cls yX11_reads := ⟨zt_a6 150 rfl rfl, zt_a6 152 rfl rfl, zt_sel (n := 62) 36 (by decide +kernel)⟩
theorem mv_RX11_159 : zMV RX11 159 yX11_raw.cls yX11_raw := ⟨zt_a6 154 rfl rfl, zt_a6 156 rfl rfl, zt_sel (n := 62) 37 (by decide +kernel)⟩
theorem mv_RX11_172 : zMV RX11 172 yX11_isLetter.cls yX11_isLetter := ⟨zt_a6 158 rfl rfl, zt_a6 160 rfl rfl, zt_sel (n := 62) 38 (by decide +kernel)⟩
theorem mv_RX11_175 : zMV RX11 175 yX11_wordAt.cls yX11_wordAt := ⟨zt_a6 162 rfl rfl, zt_a6 164 rfl rfl, zt_sel (n := 62) 39 (by decide +kernel)⟩
theorem mv_RX11_179 : zMV RX11 179 yX11_isDigit.cls yX11_isDigit := ⟨zt_a6 166 rfl rfl, zt_a6 168 rfl rfl, zt_sel (n := 62) 40 (by decide +kernel)⟩
theorem mv_RX11_182 : zMV RX11 182 yX11_isMarkSign.cls yX11_isMarkSign := ⟨zt_a6 170 rfl rfl, zt_a6 172 rfl rfl, zt_sel (n := 62) 41 (by decide +kernel)⟩
theorem mv_RX11_270 : zMV RX11 270 yX11_readBoats.cls yX11_readBoats := ⟨zt_a6 174 rfl rfl, zt_a6 176 rfl rfl, zt_sel (n := 62) 42 (by decide +kernel)⟩
theorem mv_RX11_226 : zMV RX11 226 yX11_isWord.cls yX11_isWord := ⟨zt_a6 178 rfl rfl, zt_a6 180 rfl rfl, zt_sel (n := 62) 43 (by decide +kernel)⟩
theorem mv_RX11_197 : zMV RX11 197 yX11_errs.cls yX11_errs := ⟨zt_a6 182 rfl rfl, zt_a6 184 rfl rfl, zt_sel (n := 62) 44 (by decide +kernel)⟩
theorem mv_RX11_258 : zMV RX11 258 yX11_readBoat.cls yX11_readBoat := ⟨zt_a6 186 rfl rfl, zt_a6 188 rfl rfl, zt_sel (n := 62) 45 (by decide +kernel)⟩
theorem mv_RX11_251 : zMV RX11 251 yX11_readTold.cls yX11_readTold := ⟨zt_a6 190 rfl rfl, zt_a6 192 rfl rfl, zt_sel (n := 62) 46 (by decide +kernel)⟩
theorem mv_RX11_248 : zMV RX11 248 yX11_readNumber.cls yX11_readNumber := ⟨zt_a6 194 rfl rfl, zt_a6 196 rfl rfl, zt_sel (n := 62) 47 (by decide +kernel)⟩
theorem mv_RX11_255 : zMV RX11 255 yX11_readMark.cls yX11_readMark := ⟨zt_a6 198 rfl rfl, zt_a6 200 rfl rfl, zt_sel (n := 62) 48 (by decide +kernel)⟩
theorem mv_RX11_211 : zMV RX11 211 yX11_isSign.cls yX11_isSign := ⟨zt_a6 202 rfl rfl, zt_a6 204 rfl rfl, zt_sel (n := 62) 49 (by decide +kernel)⟩
theorem mv_RX11_273 : zMV RX11 273 yX11_readTown.cls yX11_readTown := ⟨zt_a6 206 rfl rfl, zt_a6 208 rfl rfl, zt_sel (n := 62) 50 (by decide +kernel)⟩
theorem mv_RX11_264 : zMV RX11 264 yX11_readDeed.cls yX11_readDeed := ⟨zt_a6 210 rfl rfl, zt_a6 212 rfl rfl, zt_sel (n := 62) 51 (by decide +kernel)⟩
theorem mv_RX11_261 : zMV RX11 261 yX11_kindOfDeed.cls yX11_kindOfDeed := ⟨zt_a6 214 rfl rfl, zt_a6 216 rfl rfl, zt_sel (n := 62) 52 (by decide +kernel)⟩
theorem mv_RX11_276 : zMV RX11 276 yX11_readAllKin.cls yX11_readAllKin := ⟨zt_a6 218 rfl rfl, zt_a6 220 rfl rfl, zt_sel (n := 62) 53 (by decide +kernel)⟩
theorem mv_RX11_267 : zMV RX11 267 yX11_readKin.cls yX11_readKin := ⟨zt_a6 222 rfl rfl, zt_a6 224 rfl rfl, zt_sel (n := 62) 54 (by decide +kernel)⟩
theorem mv_RX11_279 : zMV RX11 279 yX11_readLaw.cls yX11_readLaw := ⟨zt_a6 226 rfl rfl, zt_a6 228 rfl rfl, zt_sel (n := 62) 55 (by decide +kernel)⟩
theorem mv_RX11_238 : zMV RX11 238 yX11_isLineWord.cls yX11_isLineWord := ⟨zt_a6 230 rfl rfl, zt_a6 232 rfl rfl, zt_sel (n := 62) 56 (by decide +kernel)⟩
theorem mv_RX11_217 : zMV RX11 217 yX11_readSum.cls yX11_readSum := ⟨zt_a6 234 rfl rfl, zt_a6 236 rfl rfl, zt_sel (n := 62) 57 (by decide +kernel)⟩
theorem mv_RX11_214 : zMV RX11 214 yX11_readProduct.cls yX11_readProduct := ⟨zt_a6 238 rfl rfl, zt_a7 0 rfl rfl, zt_sel (n := 62) 58 (by decide +kernel)⟩
theorem mv_RX11_207 : zMV RX11 207 yX11_readUnit.cls yX11_readUnit := ⟨zt_a7 2 rfl rfl, zt_a7 4 rfl rfl, zt_sel (n := 62) 59 (by decide +kernel)⟩
theorem mv_RX11_194 : zMV RX11 194 yX11_canAsk.cls yX11_canAsk := ⟨zt_a7 6 rfl rfl, zt_a7 8 rfl rfl, zt_sel (n := 62) 60 (by decide +kernel)⟩
theorem mv_RX11_200 : zMV RX11 200 yX11_emits.cls yX11_emits := ⟨zt_a7 10 rfl rfl, zt_a7 12 rfl rfl, zt_sel (n := 62) 61 (by decide +kernel)⟩
theorem mv_RX11_242 : zMV RX11 242 yX11_readAny.cls yX11_readAny := ⟨zt_a7 14 rfl rfl, zt_a7 16 rfl rfl, zt_sel (n := 62) 62 (by decide +kernel)⟩
theorem mv_RX11_229 : zMV RX11 229 yX11_waits.cls yX11_waits := ⟨zt_a7 18 rfl rfl, zt_a7 20 rfl rfl, zt_sel (n := 62) 63 (by decide +kernel)⟩
theorem mv_RX11_232 : zMV RX11 232 yX11_readCompared.cls yX11_readCompared := ⟨zt_a7 22 rfl rfl, zt_a7 24 rfl rfl, zt_sel (n := 62) 64 (by decide +kernel)⟩
theorem mv_RX11_235 : zMV RX11 235 yX11_settles.cls yX11_settles := ⟨zt_a7 26 rfl rfl, zt_a7 28 rfl rfl, zt_sel (n := 62) 65 (by decide +kernel)⟩
theorem mv_RX11_297 : zMV RX11 297 yX11_takesLaw.cls yX11_takesLaw := ⟨zt_a7 30 rfl rfl, zt_a7 32 rfl rfl, zt_sel (n := 62) 66 (by decide +kernel)⟩
theorem mv_RX11_300 : zMV RX11 300 yX11_takesOther.cls yX11_takesOther := ⟨zt_a7 34 rfl rfl, zt_a7 36 rfl rfl, zt_sel (n := 62) 67 (by decide +kernel)⟩
theorem mv_RL_54 : zMV RL 54 yX11_fault.cls yX11_fault := ⟨zt_a7 38 rfl rfl, zt_a7 39 rfl rfl, zt_a7 40 rfl rfl⟩
theorem mv_RL_32 : zMV RL 32 yX11_act.cls yX11_act := ⟨zt_a7 42 rfl rfl, zt_a7 43 rfl rfl, zt_a7 44 rfl rfl⟩
theorem mv_RX11_341 : zMV RX11 341 yX11_canAct.cls yX11_canAct := ⟨zt_a7 46 rfl rfl, zt_a7 48 rfl rfl, zt_sel (n := 62) 68 (by decide +kernel)⟩
theorem mv_RX11_135 : zMV RX11 135 yX11_isHere.cls yX11_isHere := ⟨zt_a7 50 rfl rfl, zt_a7 52 rfl rfl, zt_sel (n := 62) 69 (by decide +kernel)⟩
theorem mv_RX11_344 : zMV RX11 344 yX11_keepsAhead.cls yX11_keepsAhead := ⟨zt_a7 54 rfl rfl, zt_a7 56 rfl rfl, zt_sel (n := 62) 70 (by decide +kernel)⟩
theorem mv_RX11_347 : zMV RX11 347 yX11_goesAboard.cls yX11_goesAboard := ⟨zt_a7 58 rfl rfl, zt_a7 60 rfl rfl, zt_sel (n := 62) 71 (by decide +kernel)⟩
theorem mv_RX11_334 : zMV RX11 334 yX11_windsOf.cls yX11_windsOf := ⟨zt_a7 62 rfl rfl, zt_a7 64 rfl rfl, zt_sel (n := 62) 72 (by decide +kernel)⟩
theorem mv_RX11_328 : zMV RX11 328 yX11_asks.cls yX11_asks := ⟨zt_a7 66 rfl rfl, zt_a7 68 rfl rfl, zt_sel (n := 62) 73 (by decide +kernel)⟩
theorem mv_RX11_313 : zMV RX11 313 yX11_hereSet.cls yX11_hereSet := ⟨zt_a7 70 rfl rfl, zt_a7 72 rfl rfl, zt_sel (n := 62) 74 (by decide +kernel)⟩
theorem mv_RX11_316 : zMV RX11 316 yX11_onesOf.cls yX11_onesOf := ⟨zt_a7 74 rfl rfl, zt_a7 76 rfl rfl, zt_sel (n := 62) 75 (by decide +kernel)⟩
theorem mv_RX11_319 : zMV RX11 319 yX11_held.cls yX11_held := ⟨zt_a7 78 rfl rfl, zt_a7 80 rfl rfl, zt_sel (n := 62) 76 (by decide +kernel)⟩
theorem mv_RX11_322 : zMV RX11 322 yX11_kinApart.cls yX11_kinApart := ⟨zt_a7 82 rfl rfl, zt_a7 84 rfl rfl, zt_sel (n := 62) 77 (by decide +kernel)⟩
theorem mv_RX11_309 : zMV RX11 309 yX11_has.cls yX11_has := ⟨zt_a7 86 rfl rfl, zt_a7 88 rfl rfl, zt_sel (n := 62) 78 (by decide +kernel)⟩
theorem mv_RX11_331 : zMV RX11 331 yX11_lawTells.cls yX11_lawTells := ⟨zt_a7 90 rfl rfl, zt_a7 92 rfl rfl, zt_sel (n := 62) 79 (by decide +kernel)⟩
theorem mv_RX11_325 : zMV RX11 325 yX11_lineOf.cls yX11_lineOf := ⟨zt_a7 94 rfl rfl, zt_a7 96 rfl rfl, zt_sel (n := 62) 80 (by decide +kernel)⟩
theorem mv_RX11_306 : zMV RX11 306 yX11_runs.cls yX11_runs := ⟨zt_a7 98 rfl rfl, zt_a7 100 rfl rfl, zt_sel (n := 62) 81 (by decide +kernel)⟩
theorem mv_RX11_303 : zMV RX11 303 yX11_twoOf.cls yX11_twoOf := ⟨zt_a7 102 rfl rfl, zt_a7 104 rfl rfl, zt_sel (n := 62) 82 (by decide +kernel)⟩
theorem mv_RX11_337 : zMV RX11 337 yX11_notes.cls yX11_notes := ⟨zt_a7 106 rfl rfl, zt_a7 108 rfl rfl, zt_sel (n := 62) 83 (by decide +kernel)⟩
theorem mv_RX11_350 : zMV RX11 350 yX11_comesBack.cls yX11_comesBack := ⟨zt_a7 110 rfl rfl, zt_a7 112 rfl rfl, zt_sel (n := 62) 84 (by decide +kernel)⟩
theorem mv_RL_36 : zMV RL 36 yX11_days.cls yX11_days := ⟨zt_a7 114 rfl rfl, zt_a7 115 rfl rfl, zt_a7 116 rfl rfl⟩
theorem mv_RX11_389 : zMV RX11 389 yX11_goesBy.cls yX11_goesBy := ⟨zt_a7 118 rfl rfl, zt_a7 120 rfl rfl, zt_sel (n := 62) 85 (by decide +kernel)⟩
theorem mv_RX11_377 : zMV RX11 377 yX11_does.cls yX11_does := ⟨zt_a7 122 rfl rfl, zt_a7 124 rfl rfl, zt_sel (n := 62) 86 (by decide +kernel)⟩
theorem mv_RX11_356 : zMV RX11 356 yX11_isPushed.cls yX11_isPushed := ⟨zt_a7 126 rfl rfl, zt_a7 128 rfl rfl, zt_sel (n := 62) 87 (by decide +kernel)⟩
theorem mv_RX11_380 : zMV RX11 380 yX11_goesOut.cls yX11_goesOut := ⟨zt_a7 130 rfl rfl, zt_a7 132 rfl rfl, zt_sel (n := 62) 88 (by decide +kernel)⟩
theorem mv_RX11_359 : zMV RX11 359 yX11_leavesOf.cls yX11_leavesOf := ⟨zt_a7 134 rfl rfl, zt_a7 136 rfl rfl, zt_sel (n := 62) 89 (by decide +kernel)⟩
theorem mv_RX11_362 : zMV RX11 362 yX11_happens.cls yX11_happens := ⟨zt_a7 138 rfl rfl, zt_a7 140 rfl rfl, zt_sel (n := 62) 90 (by decide +kernel)⟩
theorem mv_RX11_353 : zMV RX11 353 yX11_draw.cls yX11_draw := ⟨zt_a7 142 rfl rfl, zt_a7 144 rfl rfl, zt_sel (n := 62) 91 (by decide +kernel)⟩
theorem mv_RX11_383 : zMV RX11 383 yX11_bringsBack.cls yX11_bringsBack := ⟨zt_a7 148 rfl rfl, zt_a7 150 rfl rfl, zt_sel (n := 62) 92 (by decide +kernel)⟩
theorem mv_RX11_365 : zMV RX11 365 yX11_returnsOf.cls yX11_returnsOf := ⟨zt_a7 152 rfl rfl, zt_a7 154 rfl rfl, zt_sel (n := 62) 93 (by decide +kernel)⟩
theorem mv_RX11_386 : zMV RX11 386 yX11_clockRuns.cls yX11_clockRuns := ⟨zt_a7 156 rfl rfl, zt_a7 158 rfl rfl, zt_sel (n := 62) 94 (by decide +kernel)⟩
theorem mv_RX11_368 : zMV RX11 368 yX11_plain.cls yX11_plain := ⟨zt_a7 160 rfl rfl, zt_a7 162 rfl rfl, zt_sel (n := 62) 95 (by decide +kernel)⟩
theorem mv_RX11_371 : zMV RX11 371 yX11_lesser.cls yX11_lesser := ⟨zt_a7 164 rfl rfl, zt_a7 166 rfl rfl, zt_sel (n := 62) 96 (by decide +kernel)⟩
theorem mv_RX11_374 : zMV RX11 374 yX11_strokesAt.cls yX11_strokesAt := ⟨zt_a7 168 rfl rfl, zt_a7 170 rfl rfl, zt_sel (n := 62) 97 (by decide +kernel)⟩
theorem mv_RL_58 : zMV RL 58 yX11_of.cls yX11_of := ⟨zt_a7 172 rfl rfl, zt_a7 173 rfl rfl, zt_a7 174 rfl rfl⟩
theorem mv_RL_62 : zMV RL 62 yX11_book.cls yX11_book := ⟨zt_a7 176 rfl rfl, zt_a7 177 rfl rfl, zt_a7 178 rfl rfl⟩
theorem mv_RL_66 : zMV RL 66 yX11_goes.cls yX11_goes := ⟨zt_a7 180 rfl rfl, zt_a7 181 rfl rfl, zt_a7 182 rfl rfl⟩
theorem mv_RX11_392 : zMV RX11 392 yX11_thinks.cls yX11_thinks := ⟨zt_a7 184 rfl rfl, zt_a7 186 rfl rfl, zt_sel (n := 62) 98 (by decide +kernel)⟩
theorem mv_RX11_395 : zMV RX11 395 yX11_endsThought.cls yX11_endsThought := ⟨zt_a7 188 rfl rfl, zt_a7 190 rfl rfl, zt_sel (n := 62) 99 (by decide +kernel)⟩
theorem mv_RL_71 : zMV RL 71 yX11_lonely.cls yX11_lonely := ⟨zt_a7 192 rfl rfl, zt_a7 193 rfl rfl, zt_a7 194 rfl rfl⟩
theorem mv_RL_75 : zMV RL 75 yX11_must.cls yX11_must := ⟨zt_a7 196 rfl rfl, zt_a7 197 rfl rfl, zt_a7 198 rfl rfl⟩
theorem mv_RL_79 : zMV RL 79 yX11_strokes.cls yX11_strokes := ⟨zt_a7 200 rfl rfl, zt_a7 201 rfl rfl, zt_a7 202 rfl rfl⟩
theorem mv_RL_83 : zMV RL 83 yX11_hands.cls yX11_hands := ⟨zt_a7 204 rfl rfl, zt_a7 205 rfl rfl, zt_a7 206 rfl rfl⟩
theorem mv_RX11_398 : zMV RX11 398 yX11_handsAt.cls yX11_handsAt := ⟨zt_a7 208 rfl rfl, zt_a7 210 rfl rfl, zt_sel (n := 62) 100 (by decide +kernel)⟩
theorem mv_RL_88 : zMV RL 88 yX11_wheel.cls yX11_wheel := ⟨zt_a7 212 rfl rfl, zt_a7 213 rfl rfl, zt_a7 214 rfl rfl⟩
theorem mv_RL_92 : zMV RL 92 yX11_wheels.cls yX11_wheels := ⟨zt_a7 216 rfl rfl, zt_a7 217 rfl rfl, zt_a7 218 rfl rfl⟩
theorem mv_RX11_405 : zMV RX11 405 yX11_common.cls yX11_common := ⟨zt_a7 221 rfl rfl, zt_a7 223 rfl rfl, zt_sel (n := 62) 101 (by decide +kernel)⟩
theorem mv_RL_96 : zMV RL 96 yX11_couple.cls yX11_couple := ⟨zt_a7 225 rfl rfl, zt_a7 226 rfl rfl, zt_a7 227 rfl rfl⟩
theorem mv_RL_100 : zMV RL 100 yX11_ferry.cls yX11_ferry := ⟨zt_a7 229 rfl rfl, zt_a7 230 rfl rfl, zt_a7 231 rfl rfl⟩
theorem mv_RX11_412 : zMV RX11 412 yX11_isPeace.cls yX11_isPeace := ⟨zt_a7 234 rfl rfl, zt_a7 236 rfl rfl, zt_sel (n := 62) 102 (by decide +kernel)⟩
theorem mv_RL_105 : zMV RL 105 yX11_glasses.cls yX11_glasses := ⟨zt_a7 238 rfl rfl, zt_a7 239 rfl rfl, zt_a8 0 rfl rfl⟩
theorem mv_RX11_415 : zMV RX11 415 yX11_glassAt.cls yX11_glassAt := ⟨zt_a8 2 rfl rfl, zt_a8 4 rfl rfl, zt_sel (n := 62) 103 (by decide +kernel)⟩
theorem mv_RX11_418 : zMV RX11 418 yX11_greater.cls yX11_greater := ⟨zt_a8 6 rfl rfl, zt_a8 8 rfl rfl, zt_sel (n := 62) 104 (by decide +kernel)⟩
theorem mv_RX11_421 : zMV RX11 421 yX11_turns.cls yX11_turns := ⟨zt_a8 10 rfl rfl, zt_a8 12 rfl rfl, zt_sel (n := 62) 105 (by decide +kernel)⟩
theorem mv_RL_109 : zMV RL 109 yX11_seat.cls yX11_seat := ⟨zt_a8 14 rfl rfl, zt_a8 15 rfl rfl, zt_a8 16 rfl rfl⟩
theorem mv_RL_113 : zMV RL 113 yX11_level.cls yX11_level := ⟨zt_a8 18 rfl rfl, zt_a8 19 rfl rfl, zt_a8 20 rfl rfl⟩
theorem mv_RX11_428 : zMV RX11 428 yX11_isLevel.cls yX11_isLevel := ⟨zt_a8 22 rfl rfl, zt_a8 24 rfl rfl, zt_sel (n := 62) 106 (by decide +kernel)⟩
theorem mv_RL_117 : zMV RL 117 yX11_part.cls yX11_part := ⟨zt_a8 26 rfl rfl, zt_a8 27 rfl rfl, zt_a8 28 rfl rfl⟩
theorem mv_RX11_431 : zMV RX11 431 yX11_findsQuotients.cls yX11_findsQuotients := ⟨zt_a8 30 rfl rfl, zt_a8 32 rfl rfl, zt_sel (n := 62) 107 (by decide +kernel)⟩
theorem mv_RL_121 : zMV RL 121 yX11_bells.cls yX11_bells := ⟨zt_a8 34 rfl rfl, zt_a8 35 rfl rfl, zt_a8 36 rfl rfl⟩
theorem mv_RX11_440 : zMV RX11 440 yX11_againAt.cls yX11_againAt := ⟨zt_a8 38 rfl rfl, zt_a8 40 rfl rfl, zt_sel (n := 62) 108 (by decide +kernel)⟩
theorem mv_RX11_434 : zMV RX11 434 yX11_changes.cls yX11_changes := ⟨zt_a8 42 rfl rfl, zt_a8 44 rfl rfl, zt_sel (n := 62) 109 (by decide +kernel)⟩
theorem mv_RX11_437 : zMV RX11 437 yX11_areInOrder.cls yX11_areInOrder := ⟨zt_a8 46 rfl rfl, zt_a8 48 rfl rfl, zt_sel (n := 62) 110 (by decide +kernel)⟩
theorem mv_RL_125 : zMV RL 125 yX11_against.cls yX11_against := ⟨zt_a8 51 rfl rfl, zt_a8 52 rfl rfl, zt_a8 53 rfl rfl⟩
theorem mv_RL_129 : zMV RL 129 yX11_calendar.cls yX11_calendar := ⟨zt_a8 55 rfl rfl, zt_a8 56 rfl rfl, zt_a8 57 rfl rfl⟩
theorem mv_RL_133 : zMV RL 133 yX11_rope.cls yX11_rope := ⟨zt_a8 60 rfl rfl, zt_a8 61 rfl rfl, zt_a8 62 rfl rfl⟩
theorem mv_RL_138 : zMV RL 138 yX11_meets.cls yX11_meets := ⟨zt_a8 64 rfl rfl, zt_a8 65 rfl rfl, zt_a8 66 rfl rfl⟩
theorem mv_RL_142 : zMV RL 142 yX11_arm.cls yX11_arm := ⟨zt_a8 68 rfl rfl, zt_a8 69 rfl rfl, zt_a8 70 rfl rfl⟩
theorem mv_RL_146 : zMV RL 146 yX11_hung.cls yX11_hung := ⟨zt_a8 72 rfl rfl, zt_a8 73 rfl rfl, zt_a8 74 rfl rfl⟩
theorem mv_RX11_448 : zMV RX11 448 yX11_goesToNextOrder.cls yX11_goesToNextOrder := ⟨zt_a8 76 rfl rfl, zt_a8 78 rfl rfl, zt_sel (n := 62) 111 (by decide +kernel)⟩
theorem mv_RL_150 : zMV RL 150 yX11_game.cls yX11_game := ⟨zt_a8 80 rfl rfl, zt_a8 81 rfl rfl, zt_a8 82 rfl rfl⟩
theorem mv_RX11_454 : zMV RX11 454 yX11_endOf.cls yX11_endOf := ⟨zt_a8 84 rfl rfl, zt_a8 86 rfl rfl, zt_sel (n := 62) 112 (by decide +kernel)⟩
theorem mv_RX11_451 : zMV RX11 451 yX11_leadsTo.cls yX11_leadsTo := ⟨zt_a8 88 rfl rfl, zt_a8 90 rfl rfl, zt_sel (n := 62) 113 (by decide +kernel)⟩
theorem mv_RX11_457 : zMV RX11 457 yX11_keepsSo.cls yX11_keepsSo := ⟨zt_a8 92 rfl rfl, zt_a8 94 rfl rfl, zt_sel (n := 62) 114 (by decide +kernel)⟩
theorem mv_RL_160 : zMV RL 160 yX11_image.cls yX11_image := ⟨zt_a8 96 rfl rfl, zt_a8 97 rfl rfl, zt_a8 98 rfl rfl⟩
theorem mv_RX11_467 : zMV RX11 467 yX11_keeps.cls yX11_keeps := ⟨zt_a8 100 rfl rfl, zt_a8 102 rfl rfl, zt_sel (n := 62) 115 (by decide +kernel)⟩
theorem mv_RX11_473 : zMV RX11 473 yX11_keepsTold.cls yX11_keepsTold := ⟨zt_a8 104 rfl rfl, zt_a8 106 rfl rfl, zt_sel (n := 62) 116 (by decide +kernel)⟩
theorem mv_RX11_476 : zMV RX11 476 yX11_keepsLaw.cls yX11_keepsLaw := ⟨zt_a8 108 rfl rfl, zt_a8 110 rfl rfl, zt_sel (n := 62) 117 (by decide +kernel)⟩
theorem mv_RL_164 : zMV RL 164 yX11_look.cls yX11_look := ⟨zt_a8 112 rfl rfl, zt_a8 113 rfl rfl, zt_a8 114 rfl rfl⟩
theorem mi_RX10_9 : zMI RX10 9 yX9_init := ⟨zt_a1 33 rfl rfl, rfl, Or.inr ⟨_, List.mem_of_getElem? (i := 0) rfl⟩⟩
theorem mi_RX10_24 : zMI RX10 24 yX6_init := ⟨zt_a2 62 rfl rfl, rfl, Or.inr ⟨_, List.mem_of_getElem? (i := 1) rfl⟩⟩
theorem mi_RX10_40 : zMI RX10 40 yX8_init := ⟨zt_a2 114 rfl rfl, rfl, Or.inr ⟨_, List.mem_of_getElem? (i := 2) rfl⟩⟩
theorem mi_RX10_66 : zMI RX10 66 yX1_init := ⟨zt_a1 39 rfl rfl, rfl, Or.inr ⟨_, List.mem_of_getElem? (i := 3) rfl⟩⟩
theorem ms_RX10_291 : zMS RX10 291 yX8_waysToSit := ⟨zt_a5 33 rfl rfl, Or.inr ⟨_, List.mem_of_getElem? (i := 4) rfl⟩⟩
theorem ms_RX10_318 : zMS RX10 318 yX8_leastLean := ⟨zt_a5 110 rfl rfl, Or.inr ⟨_, List.mem_of_getElem? (i := 5) rfl⟩⟩
theorem ms_RX2_31 : zMS RX2 31 yX10_within := ⟨zt_a2 184 rfl rfl, Or.inr ⟨_, List.mem_of_getElem? (i := 6) rfl⟩⟩
theorem ms_RX5_50 : zMS RX5 50 yX10_within := ⟨zt_a2 184 rfl rfl, Or.inr ⟨_, List.mem_of_getElem? (i := 7) rfl⟩⟩
theorem ms_RX6_91 : zMS RX6 91 yX10_within := ⟨zt_a2 184 rfl rfl, Or.inr ⟨_, List.mem_of_getElem? (i := 8) rfl⟩⟩
theorem mi_RX9_11 : zMI RX9 11 yX1_init := ⟨zt_a1 39 rfl rfl, rfl, Or.inr ⟨_, List.mem_of_getElem? (i := 9) rfl⟩⟩
theorem mi_RX9_20 : zMI RX9 20 yX3_init := ⟨zt_a1 115 rfl rfl, rfl, Or.inr ⟨_, List.mem_of_getElem? (i := 10) rfl⟩⟩
theorem mi_RX9_27 : zMI RX9 27 yX4_init := ⟨zt_a1 158 rfl rfl, rfl, Or.inr ⟨_, List.mem_of_getElem? (i := 11) rfl⟩⟩
theorem mi_RX9_37 : zMI RX9 37 yX2_init := ⟨zt_a1 186 rfl rfl, rfl, Or.inr ⟨_, List.mem_of_getElem? (i := 12) rfl⟩⟩
theorem mi_RX9_44 : zMI RX9 44 yX0_init := ⟨zt_a1 203 rfl rfl, rfl, Or.inr ⟨_, List.mem_of_getElem? (i := 13) rfl⟩⟩
theorem mi_RX9_51 : zMI RX9 51 yX5_init := ⟨zt_a1 230 rfl rfl, rfl, Or.inr ⟨_, List.mem_of_getElem? (i := 14) rfl⟩⟩
end
section
abbrev tJ9_floorMod_7cf53 : List (Nat × Instr × Nat) := [(0, .iload_n 0, 1), (1, .iload_n 1, 1), (2, .irem, 1), (3, .istore_n 2, 1), (4, .iload_n 0, 1), (5, .iload_n 1, 1), (6, .ixor, 1), (7, .ifCond .ge 11, 3), (10, .iload_n 2, 1), (11, .ifCond .eq 7, 3), (14, .iload_n 2, 1), (15, .iload_n 1, 1), (16, .iadd, 1), (17, .ireturn, 1), (18, .iload_n 2, 1), (19, .ireturn, 1)]
theorem ttJ9_floorMod_7cf53 : zdt cJ9_floorMod_7cf53 tJ9_floorMod_7cf53 = true := by decide +kernel

abbrev tJ9_floorDiv_7cf53 : List (Nat × Instr × Nat) := [(0, .iload_n 0, 1), (1, .iload_n 1, 1), (2, .idiv, 1), (3, .istore_n 2, 1), (4, .iload_n 0, 1), (5, .iload_n 1, 1), (6, .ixor, 1), (7, .ifCond .ge 14, 3), (10, .iload_n 2, 1), (11, .iload_n 1, 1), (12, .imul, 1), (13, .iload_n 0, 1), (14, .if_icmp .eq 7, 3), (17, .iload_n 2, 1), (18, .iconst 1, 1), (19, .isub, 1), (20, .ireturn, 1), (21, .iload_n 2, 1), (22, .ireturn, 1)]
theorem ttJ9_floorDiv_7cf53 : zdt cJ9_floorDiv_7cf53 tJ9_floorDiv_7cf53 = true := by decide +kernel

abbrev tJ6_bitCount_0f7a4 : List (Nat × Instr × Nat) := [(0, .iload_n 0, 1), (1, .iload_n 0, 1), (2, .iconst 1, 1), (3, .iushr, 1), (4, .ldc_w 265, 3), (7, .iand, 1), (8, .isub, 1), (9, .istore_n 0, 1), (10, .iload_n 0, 1), (11, .ldc_w 266, 3), (14, .iand, 1), (15, .iload_n 0, 1), (16, .iconst 2, 1), (17, .iushr, 1), (18, .ldc_w 266, 3), (21, .iand, 1), (22, .iadd, 1), (23, .istore_n 0, 1), (24, .iload_n 0, 1), (25, .iload_n 0, 1), (26, .iconst 4, 1), (27, .iushr, 1), (28, .iadd, 1), (29, .ldc_w 267, 3), (32, .iand, 1), (33, .istore_n 0, 1), (34, .iload_n 0, 1), (35, .iload_n 0, 1), (36, .bipush 8, 2), (38, .iushr, 1), (39, .iadd, 1), (40, .istore_n 0, 1), (41, .iload_n 0, 1), (42, .iload_n 0, 1), (43, .bipush 16, 2), (45, .iushr, 1), (46, .iadd, 1), (47, .istore_n 0, 1), (48, .iload_n 0, 1), (49, .bipush 63, 2), (51, .iand, 1), (52, .ireturn, 1)]
theorem ttJ6_bitCount_0f7a4 : zdt cJ6_bitCount_0f7a4 tJ6_bitCount_0f7a4 = true := by decide +kernel

abbrev tJ7_rangeCheck_23922 : List (Nat × Instr × Nat) := [(0, .iload_n 1, 1), (1, .iload_n 2, 1), (2, .if_icmp .le 44, 3), (5, .new 43, 3), (8, .dup, 1), (9, .new 45, 3), (12, .dup, 1), (13, .invokespecial 47, 3), (16, .ldc 48, 2), (18, .invokevirtual 50, 3), (21, .iload_n 1, 1), (22, .invokevirtual 54, 3), (25, .ldc 57, 2), (27, .invokevirtual 50, 3), (30, .iload_n 2, 1), (31, .invokevirtual 54, 3), (34, .ldc 59, 2), (36, .invokevirtual 50, 3), (39, .invokevirtual 61, 3), (42, .invokespecial 65, 3), (45, .athrow, 1), (46, .iload_n 1, 1), (47, .ifCond .ge 12, 3), (50, .new 68, 3), (53, .dup, 1), (54, .iload_n 1, 1), (55, .invokespecial 70, 3), (58, .athrow, 1), (59, .iload_n 2, 1), (60, .iload_n 0, 1), (61, .if_icmp .le 12, 3), (64, .new 68, 3), (67, .dup, 1), (68, .iload_n 2, 1), (69, .invokespecial 70, 3), (72, .athrow, 1), (73, .return_, 1)]
theorem ttJ7_rangeCheck_23922 : zdt cJ7_rangeCheck_23922 tJ7_rangeCheck_23922 = true := by decide +kernel

abbrev tJ7_fill_53178 : List (Nat × Instr × Nat) := [(0, .iconst 0, 1), (1, .istore_n 2, 1), (2, .aload_n 0, 1), (3, .arraylength, 1), (4, .istore_n 3, 1), (5, .iload_n 2, 1), (6, .iload_n 3, 1), (7, .if_icmp .ge 13, 3), (10, .aload_n 0, 1), (11, .iload_n 2, 1), (12, .iload_n 1, 1), (13, .iastore, 1), (14, .iinc 2 1, 3), (17, .goto (-12), 3), (20, .return_, 1)]
theorem ttJ7_fill_53178 : zdt cJ7_fill_53178 tJ7_fill_53178 = true := by decide +kernel

abbrev tJ7_fill_fda19 : List (Nat × Instr × Nat) := [(0, .aload_n 0, 1), (1, .arraylength, 1), (2, .iload_n 1, 1), (3, .iload_n 2, 1), (4, .invokestatic 13, 3), (7, .iload_n 1, 1), (8, .istore 4, 2), (10, .iload 4, 2), (12, .iload_n 2, 1), (13, .if_icmp .ge 14, 3), (16, .aload_n 0, 1), (17, .iload 4, 2), (19, .iload_n 3, 1), (20, .iastore, 1), (21, .iinc 4 1, 3), (24, .goto (-14), 3), (27, .return_, 1)]
theorem ttJ7_fill_fda19 : zdt cJ7_fill_fda19 tJ7_fill_fda19 = true := by decide +kernel

theorem zxor_sg {x y : Int} (hx : zin x) (hy : 0 ≤ y ∧ y ≤ 2147483647) : zxor x y < 0 ↔ x < 0 := by
  have key : ∀ z : Int32, z.toInt < 0 ↔ z.toBitVec.msb = true := fun z => by
    show z.toBitVec.toInt < 0 ↔ _
    rw [BitVec.msb_eq_toInt]; simp
  have h1 := key (Int32.ofInt x)
  have h2 := key (Int32.ofInt y)
  rw [zin_i hx] at h1
  rw [zin_i (by omega)] at h2
  show (zxor_ (Int32.ofInt x) (Int32.ofInt y)).toInt < 0 ↔ _
  rw [key]
  show (Int32.ofInt x ^^^ Int32.ofInt y).toBitVec.msb = true ↔ _
  rw [Int32.toBitVec_xor, BitVec.msb_xor, h1]
  have h3 : (Int32.ofInt y).toBitVec.msb = false := by
    cases hb : (Int32.ofInt y).toBitVec.msb
    · rfl
    · have := h2.mpr hb; omega
  rw [h3, Bool.xor_false]
theorem zneg_em {x y : Int} (hx : x < 0) (hy : 0 < y) : (x.tmod y = 0 → x % y = 0 ∧ x / y = x.tdiv y) ∧ (¬ x.tmod y = 0 → x % y = x.tmod y + y ∧ x / y = x.tdiv y - 1) := by
  have h1 := Int.mul_tdiv_add_tmod x y
  have h2 := (ztm_b x y (by omega)).1 hy
  have h3 := (ztm_b x y (by omega)).2.2.2 (by omega)
  refine ⟨fun q => ?_, fun q => ?_⟩
  · have := (Int.ediv_emod_unique hy (a := x) (q := x.tdiv y) (r := 0)).mpr ⟨by omega, by omega, by omega⟩
    exact ⟨this.2, this.1⟩
  · have e : y * (x.tdiv y - 1) = y * x.tdiv y - y := by rw [Int.mul_sub, Int.mul_one]
    have := (Int.ediv_emod_unique hy (a := x) (q := x.tdiv y - 1) (r := x.tmod y + y)).mpr ⟨by rw [e]; omega, by omega, by omega⟩
    exact ⟨this.2, this.1⟩
theorem s_J9_floorMod_7cf53 (sh : zSh) (l : Launch) (h : zM) (x y : Int) (hx : zin x) (hy : 0 < y ∧ y ≤ 2147483647) : zT sh l yJ9_floorMod_7cf53 cJ9_floorMod_7cf53 3 (some .int) (rmL 0) 0 0 [.inl x, .inl y] h (zqi fun v h' => h = h' ∧ v = x % y) := by
  refine zT_of (by decide +kernel) (L0 := [some (.inl x), some (.inl y), none]) rfl (Nat.le_of_ble_eq_true rfl) ?_
  refine zj_iload_n (zdk ttJ9_floorMod_7cf53 0 rfl rfl) rfl ?_
  refine zj_iload_n (zdk ttJ9_floorMod_7cf53 1 rfl rfl) rfl ?_
  refine zj_irem (zdk ttJ9_floorMod_7cf53 2 rfl rfl) hx (by omega) (by omega) ?_
  have hm := ztm_b x y (by omega)
  refine zj_istore_n (L' := [some (.inl x), some (.inl y), some (.inl (x.tmod y))]) (zdk ttJ9_floorMod_7cf53 3 rfl rfl) (by decide) rfl ?_
  refine zj_iload_n (zdk ttJ9_floorMod_7cf53 4 rfl rfl) rfl ?_
  refine zj_iload_n (zdk ttJ9_floorMod_7cf53 5 rfl rfl) rfl ?_
  refine zj_ixor (zdk ttJ9_floorMod_7cf53 6 rfl rfl) ?_
  have hs := zxor_sg hx (y := y) (by omega)
  refine zj_if_ge (t := 18) (zdk ttJ9_floorMod_7cf53 7 rfl rfl) (by decide) (zxor_in x y) (fun c => ?_) (fun c => ?_)
  · refine zj_iload_n (zdk ttJ9_floorMod_7cf53 14 rfl rfl) rfl ?_
    exact zj_iret rfl (zdk ttJ9_floorMod_7cf53 15 rfl rfl) (Nat.le_refl _) (Nat.le_refl _) ⟨x.tmod y, rfl, rfl, Int.tmod_eq_emod_of_nonneg (by omega)⟩
  · have hn := zneg_em (x := x) (y := y) (by omega) (by omega)
    refine zj_iload_n (zdk ttJ9_floorMod_7cf53 8 rfl rfl) rfl ?_
    refine zj_if_eq (t := 18) (zdk ttJ9_floorMod_7cf53 9 rfl rfl) (by decide) (by omega) (fun c2 => ?_) (fun c2 => ?_)
    · refine zj_iload_n (zdk ttJ9_floorMod_7cf53 14 rfl rfl) rfl ?_
      exact zj_iret rfl (zdk ttJ9_floorMod_7cf53 15 rfl rfl) (Nat.le_refl _) (Nat.le_refl _) ⟨x.tmod y, rfl, rfl, by rw [(hn.1 c2).1, c2]⟩
    · refine zj_iload_n (zdk ttJ9_floorMod_7cf53 10 rfl rfl) rfl ?_
      refine zj_iload_n (zdk ttJ9_floorMod_7cf53 11 rfl rfl) rfl ?_
      refine zj_iadd (zdk ttJ9_floorMod_7cf53 12 rfl rfl) ?_
      exact zj_iret rfl (zdk ttJ9_floorMod_7cf53 13 rfl rfl) (Nat.le_refl _) (Nat.le_refl _) ⟨x.tmod y + y, rfl, rfl, (hn.2 c2).1.symm⟩
theorem s_J9_floorDiv_7cf53 (sh : zSh) (l : Launch) (h : zM) (x y : Int) (hx : zin x) (hy : 0 < y ∧ y ≤ 2147483647) : zT sh l yJ9_floorDiv_7cf53 cJ9_floorDiv_7cf53 3 (some .int) (rmL 0) 0 0 [.inl x, .inl y] h (zqi fun v h' => h = h' ∧ v = x / y) := by
  refine zT_of (by decide +kernel) (L0 := [some (.inl x), some (.inl y), none]) rfl (Nat.le_of_ble_eq_true rfl) ?_
  refine zj_iload_n (zdk ttJ9_floorDiv_7cf53 0 rfl rfl) rfl ?_
  refine zj_iload_n (zdk ttJ9_floorDiv_7cf53 1 rfl rfl) rfl ?_
  refine zj_idiv (zdk ttJ9_floorDiv_7cf53 2 rfl rfl) hx (by omega) (by omega) ?_
  have hm := ztm_b x y (by omega)
  have ht := ztd_b x y
  have hp := Int.mul_tdiv_add_tmod x y
  refine zj_istore_n (L' := [some (.inl x), some (.inl y), some (.inl (x.tdiv y))]) (zdk ttJ9_floorDiv_7cf53 3 rfl rfl) (by decide) rfl ?_
  refine zj_iload_n (zdk ttJ9_floorDiv_7cf53 4 rfl rfl) rfl ?_
  refine zj_iload_n (zdk ttJ9_floorDiv_7cf53 5 rfl rfl) rfl ?_
  refine zj_ixor (zdk ttJ9_floorDiv_7cf53 6 rfl rfl) ?_
  have hs := zxor_sg hx (y := y) (by omega)
  refine zj_if_ge (t := 21) (zdk ttJ9_floorDiv_7cf53 7 rfl rfl) (by decide) (zxor_in x y) (fun c => ?_) (fun c => ?_)
  · refine zj_iload_n (zdk ttJ9_floorDiv_7cf53 17 rfl rfl) rfl ?_
    exact zj_iret rfl (zdk ttJ9_floorDiv_7cf53 18 rfl rfl) (Nat.le_refl _) (Nat.le_refl _) ⟨x.tdiv y, rfl, rfl, Int.tdiv_eq_ediv_of_nonneg (by omega)⟩
  · have hn := zneg_em (x := x) (y := y) (by omega) (by omega)
    refine zj_iload_n (zdk ttJ9_floorDiv_7cf53 8 rfl rfl) rfl ?_
    refine zj_iload_n (zdk ttJ9_floorDiv_7cf53 9 rfl rfl) rfl ?_
    refine zj_imul (zdk ttJ9_floorDiv_7cf53 10 rfl rfl) ?_
    refine zj_iload_n (zdk ttJ9_floorDiv_7cf53 11 rfl rfl) rfl ?_
    rw [Int.mul_comm] at hp
    refine zj_icmp_eq (t := 21) (zdk ttJ9_floorDiv_7cf53 12 rfl rfl) (by decide) (by omega) hx (fun c2 => ?_) (fun c2 => ?_)
    · refine zj_iload_n (zdk ttJ9_floorDiv_7cf53 17 rfl rfl) rfl ?_
      exact zj_iret rfl (zdk ttJ9_floorDiv_7cf53 18 rfl rfl) (Nat.le_refl _) (Nat.le_refl _) ⟨x.tdiv y, rfl, rfl, (hn.1 (by omega)).2.symm⟩
    · refine zj_iload_n (zdk ttJ9_floorDiv_7cf53 13 rfl rfl) rfl ?_
      refine zj_iconst (zdk ttJ9_floorDiv_7cf53 14 rfl rfl) ?_
      refine zj_isub (zdk ttJ9_floorDiv_7cf53 15 rfl rfl) ?_
      exact zj_iret rfl (zdk ttJ9_floorDiv_7cf53 16 rfl rfl) (Nat.le_refl _) (Nat.le_refl _) ⟨x.tdiv y - 1, rfl, rfl, (hn.2 (by omega)).2.symm⟩
theorem s_J7_rangeCheck_23922 (sh : zSh) (l : Launch) (h : zM) (n a b : Int) (hn : zin n) (ha : 0 ≤ a ∧ a ≤ b) (hb : b ≤ n) : zT sh l yJ7_rangeCheck_23922 cJ7_rangeCheck_23922 3 none (rmL 0) 0 0 [.inl n, .inl a, .inl b] h (zqv fun h' => h' = h) := by
  refine zT_of (by decide +kernel) (L0 := [some (.inl n), some (.inl a), some (.inl b)]) rfl (Nat.le_of_ble_eq_true rfl) ?_
  refine zj_iload_n (zdk ttJ7_rangeCheck_23922 0 rfl rfl) rfl ?_
  refine zj_iload_n (zdk ttJ7_rangeCheck_23922 1 rfl rfl) rfl ?_
  refine zj_icmp_le (t := 46) (zdk ttJ7_rangeCheck_23922 2 rfl rfl) (by decide) (by omega) (by omega) (fun c => ?_) (fun c => absurd ha.2 c)
  refine zj_iload_n (zdk ttJ7_rangeCheck_23922 21 rfl rfl) rfl ?_
  refine zj_if_ge (t := 59) (zdk ttJ7_rangeCheck_23922 22 rfl rfl) (by decide) (by omega) (fun c => ?_) (fun c => absurd ha.1 c)
  refine zj_iload_n (zdk ttJ7_rangeCheck_23922 28 rfl rfl) rfl ?_
  refine zj_iload_n (zdk ttJ7_rangeCheck_23922 29 rfl rfl) rfl ?_
  refine zj_icmp_le (t := 73) (zdk ttJ7_rangeCheck_23922 30 rfl rfl) (by decide) (by omega) (by omega) (fun c => ?_) (fun c => absurd hb c)
  exact zj_vret rfl (zdk ttJ7_rangeCheck_23922 36 rfl rfl) (Nat.le_refl _) (Nat.le_refl _) ⟨rfl, rfl⟩
def zfill (h : zM) (c a b v : Int) : zM := (h.1, fun x y => if x = c ∧ a ≤ y ∧ y < b then v else h.2 x y)
theorem zfill_0 (h : zM) (c a v : Int) : zfill h c a a v = h := by
  unfold zfill
  have : (fun x y => if x = c ∧ a ≤ y ∧ y < a then v else h.2 x y) = h.2 := by
    funext x y
    rw [if_neg (by omega)]
  rw [this]
theorem zfill_s {h : zM} {c a i v : Int} (hi : a ≤ i) : zwr (zfill h c a i v) c i v = zfill h c a (i + 1) v := by
  unfold zfill zwr
  congr 1
  funext x y
  dsimp only
  by_cases q : x = c ∧ y = i
  · rw [if_pos q, if_pos (by omega)]
  · rw [if_neg q]
    by_cases q2 : x = c ∧ a ≤ y ∧ y < i
    · rw [if_pos q2, if_pos (by omega)]
    · rw [if_neg q2, if_neg (by omega)]
theorem s_J7_fill_fda19 (sh : zSh) (l : Launch) (h : zM) (c0 a b v : Int) {N : Nat} (hs : sh c0 = .inr (0, N) ∧ 0 ≤ c0 ∧ c0 < h.1) (hN : N < 2147483648) (ha : 0 ≤ a ∧ a ≤ b) (hb : b ≤ N) : zT sh l yJ7_fill_fda19 cJ7_fill_fda19 5 none (rmL 1) 0 0 [.inr c0, .inl a, .inl b, .inl v] h (zqv fun h' => h' = zfill h c0 a b v) := by
  refine zT_of (by decide +kernel) (L0 := [some (.inr c0), some (.inl a), some (.inl b), some (.inl v), none]) rfl (Nat.le_of_ble_eq_true rfl) ?_
  refine zj_aload_n (zdk ttJ7_fill_fda19 0 rfl rfl) rfl (by omega) ?_
  refine zj_alen (zdk ttJ7_fill_fda19 1 rfl rfl) hs ?_
  refine zj_iload_n (zdk ttJ7_fill_fda19 2 rfl rfl) rfl ?_
  refine zj_iload_n (zdk ttJ7_fill_fda19 3 rfl rfl) rfl ?_
  refine zj_callS (av := [.inl N, .inl a, .inl b]) (st := []) (zdk ttJ7_fill_fda19 4 rfl rfl) mb_J7_rangeCheck_23922 ms_RJ7_13 rfl rfl (Nat.le_of_ble_eq_true rfl) (s_J7_rangeCheck_23922 sh l h N a b (by omega) ha hb) (rm_ok (by decide) (by decide)) (zq_v fun h1 q => ?_)
  subst q
  refine zj_iload_n (zdk ttJ7_fill_fda19 5 rfl rfl) rfl ?_
  refine zj_istore (L' := [some (.inr c0), some (.inl a), some (.inl b), some (.inl v), some (.inl a)]) (zdk ttJ7_fill_fda19 6 rfl rfl) (by decide) rfl ?_
  have lp : ∀ (n : Nat) (i : Int) (g : zM), a ≤ i ∧ i ≤ b → g = zfill h1 c0 a i v → (b - i).toNat < n → zJ sh l yJ7_fill_fda19 cJ7_fill_fda19 5 none (rmL 1) 0 0 (zqv fun h' => h' = zfill h1 c0 a b v) 0 0 10 [some (.inr c0), some (.inl a), some (.inl b), some (.inl v), some (.inl i)] [] g := by
    intro n
    induction n with
    | zero => intro i g q1 q2 q3; exact absurd q3 (Nat.not_lt_zero _)
    | succ n ih =>
      intro i g q1 q2 q3
      have hg : g.1 = h1.1 := by rw [q2]; rfl
      refine zj_iload (zdk ttJ7_fill_fda19 7 rfl rfl) rfl ?_
      refine zj_iload_n (zdk ttJ7_fill_fda19 8 rfl rfl) rfl ?_
      refine zj_icmp_ge (t := 27) (zdk ttJ7_fill_fda19 9 rfl rfl) (by decide) (by omega) (by omega) (fun c => ?_) (fun c => ?_)
      · exact zj_vret rfl (zdk ttJ7_fill_fda19 16 rfl rfl) (Nat.le_refl _) (Nat.le_refl _) ⟨rfl, by rw [q2]; congr 1; omega⟩
      · refine zj_aload_n (zdk ttJ7_fill_fda19 10 rfl rfl) rfl (by omega) ?_
        refine zj_iload (zdk ttJ7_fill_fda19 11 rfl rfl) rfl ?_
        refine zj_iload_n (zdk ttJ7_fill_fda19 12 rfl rfl) rfl ?_
        refine zj_iast (zdk ttJ7_fill_fda19 13 rfl rfl) ⟨hs.1, hs.2.1, by rw [hg]; exact hs.2.2⟩ hN (by omega) (fun g2 e => ?_)
        refine zj_iinc (L' := [some (.inr c0), some (.inl a), some (.inl b), some (.inl v), some (.inl (i + 1))]) (zdk ttJ7_fill_fda19 14 rfl rfl) rfl (by decide) rfl ?_
        refine zj_goto (t := 10) (zdk ttJ7_fill_fda19 15 rfl rfl) (by decide) ?_
        exact ih (i + 1) g2 (by omega) (by rw [e, q2, zfill_s q1.1]) (by omega)
  exact lp _ a h1 (by omega) (zfill_0 h1 c0 a v).symm (Nat.lt_succ_self _)
theorem s_J7_fill_53178 (sh : zSh) (l : Launch) (h : zM) (c0 v : Int) {N : Nat} (hs : sh c0 = .inr (0, N) ∧ 0 ≤ c0 ∧ c0 < h.1) (hN : N < 2147483648) : zT sh l yJ7_fill_53178 cJ7_fill_53178 4 none (rmL 0) 0 0 [.inr c0, .inl v] h (zqv fun h' => h' = zfill h c0 0 N v) := by
  refine zT_of (by decide +kernel) (L0 := [some (.inr c0), some (.inl v), none, none]) rfl (Nat.le_of_ble_eq_true rfl) ?_
  refine zj_iconst (zdk ttJ7_fill_53178 0 rfl rfl) ?_
  refine zj_istore_n (L' := [some (.inr c0), some (.inl v), some (.inl 0), none]) (zdk ttJ7_fill_53178 1 rfl rfl) (by decide) rfl ?_
  refine zj_aload_n (zdk ttJ7_fill_53178 2 rfl rfl) rfl (by omega) ?_
  refine zj_alen (zdk ttJ7_fill_53178 3 rfl rfl) hs ?_
  refine zj_istore_n (L' := [some (.inr c0), some (.inl v), some (.inl 0), some (.inl N)]) (zdk ttJ7_fill_53178 4 rfl rfl) (by decide) rfl ?_
  have lp : ∀ (n : Nat) (i : Int) (g : zM), 0 ≤ i ∧ i ≤ N → g = zfill h c0 0 i v → (N - i).toNat < n → zJ sh l yJ7_fill_53178 cJ7_fill_53178 4 none (rmL 0) 0 0 (zqv fun h' => h' = zfill h c0 0 N v) 0 0 5 [some (.inr c0), some (.inl v), some (.inl i), some (.inl N)] [] g := by
    intro n
    induction n with
    | zero => intro i g q1 q2 q3; exact absurd q3 (Nat.not_lt_zero _)
    | succ n ih =>
      intro i g q1 q2 q3
      have hg : g.1 = h.1 := by rw [q2]; rfl
      refine zj_iload_n (zdk ttJ7_fill_53178 5 rfl rfl) rfl ?_
      refine zj_iload_n (zdk ttJ7_fill_53178 6 rfl rfl) rfl ?_
      refine zj_icmp_ge (t := 20) (zdk ttJ7_fill_53178 7 rfl rfl) (by decide) (by omega) (by omega) (fun c => ?_) (fun c => ?_)
      · exact zj_vret rfl (zdk ttJ7_fill_53178 14 rfl rfl) (Nat.le_refl _) (Nat.le_refl _) ⟨rfl, by rw [q2]; congr 1; omega⟩
      · refine zj_aload_n (zdk ttJ7_fill_53178 8 rfl rfl) rfl (by omega) ?_
        refine zj_iload_n (zdk ttJ7_fill_53178 9 rfl rfl) rfl ?_
        refine zj_iload_n (zdk ttJ7_fill_53178 10 rfl rfl) rfl ?_
        refine zj_iast (zdk ttJ7_fill_53178 11 rfl rfl) ⟨hs.1, hs.2.1, by rw [hg]; exact hs.2.2⟩ hN (by omega) (fun g2 e => ?_)
        refine zj_iinc (L' := [some (.inr c0), some (.inl v), some (.inl (i + 1)), some (.inl N)]) (zdk ttJ7_fill_53178 12 rfl rfl) rfl (by decide) rfl ?_
        refine zj_goto (t := 5) (zdk ttJ7_fill_53178 13 rfl rfl) (by decide) ?_
        exact ih (i + 1) g2 (by omega) (by rw [e, q2, zfill_s q1.1]) (by omega)
  exact lp _ 0 h (by omega) (zfill_0 h c0 0 v).symm (Nat.lt_succ_self _)
theorem s_J6_bitCount_0f7a4 (sh : zSh) (l : Launch) (h : zM) (x : Int) : zT sh l yJ6_bitCount_0f7a4 cJ6_bitCount_0f7a4 1 (some .int) (rmL 0) 0 0 [.inl x] h (zqi fun v h' => h = h' ∧ 0 ≤ v ∧ v ≤ 63) := by
  refine zT_of (by decide +kernel) (L0 := [some (.inl x)]) rfl (Nat.le_of_ble_eq_true rfl) ?_
  refine zj_iload_n (zdk ttJ6_bitCount_0f7a4 0 rfl rfl) rfl ?_
  refine zj_iload_n (zdk ttJ6_bitCount_0f7a4 1 rfl rfl) rfl ?_
  refine zj_iconst (zdk ttJ6_bitCount_0f7a4 2 rfl rfl) ?_
  refine zj_iushr (zdk ttJ6_bitCount_0f7a4 3 rfl rfl) ?_
  refine zj_ldc_w (z := 1431655765) (zdk ttJ6_bitCount_0f7a4 4 rfl rfl) wc_RJ6_265 ?_
  refine zj_iand (zdk ttJ6_bitCount_0f7a4 5 rfl rfl) ?_
  refine zj_isub (zdk ttJ6_bitCount_0f7a4 6 rfl rfl) ?_
  refine zj_istore_n (L' := [some (.inl (x - (zand (zushr x 1) 1431655765)))]) (zdk ttJ6_bitCount_0f7a4 7 rfl rfl) (by decide) rfl ?_
  generalize (x - (zand (zushr x 1) 1431655765)) = x8
  refine zj_iload_n (zdk ttJ6_bitCount_0f7a4 8 rfl rfl) rfl ?_
  refine zj_ldc_w (z := 858993459) (zdk ttJ6_bitCount_0f7a4 9 rfl rfl) wc_RJ6_266 ?_
  refine zj_iand (zdk ttJ6_bitCount_0f7a4 10 rfl rfl) ?_
  refine zj_iload_n (zdk ttJ6_bitCount_0f7a4 11 rfl rfl) rfl ?_
  refine zj_iconst (zdk ttJ6_bitCount_0f7a4 12 rfl rfl) ?_
  refine zj_iushr (zdk ttJ6_bitCount_0f7a4 13 rfl rfl) ?_
  refine zj_ldc_w (z := 858993459) (zdk ttJ6_bitCount_0f7a4 14 rfl rfl) wc_RJ6_266 ?_
  refine zj_iand (zdk ttJ6_bitCount_0f7a4 15 rfl rfl) ?_
  refine zj_iadd (zdk ttJ6_bitCount_0f7a4 16 rfl rfl) ?_
  refine zj_istore_n (L' := [some (.inl ((zand x8 858993459) + (zand (zushr x8 2) 858993459)))]) (zdk ttJ6_bitCount_0f7a4 17 rfl rfl) (by decide) rfl ?_
  generalize ((zand x8 858993459) + (zand (zushr x8 2) 858993459)) = x19
  refine zj_iload_n (zdk ttJ6_bitCount_0f7a4 18 rfl rfl) rfl ?_
  refine zj_iload_n (zdk ttJ6_bitCount_0f7a4 19 rfl rfl) rfl ?_
  refine zj_iconst (zdk ttJ6_bitCount_0f7a4 20 rfl rfl) ?_
  refine zj_iushr (zdk ttJ6_bitCount_0f7a4 21 rfl rfl) ?_
  refine zj_iadd (zdk ttJ6_bitCount_0f7a4 22 rfl rfl) ?_
  refine zj_ldc_w (z := 252645135) (zdk ttJ6_bitCount_0f7a4 23 rfl rfl) wc_RJ6_267 ?_
  refine zj_iand (zdk ttJ6_bitCount_0f7a4 24 rfl rfl) ?_
  refine zj_istore_n (L' := [some (.inl (zand (x19 + (zushr x19 4)) 252645135))]) (zdk ttJ6_bitCount_0f7a4 25 rfl rfl) (by decide) rfl ?_
  generalize (zand (x19 + (zushr x19 4)) 252645135) = x28
  refine zj_iload_n (zdk ttJ6_bitCount_0f7a4 26 rfl rfl) rfl ?_
  refine zj_iload_n (zdk ttJ6_bitCount_0f7a4 27 rfl rfl) rfl ?_
  refine zj_bipush (zdk ttJ6_bitCount_0f7a4 28 rfl rfl) (by decide) ?_
  refine zj_iushr (zdk ttJ6_bitCount_0f7a4 29 rfl rfl) ?_
  refine zj_iadd (zdk ttJ6_bitCount_0f7a4 30 rfl rfl) ?_
  refine zj_istore_n (L' := [some (.inl (x28 + (zushr x28 8)))]) (zdk ttJ6_bitCount_0f7a4 31 rfl rfl) (by decide) rfl ?_
  generalize (x28 + (zushr x28 8)) = x35
  refine zj_iload_n (zdk ttJ6_bitCount_0f7a4 32 rfl rfl) rfl ?_
  refine zj_iload_n (zdk ttJ6_bitCount_0f7a4 33 rfl rfl) rfl ?_
  refine zj_bipush (zdk ttJ6_bitCount_0f7a4 34 rfl rfl) (by decide) ?_
  refine zj_iushr (zdk ttJ6_bitCount_0f7a4 35 rfl rfl) ?_
  refine zj_iadd (zdk ttJ6_bitCount_0f7a4 36 rfl rfl) ?_
  refine zj_istore_n (L' := [some (.inl (x35 + (zushr x35 16)))]) (zdk ttJ6_bitCount_0f7a4 37 rfl rfl) (by decide) rfl ?_
  generalize (x35 + (zushr x35 16)) = x42
  refine zj_iload_n (zdk ttJ6_bitCount_0f7a4 38 rfl rfl) rfl ?_
  refine zj_bipush (zdk ttJ6_bitCount_0f7a4 39 rfl rfl) (by decide) ?_
  refine zj_iand (zdk ttJ6_bitCount_0f7a4 40 rfl rfl) ?_
  exact zj_iret rfl (zdk ttJ6_bitCount_0f7a4 41 rfl rfl) (Nat.le_refl _) (Nat.le_refl _) ⟨(zand x42 63), rfl, rfl, by have := zand_m (d := 64) 6 (by decide) (c := 63) (by decide) (by decide) x42; omega⟩
end
section
def zm_max (a b : Int) : Int := if a < b then b else a
def zm_min (a b : Int) : Int := if a < b then a else b
theorem zm_max_f (a b : Int) : (zm_max a b = a ∧ b ≤ a) ∨ (zm_max a b = b ∧ a ≤ b) := by unfold zm_max; split <;> omega
theorem zm_min_f (a b : Int) : (zm_min a b = a ∧ a ≤ b) ∨ (zm_min a b = b ∧ b ≤ a) := by unfold zm_min; split <;> omega
section ZR2
variable {sh : zSh} {l : Launch} {y : MethodName} {cc : ByteArray} {nL : Nat} {ret : Option FieldType} {R : Room} {mc ms : Nat} {Q : Option zV → zM → Prop} {u1 u2 pc n : Nat} {L : List (Option zV)} {st : List zV} {h : zM}
def zM_max (own : String) (idx : Nat) : Prop := Cond.methodLink own idx Lib.Math.max.name ∈ zt ∧ Cond.static Lib.Math.max.name ∈ zt ∧ Cond.initialized "java/lang/Math" ∈ zt ∧ Cond.code Lib.Math.max.name Lib.Math.max.code 2 (some .int) ∈ zt
def zM_min (own : String) (idx : Nat) : Prop := Cond.methodLink own idx Lib.Math.min.name ∈ zt ∧ Cond.static Lib.Math.min.name ∈ zt ∧ Cond.initialized "java/lang/Math" ∈ zt ∧ Cond.code Lib.Math.min.name Lib.Math.min.code 2 (some .int) ∈ zt
def zM_abs (own : String) (idx : Nat) : Prop := Cond.methodLink own idx Lib.Math.abs.name ∈ zt ∧ Cond.static Lib.Math.abs.name ∈ zt ∧ Cond.initialized "java/lang/Math" ∈ zt ∧ Cond.code Lib.Math.abs.name Lib.Math.abs.code 1 (some .int) ∈ zt
theorem zi_max {a b : Int} (ha : zin a) (hb : zin b) : (if Int32.ofInt a < Int32.ofInt b then Int32.ofInt b else Int32.ofInt a) = Int32.ofInt (zm_max a b) := by
  by_cases q : a < b
  · rw [if_pos ((zin_lt ha hb).mpr q)]; congr 1; unfold zm_max; rw [if_pos q]
  · rw [if_neg (fun z => q ((zin_lt ha hb).mp z))]; congr 1; unfold zm_max; rw [if_neg q]
theorem zj_max {a b : Int} {idx : Nat} (hd : zd cc pc (.invokestatic idx) 3 n) (hm : zM_max y.cls idx) (ha : zin a) (hb2 : zin b) (hst : st.length ≤ 8) (hR : (1 ≤ R.frames ∧ 40 ≤ R.locals) ∧ u1 ≤ R.cells ∧ u2 ≤ R.slots) (kk : zJ sh l y cc nL ret R mc ms Q u1 u2 n L (.inl (zm_max a b) :: st) h) : zJ sh l y cc nL ret R mc ms Q u1 u2 pc L (.inl b :: .inl a :: st) h := by
  intro D g p e s m args below meth c A H locs ls X I Z
  have X0 := X
  obtain ⟨hx, hb, hml, hr, hown, hts, hlk, hK, hnm, hA, hZs⟩ := X0
  obtain ⟨hP, hD, hS, hg⟩ := id I
  have h8 := z_cat g.1 st hst
  refine va_mmax hx hb (by rw [hml]; exact Z.2.1.symm) hown (hts _ hm.1) (hts _ hm.2.1) (hts _ hm.2.2.1) (hts _ hm.2.2.2) hR.1.1 (by omega) hR.2.1 hR.2.2 hd.1 ?_
  have K := kk D g p e s m args below meth c A H locs ls X I Z
  rw [← hd.2, List.map_cons] at K
  have e9 := zi_max ha hb2
  first
    | (rw [e9]; exact K)
    | (have e8 : (if Int32.ofInt b < Int32.ofInt a then Int32.ofInt b else Int32.ofInt a) = Int32.ofInt (zm_max a b) := by
        by_cases q : b < a
        · rw [if_pos ((zin_lt hb2 ha).mpr q)]; congr 1; have := zm_max_f a b; omega
        · rw [if_neg (fun z => q ((zin_lt hb2 ha).mp z))]; congr 1; have := zm_max_f a b; omega
       rw [e8]; exact K)
theorem zi_min {a b : Int} (ha : zin a) (hb : zin b) : (if Int32.ofInt a < Int32.ofInt b then Int32.ofInt a else Int32.ofInt b) = Int32.ofInt (zm_min a b) := by
  by_cases q : a < b
  · rw [if_pos ((zin_lt ha hb).mpr q)]; congr 1; unfold zm_min; rw [if_pos q]
  · rw [if_neg (fun z => q ((zin_lt ha hb).mp z))]; congr 1; unfold zm_min; rw [if_neg q]
theorem zj_min {a b : Int} {idx : Nat} (hd : zd cc pc (.invokestatic idx) 3 n) (hm : zM_min y.cls idx) (ha : zin a) (hb2 : zin b) (hst : st.length ≤ 8) (hR : (1 ≤ R.frames ∧ 40 ≤ R.locals) ∧ u1 ≤ R.cells ∧ u2 ≤ R.slots) (kk : zJ sh l y cc nL ret R mc ms Q u1 u2 n L (.inl (zm_min a b) :: st) h) : zJ sh l y cc nL ret R mc ms Q u1 u2 pc L (.inl b :: .inl a :: st) h := by
  intro D g p e s m args below meth c A H locs ls X I Z
  have X0 := X
  obtain ⟨hx, hb, hml, hr, hown, hts, hlk, hK, hnm, hA, hZs⟩ := X0
  obtain ⟨hP, hD, hS, hg⟩ := id I
  have h8 := z_cat g.1 st hst
  refine va_mmin hx hb (by rw [hml]; exact Z.2.1.symm) hown (hts _ hm.1) (hts _ hm.2.1) (hts _ hm.2.2.1) (hts _ hm.2.2.2) hR.1.1 (by omega) hR.2.1 hR.2.2 hd.1 ?_
  have K := kk D g p e s m args below meth c A H locs ls X I Z
  rw [← hd.2, List.map_cons] at K
  have e9 := zi_min ha hb2
  first
    | (rw [e9]; exact K)
    | (have e8 : (if Int32.ofInt b < Int32.ofInt a then Int32.ofInt b else Int32.ofInt a) = Int32.ofInt (zm_min a b) := by
        by_cases q : b < a
        · rw [if_pos ((zin_lt hb2 ha).mpr q)]; congr 1; have := zm_min_f a b; omega
        · rw [if_neg (fun z => q ((zin_lt hb2 ha).mp z))]; congr 1; have := zm_min_f a b; omega
       rw [e8]; exact K)
theorem zj_abs {a : Int} {idx : Nat} (hd : zd cc pc (.invokestatic idx) 3 n) (hm : zM_abs y.cls idx) (ha : zin a) (hst : st.length ≤ 8) (hR : (1 ≤ R.frames ∧ 40 ≤ R.locals) ∧ u1 ≤ R.cells ∧ u2 ≤ R.slots) (kk : zJ sh l y cc nL ret R mc ms Q u1 u2 n L (.inl (a.natAbs : Int) :: st) h) : zJ sh l y cc nL ret R mc ms Q u1 u2 pc L (.inl a :: st) h := by
  intro D g p e s m args below meth c A H locs ls X I Z
  have X0 := X
  obtain ⟨hx, hb, hml, hr, hown, hts, hlk, hK, hnm, hA, hZs⟩ := X0
  obtain ⟨hP, hD, hS, hg⟩ := id I
  have h8 := z_cat g.1 st hst
  refine va_mabs hx hb (by rw [hml]; exact Z.2.1.symm) hown (hts _ hm.1) (hts _ hm.2.1) (hts _ hm.2.2.1) (hts _ hm.2.2.2) hR.1.1 (by omega) hR.2.1 hR.2.2 hd.1 ?_
  have K := kk D g p e s m args below meth c A H locs ls X I Z
  rw [← hd.2, List.map_cons] at K
  have hlt : 0 ≤ Int32.ofInt a ↔ 0 ≤ a := zin_le zin_0 ha
  have e9 : (if 0 ≤ Int32.ofInt a then Int32.ofInt a else 0 - Int32.ofInt a) = Int32.ofInt (a.natAbs : Int) := by
    by_cases q : 0 ≤ a
    · rw [if_pos (hlt.mpr q)]; congr 1; omega
    · rw [if_neg (fun z => q (hlt.mp z))]
      have : (0 : Int32) - Int32.ofInt a = Int32.ofInt (0 - a) := (Int32.ofInt_sub 0 a).symm
      rw [this]; congr 1; omega
  rw [e9]; exact K
def zMC (own : String) (idx : Nat) : Prop := Cond.methodLink own idx arraycopyName ∈ zt ∧ Cond.native arraycopyName ∈ zt ∧ Cond.static arraycopyName ∈ zt ∧ Cond.initialized "java/lang/System" ∈ zt
def zcp (h : zM) (c0 sp c1 dp k : Int) : zM := (h.1, fun a b => if a = c1 ∧ dp ≤ b ∧ b < dp + k then h.2 c0 (sp + (b - dp)) else h.2 a b)
theorem z_copy {p : Program} {l : Launch} {e : Env} {R : Room} {s : State} {m : MethodId} {args : Array Value} {below : List Frame} {meth : Method} {c : Code} {H : Heap} {locs : List Loc} {cells slots : Nat} {Q : State → Prop} {cc : ByteArray} {pc : Nat} {ls : Array Slot} {rest : List Value} {D : va_G} {cl : List vw_C} {A : Nat → Prop} {a : Nat} {tys : List (ClassId × FieldType)} {ws : va_W} {H0 : Heap}
    (hexec : p.tables.exec = Jvm.exec) (hb : c.code = cc) (hml : c.maxLocals = ls.size) {own : String} {index : Nat} (hown : s.vm.findClass own = some m.cls) (hlink : (Cond.methodLink own index arraycopyName).before args s = true) (hnat : (Cond.native arraycopyName).before args s = true) (hstat : (Cond.static arraycopyName).before args s = true) (hini : (Cond.initialized "java/lang/System").before args s = true)
    (hK : va_K D cl tys s) (hP : va_P D cl ws H) (hD : va_D A ws) (hS : va_S A H0 H locs) (q0 q1 t0 : Nat) {a0 : Nat} {c0 : ClassId} {n0 n1 : Nat} {f g : Nat → Int32} (ha0 : ws[q0]? = some (a0, .inl (c0, n0, .inl f))) (ha1 : ws[q1]? = some (a, .inl (c0, n1, .inl g))) (ht0 : tys[t0]? = some (c0, .int))
    {sp dp k : Int32} (h1 : ¬ sp < 0) (h2 : ¬ dp < 0) (h3 : ¬ k < 0) (h4 : sp.toNatClampNeg + k.toNatClampNeg ≤ n0) (h5 : dp.toNatClampNeg + k.toNatClampNeg ≤ n1)
    (hframes : 1 ≤ R.frames) (hlocals : (rest.map fun v => v.category).sum + (nativeFrameWords "java/lang/System" "arraycopy" 5 + 11) ≤ R.locals) (hdg : decode cc pc = .ok (.invokestatic index, 3))
    (kk : ∀ (H1 : Heap) (locs1 : List Loc), va_P D cl (ws.set q1 (a, .inl (c0, n1, .inl (va_cpy f g sp.toNatClampNeg dp.toNatClampNeg k.toNatClampNeg)))) H1 → va_D A (ws.set q1 (a, .inl (c0, n1, .inl (va_cpy f g sp.toNatClampNeg dp.toNatClampNeg k.toNatClampNeg)))) → va_S A H0 H1 locs1 → H1.size = H.size → W p l e R s m args below meth c H1 locs1 cells slots Q (F0 m (pc + 3) ls rest)) : W p l e R s m args below meth c H locs cells slots Q (F0 m pc ls (.int k :: .int dp :: .ref a :: .int sp :: .ref a0 :: rest)) := by
  have nn : ∀ z : Int32, ¬ z < 0 → z.toInt = (z.toNatClampNeg : Int) := by
    intro z hz
    have hz0 : (0 : Int) ≤ z.toInt := by
      have := Int32.not_lt.mp hz
      simpa using Int32.le_iff_toInt_le.mp this
    show z.toInt = ((z.toInt.toNat : Nat) : Int)
    omega
  intro T hT X
  have hc0 : H[a0]? = some (vp_cell c0 (n0, .inl f)) := hP q0 _ ha0
  have hc1 : H[a]? = some (vp_cell c0 (n1, .inl g)) := hP q1 _ ha1
  obtain ⟨-, k0, hk0, cm0, hkk0⟩ := (hK.2 t0 _ ht0).1 n0 (fun j => .int (f j))
  obtain ⟨-, k1, hk1, cm1, hkk1⟩ := (hK.2 t0 _ ht0).1 n1 (fun j => .int (g j))
  obtain ⟨vm', X', step⟩ := X.arraycopy hexec hown hlink hnat hstat hini (src := a0) (dst := a) (cs := vp_cell c0 (n0, .inl f)) (cd := vp_cell c0 (n1, .inl g)) (srcPos := sp) (destPos := dp) (n := k) (by rw [hT]; exact hc0) (by rw [hT]; exact hc1)
    (fun _ h => by cases h) (fun _ h => by cases h) (fun h => by cases h) (fun h => by cases h) hk0 hk1 hkk0 hkk1 (by simp [refKind]) h1 h2 h3
    (by rw [nn sp h1, nn k h3]; show ¬ _ > ((arrV c0 n0 (fun j => .int (f j))).slots.size : Int); rw [arrV_size]; omega)
    (by rw [nn dp h2, nn k h3]; show ¬ _ > ((arrV c0 n1 (fun j => .int (g j))).slots.size : Int); rw [arrV_size]; omega)
    (fun vm₁ _ i hi => by
      have e : (vp_cell c0 (n0, .inl f)).slots.getD (sp.toNatClampNeg + i) .null = .int (f (sp.toNatClampNeg + i)) := by
        show (arrV c0 n0 (fun j => .int (f j))).slots.getD _ _ = _
        rw [Array.getD_eq_getD_getElem?, arrV_read _ _ (by omega)]
        rfl
      refine ⟨?_, ?_⟩
      · rw [e]; rfl
      · rw [e]; exact trivial)
    (g := F0 m pc ls (.int k :: .int dp :: .ref a :: .int sp :: .ref a0 :: rest)) rfl (by rw [hml]) (rest := rest) rfl (by rw [hb]; exact hdg) hframes (by show 2 * 0 + _ + _ ≤ _; omega)
  have e1 : copied (vp_cell c0 (n0, .inl f)) (vp_cell c0 (n1, .inl g)) sp dp k = vp_cell c0 (n1, .inl (va_cpy f g sp.toNatClampNeg dp.toNatClampNeg k.toNatClampNeg)) := va_copied (fun z => .int z) c0 c0 f g h4
  rw [e1] at X' step
  have hl : a < H.size := (Array.getElem?_eq_some_iff.mp hc1).1
  have hheap : ((T.setVm vm').setCell a (vp_cell c0 (n1, .inl (va_cpy f g sp.toNatClampNeg dp.toNatClampNeg k.toNatClampNeg)))).heap = H.setIfInBounds a (vp_cell c0 (n1, .inl (va_cpy f g sp.toNatClampNeg dp.toNatClampNeg k.toNatClampNeg))) := by rw [← hT]; rfl
  have oq : ∀ q : Nat, q ≠ a → (H.setIfInBounds a (vp_cell c0 (n1, .inl (va_cpy f g sp.toNatClampNeg dp.toNatClampNeg k.toNatClampNeg))))[q]? = H[q]? := fun q hq => by simp [Array.getElem?_setIfInBounds, Ne.symm hq]
  obtain ⟨t, a1, b1⟩ := kk _ _ (hP.set hD ha1 (show (H.setIfInBounds a _)[a]? = some _ by simp [Array.getElem?_setIfInBounds, hl]) oq) (hD.set ha1) ⟨by simp; exact hS.1, fun q g1 g2 => by
      rw [oq q (fun e => g2 (by rw [e]; exact hD.2 q1 _ ha1))]
      exact hS.2.1 q g1 g2, fun q hq => by
      rcases List.mem_append.mp hq with h | h
      · exact hS.2.2 q h
      · obtain ⟨z, -, hz⟩ := List.mem_map.mp h
        rw [← hz]
        exact hD.2 q1 _ ha1⟩ (by simp) _ hheap X'
  exact ⟨t, step t a1, b1⟩
theorem z_aast {p : Program} {l : Launch} {e : Env} {R : Room} {s : State} {m : MethodId} {args : Array Value} {below : List Frame} {meth : Method} {c : Code} {H : Heap} {locs : List Loc} {cells slots : Nat} {Q : State → Prop} {cc : ByteArray} {pc : Nat} {ls : Array Slot} {rest : List Value} {D : va_G} {cl : List vw_C} {A : Nat → Prop} {a : Nat} {tys : List (ClassId × FieldType)} {ws : va_W} {H0 : Heap}
    (hexec : p.tables.exec = Jvm.exec) (hb : c.code = cc) (hK : va_K D cl tys s) (hP : va_P D cl ws H) (hD : va_D A ws) (hS : va_S A H0 H locs) (q0 t0 qk ci : Nat) {cA : ClassId} {r : vw_C} {k v : Nat} {vs : List Value} {f : Nat → Option Nat} (ha : ws[q0]? = some (a, .inl (cA, k, .inr (.inr (.inr (.inr f)))))) (ht : tys[t0]? = some (cA, .object r.1)) (hv : ws[qk]? = some (v, .inr (ci, vs))) (hc : cl[ci]? = some r) {i : Int32} (hin : vp_in i k) (hdg : decode cc pc = .ok (.aastore, 1))
    (kk : ∀ (H1 : Heap) (locs1 : List Loc), va_P D cl (ws.set q0 (a, .inl (cA, k, .inr (.inr (.inr (.inr (va_up f i.toNatClampNeg (some v)))))))) H1 → va_D A (ws.set q0 (a, .inl (cA, k, .inr (.inr (.inr (.inr (va_up f i.toNatClampNeg (some v)))))))) → va_S A H0 H1 locs1 → H1.size = H.size → W p l e R s m args below meth c H1 locs1 cells slots Q (F0 m (pc + 1) ls rest)) : W p l e R s m args below meth c H locs cells slots Q (F0 m pc ls (.ref v :: .int i :: .ref a :: rest)) := by
  have hlt : i.toNatClampNeg < k := Nat.not_le.mp fun q => hin (Or.inr q)
  have h0 : ¬ i < 0 := fun q => hin (Or.inl q)
  obtain ⟨r', hr', cellV, g1, g2, g3, -⟩ := hP qk _ hv
  have hcls := (hK.1 ci r hc).2
  obtain ⟨kA, comp, k1, k2, k3, -⟩ := (hK.2 t0 _ ht).2
  have hcomp : comp = D.1 ci := Option.some.inj (k3.symm.trans hcls.1)
  subst hcomp
  obtain ⟨kC, hkC, -⟩ := hcls.2
  refine W.aast hexec hb (hP q0 _ ha) (fun q h => by cases h) (fun h => by cases h) k1 k2 rfl hkC ⟨h0, by show _ < (arrV _ _ _).slots.size; rw [arrV_size]; exact hlt⟩ g1 (fun q h => by rw [g3] at h; cases h) (by rw [g2]; exact hkC) (by rw [g2]; exact va_assign hcls) rfl rfl hdg fun H1 e z oq => ?_
  refine kk H1 _ (hP.set hD ha ?_ oq) (hD.set ha) (hS.put z oq (hD.2 q0 _ ha)) z
  show H1[a]? = some (vp_cell _ _)
  rw [e]
  rw [vp_cell_q, vp_cell_q, arrV_store]
  congr 2
  funext q
  by_cases hq : q = i.toNatClampNeg
  · subst hq
    simp [updV, va_up, va_rf]
  · simp [updV, va_up, hq]
theorem zj_aast {c0 i v0 : Int} {N : Nat} (hd : zd cc pc .aastore 1 n) (hsc : sh c0 = .inr (2, N) ∧ 0 ≤ c0 ∧ c0 < h.1) (hN : N < 2147483648) (hi : 0 ≤ i ∧ i < N) (hv : sh v0 = .inl 1 ∧ 0 ≤ v0 ∧ v0 < h.1) (kk : ∀ h', h' = zwr h c0 i v0 → zJ sh l y cc nL ret R mc ms Q u1 u2 n L st h') : zJ sh l y cc nL ret R mc ms Q u1 u2 pc L (.inr v0 :: .inl i :: .inr c0 :: st) h := by
  intro D g p e s m args below meth c A H locs ls X I Z
  have X0 := X
  obtain ⟨hx, hb, hml, hr, hown, hts, hlk, hK, hnm, hA, hZs⟩ := X0
  obtain ⟨hP, hD, hS, hg⟩ := id I
  obtain ⟨hs, hc⟩ := hsc
  obtain ⟨cn, rfl⟩ : ∃ cn : Nat, c0 = cn := ⟨c0.toNat, by omega⟩
  obtain ⟨vn, rfl⟩ : ∃ cn : Nat, v0 = cn := ⟨v0.toNat, by omega⟩
  have hP1 := zw_at sh g h (c := cn) (by omega)
  have hP2 := zw_at sh g h (c := vn) (by omega)
  rw [zc_ra hs] at hP1
  rw [zc_obj hv.1] at hP2
  obtain ⟨z1, z2⟩ := zix hi hN
  rw [List.map_cons, List.map_cons, List.map_cons, zv_ref _ (show ¬ (cn : Int) = -1 by omega), zv_ref _ (show ¬ (vn : Int) = -1 by omega)]
  refine z_aast hx hb hK hP hD hS cn 2 vn 1 hP1 rfl hP2 rfl z1 hd.1 (fun H1 locs1 hP3 hD3 hS3 hz => ?_)
  have ef : va_up (fun (j : Nat) => zo g.1 (h.2 cn j)) (Int32.ofInt i).toNatClampNeg (some (g.1 vn)) = fun (j : Nat) => zo g.1 ((zwr h cn i vn).2 cn j) := by
    funext j
    rw [z2]
    unfold va_up
    by_cases hj : j = i.toNat
    · rw [if_pos hj, show (j : Int) = i by omega, zwr_s]
      exact (if_neg (by omega)).symm
    · rw [if_neg hj, zwr_n (by omega)]
  rw [ef, zw_set (h := h) (h' := zwr h cn i vn) (by omega) rfl (fun a b z => zwr_n (fun e => z e.1)) (zc_ra hs)] at hP3 hD3
  have K := kk _ rfl D g p e s m args below meth c A H1 locs1 ls X ⟨hP3, hD3, hS3, by rw [hz]; exact hg⟩ Z
  rw [← hd.2] at K
  exact K
theorem zj_copy {c0 c1 sp dp k : Int} {idx N0 N1 : Nat} (hd : zd cc pc (.invokestatic idx) 3 n) (hm : zMC y.cls idx) (hs0 : sh c0 = .inr (0, N0) ∧ 0 ≤ c0 ∧ c0 < h.1) (hs1 : sh c1 = .inr (0, N1) ∧ 0 ≤ c1 ∧ c1 < h.1) (hN : N0 < 2147483648 ∧ N1 < 2147483648) (h1 : 0 ≤ sp ∧ 0 ≤ dp ∧ 0 ≤ k) (h2 : sp + k ≤ N0) (h3 : dp + k ≤ N1) (hst : st.length ≤ 8) (hR : 1 ≤ R.frames ∧ 60 ≤ R.locals) (kk : ∀ h', h' = zcp h c0 sp c1 dp k → zJ sh l y cc nL ret R mc ms Q u1 u2 n L st h') : zJ sh l y cc nL ret R mc ms Q u1 u2 pc L (.inl k :: .inl dp :: .inr c1 :: .inl sp :: .inr c0 :: st) h := by
  intro D g p e s m args below meth c A H locs ls X I Z
  have X0 := X
  obtain ⟨hx, hb, hml, hr, hown, hts, hlk, hK, hnm, hA, hZs⟩ := X0
  obtain ⟨hP, hD, hS, hg⟩ := id I
  obtain ⟨n0, rfl⟩ : ∃ cn : Nat, c0 = cn := ⟨c0.toNat, by omega⟩
  obtain ⟨n1, rfl⟩ : ∃ cn : Nat, c1 = cn := ⟨c1.toNat, by omega⟩
  have hP0 := zw_at sh g h (c := n0) (by omega)
  have hP1 := zw_at sh g h (c := n1) (by omega)
  rw [zc_ia hs0.1] at hP0
  rw [zc_ia hs1.1] at hP1
  have cl : ∀ z : Int, 0 ≤ z → z ≤ 2147483647 → ¬ Int32.ofInt z < 0 ∧ (Int32.ofInt z).toNatClampNeg = z.toNat := fun z q1 q2 => ⟨fun q => by have := (zin_lt (by omega) zin_0).mp q; omega, by show (Int32.ofInt z).toInt.toNat = _; rw [zin_i (by omega)]⟩
  obtain ⟨p1, p2⟩ := cl sp h1.1 (by omega)
  obtain ⟨p3, p4⟩ := cl dp h1.2.1 (by omega)
  obtain ⟨p5, p6⟩ := cl k h1.2.2 (by omega)
  have h8 := z_cat g.1 st hst
  rw [List.map_cons, List.map_cons, List.map_cons, List.map_cons, List.map_cons, zv_ref _ (show ¬ (n0 : Int) = -1 by omega), zv_ref _ (show ¬ (n1 : Int) = -1 by omega)]
  have hnw : nativeFrameWords "java/lang/System" "arraycopy" 5 ≤ 40 := by decide
  refine z_copy hx hb (by rw [hml]; exact Z.2.1.symm) hown (hts _ hm.1) (hts _ hm.2.1) (hts _ hm.2.2.1) (hts _ hm.2.2.2) hK hP hD hS n0 n1 0 hP0 hP1 rfl p1 p3 p5 (by rw [p2, p6]; omega) (by rw [p4, p6]; omega) hR.1 (by omega) hd.1 (fun H1 locs1 hP2 hD2 hS2 hz => ?_)
  have ef : va_cpy (fun (j : Nat) => Int32.ofInt (h.2 n0 j)) (fun (j : Nat) => Int32.ofInt (h.2 n1 j)) (Int32.ofInt sp).toNatClampNeg (Int32.ofInt dp).toNatClampNeg (Int32.ofInt k).toNatClampNeg = fun (j : Nat) => Int32.ofInt ((zcp h n0 sp n1 dp k).2 n1 j) := by
    funext j
    rw [p2, p4, p6]
    unfold va_cpy zcp
    dsimp only
    by_cases q : dp.toNat ≤ j ∧ j < dp.toNat + k.toNat
    · rw [if_pos q, if_pos (by omega), show ((sp.toNat + (j - dp.toNat) : Nat) : Int) = sp + ((j : Int) - dp) by omega]
    · rw [if_neg q, if_neg (by omega)]
  rw [ef, zw_set (h := h) (h' := zcp h n0 sp n1 dp k) (by omega) rfl (fun a b z => if_neg (fun e => z e.1)) (zc_ia hs1.1)] at hP2 hD2
  have K := kk _ rfl D g p e s m args below meth c A H1 locs1 ls X ⟨hP2, hD2, hS2, by rw [hz]; exact hg⟩ Z
  rw [← hd.2] at K
  exact K
end ZR2
theorem mc_RX1_55 : zMC RX1 55 := ⟨zt_a2 226 rfl rfl, zt_a2 228 rfl rfl, zt_a2 227 rfl rfl, zt_a1 13 rfl rfl⟩
theorem mx_RX9_166 : zM_min RX9 166 := ⟨zt_a3 11 rfl rfl, zt_a3 12 rfl rfl, zt_a1 15 rfl rfl, zt_a3 13 rfl rfl⟩
theorem mx_RX9_171 : zM_max RX9 171 := ⟨zt_a3 14 rfl rfl, zt_a3 15 rfl rfl, zt_a1 15 rfl rfl, zt_a3 16 rfl rfl⟩
theorem mx_RJ1_92 : zM_max RJ1 92 := ⟨zt_a3 201 rfl rfl, zt_a3 15 rfl rfl, zt_a1 15 rfl rfl, zt_a3 16 rfl rfl⟩
theorem mx_RJ1_38 : zM_min RJ1 38 := ⟨zt_a3 202 rfl rfl, zt_a3 12 rfl rfl, zt_a1 15 rfl rfl, zt_a3 13 rfl rfl⟩
theorem mx_RJ2_224 : zM_max RJ2 224 := ⟨zt_a3 209 rfl rfl, zt_a3 15 rfl rfl, zt_a1 15 rfl rfl, zt_a3 16 rfl rfl⟩
theorem mx_RJ2_183 : zM_min RJ2 183 := ⟨zt_a3 210 rfl rfl, zt_a3 12 rfl rfl, zt_a1 15 rfl rfl, zt_a3 13 rfl rfl⟩
theorem mc_RX3_39 : zMC RX3 39 := ⟨zt_a4 56 rfl rfl, zt_a2 228 rfl rfl, zt_a2 227 rfl rfl, zt_a1 13 rfl rfl⟩
theorem mc_RX4_25 : zMC RX4 25 := ⟨zt_a4 80 rfl rfl, zt_a2 228 rfl rfl, zt_a2 227 rfl rfl, zt_a1 13 rfl rfl⟩
theorem mc_RX2_19 : zMC RX2 19 := ⟨zt_a4 119 rfl rfl, zt_a2 228 rfl rfl, zt_a2 227 rfl rfl, zt_a1 13 rfl rfl⟩
theorem mc_RX0_26 : zMC RX0 26 := ⟨zt_a4 150 rfl rfl, zt_a2 228 rfl rfl, zt_a2 227 rfl rfl, zt_a1 13 rfl rfl⟩
theorem mc_RX5_44 : zMC RX5 44 := ⟨zt_a4 155 rfl rfl, zt_a2 228 rfl rfl, zt_a2 227 rfl rfl, zt_a1 13 rfl rfl⟩
theorem mx_RX10_348 : zM_min RX10 348 := ⟨zt_a4 176 rfl rfl, zt_a3 12 rfl rfl, zt_a1 15 rfl rfl, zt_a3 13 rfl rfl⟩
theorem mx_RX8_27 : zM_min RX8 27 := ⟨zt_a4 195 rfl rfl, zt_a3 12 rfl rfl, zt_a1 15 rfl rfl, zt_a3 13 rfl rfl⟩
theorem mx_RX5_54 : zM_abs RX5 54 := ⟨zt_a4 217 rfl rfl, zt_a4 218 rfl rfl, zt_a1 15 rfl rfl, zt_a4 219 rfl rfl⟩
theorem mx_RX8_37 : zM_max RX8 37 := ⟨zt_a4 223 rfl rfl, zt_a3 15 rfl rfl, zt_a1 15 rfl rfl, zt_a3 16 rfl rfl⟩
theorem mx_RX8_76 : zM_abs RX8 76 := ⟨zt_a5 112 rfl rfl, zt_a4 218 rfl rfl, zt_a1 15 rfl rfl, zt_a4 219 rfl rfl⟩
end
section
def kCl : List Nat := [10, 9, 1, 20, 21, 22, 3, 23, 24, 25, 26, 27, 28, 4, 29, 30, 31, 4, 29, 30, 31, 2, 32, 0, 33, 34, 35, 36, 5, 37, 38, 39, 40, 41, 42, 9, 1, 20, 21, 22, 3, 23, 24, 25, 26, 27, 28, 4, 29, 30, 31, 4, 29, 30, 31, 2, 32, 0, 33, 34, 35, 36, 5, 37, 38, 39, 40, 41, 42, 9, 1, 20, 21, 22, 3, 23, 24, 25, 26, 27, 28, 4, 29, 30, 31, 4, 29, 30, 31, 2, 32, 0, 33, 34, 35, 36, 5, 37, 38, 39, 40, 41, 42, 6, 43, 44, 45, 7, 8, 46, 47, 48, 49, 50, 51, 52, 1, 20, 21, 22, 1, 20, 21, 22, 1, 20, 21, 22, 1, 20, 21, 22, 1, 20, 21, 22, 1, 20, 21, 22, 53]
def kC (c : Int) : Nat := kCl.getD c.toNat 99
def shKl : List (Nat ⊕ (Nat × Nat)) := [.inl 0, .inl 1, .inl 2, .inl 3, .inl 4, .inl 5, .inl 6, .inl 7, .inl 8, .inl 9, .inl 10, .inl 99, .inl 99, .inl 99, .inl 99, .inl 99, .inl 99, .inl 99, .inl 99, .inl 99, .inr (0, 18), .inr (0, 18), .inr (0, 18), .inr (0, 16), .inr (0, 16), .inr (0, 16), .inr (0, 16), .inr (0, 400), .inr (0, 64), .inr (0, 16), .inr (0, 16), .inr (0, 16), .inr (0, 18), .inr (0, 150), .inr (0, 150), .inr (0, 150), .inr (0, 150), .inr (0, 5), .inr (1, 5), .inr (0, 8), .inr (0, 7), .inr (0, 6), .inr (0, 6), .inr (0, 400), .inr (0, 401), .inr (0, 401), .inr (0, 60), .inr (0, 8), .inr (0, 128), .inr (0, 128), .inr (0, 1984), .inr (2, 6), .inr (0, 6), .inr (0, 10000)]
def shC : zSh := fun c => shKl.getD (kC c) (.inl 99)
def tKl : List (List (Bool × Int × Int) ⊕ (Int × Int)) := [.inl [(true, 1, 1), (true, 2, 2), (true, 3, 3), (true, 4, 4), (false, 0, 150)], .inl [(true, 1, 1), (true, 2, 2), (true, 3, 3), (false, 0, 18), (false, (-2147483648), 2147483647), (false, (-2147483648), 2147483647), (false, 0, 719), (false, (-2147483648), 2147483647), (false, (-2147483648), 2147483647), (false, (-2147483648), 2147483647), (false, (-2147483648), 2147483647), (false, (-2147483648), 2147483647), (false, (-2147483648), 2147483647), (false, (-2147483648), 2147483647)], .inl [(true, 1, 1), (false, (-2147483648), 2147483647)], .inl [(true, 1, 1), (true, 2, 2), (true, 3, 3), (true, 4, 4), (true, 5, 5), (true, 6, 6), (false, 0, 16), (false, 0, 400)], .inl [(true, 1, 1), (true, 2, 2), (true, 3, 3), (false, 0, 16)], .inl [(true, 1, 1), (true, 2, 2), (false, 0, 5), (true, 3, 3), (false, 0, 8), (true, 4, 4), (false, 0, 7), (true, 5, 5), (true, 6, 6), (false, 0, 6)], .inl [(true, 1, 1), (true, 2, 2), (true, 3, 3), (false, 0, 400), (false, 0, 401), (false, 0, 400), (false, (-2147483648), 2147483647), (false, (-2147483648), 2147483647), (false, (-2147483648), 2147483647), (false, (-2147483648), 2147483647)], .inl [(false, 103, 103)], .inl [(true, 1, 1), (true, 2, 2), (true, 3, 3), (true, 4, 4), (true, 5, 5)], .inl [(true, 1, 1), (true, 5, 5), (true, 12, 12), (true, 16, 16), (true, 20, 20), (true, 22, 22), (true, 27, 27)], .inl [(false, 1, 1), (false, 35, 35), (false, 69, 69), (false, 103, 103), (false, 107, 107), (false, 108, 108), (false, 114, 114), (false, 115, 115), (false, 0, 6), (false, 0, 1), (false, -1, 140)], .inr (-2147483648, 2147483647), .inr (-2147483648, 2147483647), .inr (-2147483648, 2147483647), .inr (-2147483648, 2147483647), .inr (-2147483648, 2147483647), .inr (-2147483648, 2147483647), .inr (-2147483648, 2147483647), .inr (-2147483648, 2147483647), .inr (-2147483648, 2147483647), .inr ((-2147483648), 2147483647), .inr ((-2147483648), 2147483647), .inr ((-2147483648), 2147483647), .inr ((-2147483648), 2147483647), .inr (0, 400), .inr (0, 400), .inr (0, 400), .inr ((-2147483648), 2147483647), .inr ((-2147483648), 2147483647), .inr ((-2147483648), 2147483647), .inr ((-2147483648), 2147483647), .inr ((-2147483648), 2147483647), .inr ((-2147483648), 2147483647), .inr ((-2147483648), 2147483647), .inr ((-2147483648), 2147483647), .inr ((-2147483648), 2147483647), .inr ((-2147483648), 2147483647), .inr ((-2147483648), 2147483647), .inr (0, 1), .inr ((-2147483648), 2147483647), .inr ((-2147483648), 2147483647), .inr ((-2147483648), 2147483647), .inr ((-2147483648), 2147483647), .inr (0, 255), .inr ((-2147483648), 2147483647), .inr ((-2147483648), 2147483647), .inr ((-2147483648), 2147483647), .inr ((-2147483648), 2147483647), .inr ((-2147483648), 2147483647), .inr (0, 127), .inr ((-2147483648), 2147483647), .inr (116, 136), .inr (0, 150), .inr ((-2147483648), 2147483647)]
def zb1 (c : Int) (q : Bool × Int × Int) : Int × Int := match q with
  | (true, a, b) => (c + a, c + b)
  | (false, a, b) => (a, b)
def zbo (q : List (Bool × Int × Int) ⊕ (Int × Int)) (c j : Int) : Int × Int := match q with
  | .inl l => zb1 c (l.getD j.toNat (false, -2147483648, 2147483647))
  | .inr b => b
def tK (k : Nat) (c j : Int) : Int × Int := zbo (tKl.getD k (.inr (-2147483648, 2147483647))) c j
def PK (k : Nat) (c j v : Int) : Prop := (tK k c j).1 ≤ v ∧ v ≤ (tK k c j).2
def PC (c j v : Int) : Prop := PK (kC c) c j v
theorem PC_k {c j v : Int} {k : Nat} (hk : kC c = k) (h : PK k c j v) : PC c j v := by unfold PC; rw [hk]; exact h
def zPast (v : Int) : Prop := v = 116 ∨ v = 120 ∨ v = 124 ∨ v = 128 ∨ v = 132 ∨ v = 136
def okC (h : zM) : Prop := 140 ≤ h.1 ∧ (∀ a b : Int, PC a b (h.2 a b)) ∧ (∀ b : Int, 0 ≤ b → b < 6 → zPast (h.2 114 b)) ∧ ((h.2 0 10 = -1 ∧ h.1 = 140) ∨ (h.2 0 10 = 140 ∧ h.1 = 141))
theorem okC_k {h : zM} {c : Int} {k : Nat} (s : okC h) (hk : kC c = k) (j : Int) : PK k c j (h.2 c j) := by rw [← hk]; exact s.2.1 c j
theorem okC_w {h h' : zM} {c k v : Int} (s : okC h) (e : h' = zwr h c k v) (hp : PC c k v) (h1 : ¬ c = 114) (h2 : ¬ (c = 0 ∧ k = 10)) : okC h' := by
  subst e
  refine ⟨s.1, fun a b => ?_, fun b q1 q2 => ?_, ?_⟩
  · by_cases q : a = c ∧ b = k
    · rw [q.1, q.2, zwr_s]; exact hp
    · rw [zwr_n q]; exact s.2.1 a b
  · rw [zwr_n (by omega)]; exact s.2.2.1 b q1 q2
  · rw [zwr_n (by omega)]; exact s.2.2.2
theorem okC_past {h h' : zM} {k v : Int} (s : okC h) (e : h' = zwr h 114 k v) (hv : zPast v) : okC h' := by
  subst e
  refine ⟨s.1, fun a b => ?_, fun b q1 q2 => ?_, ?_⟩
  · by_cases q : a = 114 ∧ b = k
    · rw [q.1, q.2, zwr_s]
      show 116 ≤ v ∧ v ≤ 136
      unfold zPast at hv; omega
    · rw [zwr_n q]; exact s.2.1 a b
  · by_cases q : b = k
    · rw [q, zwr_s]; exact hv
    · rw [zwr_n (by omega)]; exact s.2.2.1 b q1 q2
  · rw [zwr_n (by omega)]; exact s.2.2.2
theorem okC_fill {h h' : zM} {c a b v : Int} (s : okC h) (e : h' = zfill h c a b v) (hp : ∀ j, PC c j v) (h1 : ¬ c = 114) (h2 : ¬ c = 0) : okC h' := by
  subst e
  refine ⟨s.1, fun x y => ?_, fun y q1 q2 => ?_, ?_⟩
  · show PC x y (if x = c ∧ a ≤ y ∧ y < b then v else h.2 x y)
    split
    · rename_i q; rw [q.1]; exact hp y
    · exact s.2.1 x y
  · show zPast (if 114 = c ∧ a ≤ y ∧ y < b then v else h.2 114 y)
    rw [if_neg (by omega)]; exact s.2.2.1 y q1 q2
  · have e9 : (zfill h c a b v).2 0 10 = h.2 0 10 := if_neg (by omega)
    rw [e9]; exact s.2.2.2
theorem okC_cp {h h' : zM} {c0 sp c1 dp k : Int} (s : okC h) (e : h' = zcp h c0 sp c1 dp k) (hp : ∀ j i, PC c1 j (h.2 c0 i)) (h1 : ¬ c1 = 114) (h2 : ¬ c1 = 0) : okC h' := by
  subst e
  refine ⟨s.1, fun x y => ?_, fun y q1 q2 => ?_, ?_⟩
  · show PC x y (if x = c1 ∧ dp ≤ y ∧ y < dp + k then h.2 c0 (sp + (y - dp)) else h.2 x y)
    split
    · rename_i q; rw [q.1]; exact hp y _
    · exact s.2.1 x y
  · show zPast (if 114 = c1 ∧ dp ≤ y ∧ y < dp + k then h.2 c0 (sp + (y - dp)) else h.2 114 y)
    rw [if_neg (by omega)]; exact s.2.2.1 y q1 q2
  · have e9 : (zcp h c0 sp c1 dp k).2 0 10 = h.2 0 10 := if_neg (by omega)
    rw [e9]; exact s.2.2.2
theorem rm_m {d : Nat} (h : 1 ≤ d) : (1 ≤ (rmL d).frames ∧ 40 ≤ (rmL d).locals) ∧ 0 ≤ (rmL d).cells ∧ 0 ≤ (rmL d).slots := ⟨⟨h, by show 40 ≤ 80 * d; omega⟩, Nat.zero_le _, Nat.zero_le _⟩
theorem rm_c {d : Nat} (h : 1 ≤ d) : 1 ≤ (rmL d).frames ∧ 60 ≤ (rmL d).locals := ⟨h, by show 60 ≤ 80 * d; omega⟩
theorem kLc {h : zM} {c : Int} {k : Nat} {x : Nat ⊕ (Nat × Nat)} (s : okC h) (hk : kC c = k) (hs : shKl.getD k (.inl 99) = x) (h0 : 0 ≤ c ∧ c < 140) : shC c = x ∧ 0 ≤ c ∧ c < h.1 := ⟨by unfold shC; rw [hk]; exact hs, h0.1, by have := s.1; omega⟩
def zWd (c : Int) : Prop := c = 1 ∨ c = 35 ∨ c = 69
theorem zWd_1 : zWd 1 := by unfold zWd; omega
theorem zWd_35 : zWd 35 := by unfold zWd; omega
theorem zWd_69 : zWd 69 := by unfold zWd; omega
theorem zWd_b {c : Int} (hc : zWd c) : 1 ≤ c ∧ c ≤ 69 := by unfold zWd at hc; omega
def zIs (c : Int) : Prop := c = 2 ∨ c = 36 ∨ c = 70 ∨ c = 116 ∨ c = 120 ∨ c = 124 ∨ c = 128 ∨ c = 132 ∨ c = 136
theorem zIs_2 : zIs 2 := by unfold zIs; omega
theorem zIs_36 : zIs 36 := by unfold zIs; omega
theorem zIs_70 : zIs 70 := by unfold zIs; omega
theorem zIs_116 : zIs 116 := by unfold zIs; omega
theorem zIs_120 : zIs 120 := by unfold zIs; omega
theorem zIs_124 : zIs 124 := by unfold zIs; omega
theorem zIs_128 : zIs 128 := by unfold zIs; omega
theorem zIs_132 : zIs 132 := by unfold zIs; omega
theorem zIs_136 : zIs 136 := by unfold zIs; omega
theorem zIs_b {c : Int} (hc : zIs c) : 2 ≤ c ∧ c ≤ 136 := by unfold zIs at hc; omega
def zLw (c : Int) : Prop := c = 6 ∨ c = 40 ∨ c = 74
theorem zLw_6 : zLw 6 := by unfold zLw; omega
theorem zLw_40 : zLw 40 := by unfold zLw; omega
theorem zLw_74 : zLw 74 := by unfold zLw; omega
theorem zLw_b {c : Int} (hc : zLw c) : 6 ≤ c ∧ c ≤ 74 := by unfold zLw at hc; omega
def zPl (c : Int) : Prop := c = 13 ∨ c = 17 ∨ c = 47 ∨ c = 51 ∨ c = 81 ∨ c = 85
theorem zPl_13 : zPl 13 := by unfold zPl; omega
theorem zPl_17 : zPl 17 := by unfold zPl; omega
theorem zPl_47 : zPl 47 := by unfold zPl; omega
theorem zPl_51 : zPl 51 := by unfold zPl; omega
theorem zPl_81 : zPl 81 := by unfold zPl; omega
theorem zPl_85 : zPl 85 := by unfold zPl; omega
theorem zPl_b {c : Int} (hc : zPl c) : 13 ≤ c ∧ c ≤ 85 := by unfold zPl at hc; omega
def zKi (c : Int) : Prop := c = 21 ∨ c = 55 ∨ c = 89
theorem zKi_21 : zKi 21 := by unfold zKi; omega
theorem zKi_55 : zKi 55 := by unfold zKi; omega
theorem zKi_89 : zKi 89 := by unfold zKi; omega
theorem zKi_b {c : Int} (hc : zKi c) : 21 ≤ c ∧ c ≤ 89 := by unfold zKi at hc; omega
def zBo (c : Int) : Prop := c = 23 ∨ c = 57 ∨ c = 91
theorem zBo_23 : zBo 23 := by unfold zBo; omega
theorem zBo_57 : zBo 57 := by unfold zBo; omega
theorem zBo_91 : zBo 91 := by unfold zBo; omega
theorem zBo_b {c : Int} (hc : zBo c) : 23 ≤ c ∧ c ≤ 91 := by unfold zBo at hc; omega
def zPu (c : Int) : Prop := c = 28 ∨ c = 62 ∨ c = 96
theorem zPu_28 : zPu 28 := by unfold zPu; omega
theorem zPu_62 : zPu 62 := by unfold zPu; omega
theorem zPu_96 : zPu 96 := by unfold zPu; omega
theorem zPu_b {c : Int} (hc : zPu c) : 28 ≤ c ∧ c ≤ 96 := by unfold zPu at hc; omega
theorem zPast_Is {c : Int} (hc : zPast c) : zIs c := by unfold zPast at hc; unfold zIs; omega
theorem kk_9_0 {c : Int} (hc : zWd c) : kC c = 9 := by unfold zWd at hc; rcases hc with rfl | rfl | rfl <;> decide +kernel
theorem nk_9_0 {c : Int} (hc : zWd c) : ¬ c = 114 := by unfold zWd at hc; omega
theorem k_9_0 {h : zM} {c : Int} (s : okC h) (hc : zWd c) : shC c = .inl 9 ∧ 0 ≤ c ∧ c < h.1 := kLc s (kk_9_0 hc) rfl (by have := zWd_b hc; omega)
theorem rf_9_0_0 {h : zM} {c : Int} (s : okC h) (hc : zWd c) : h.2 c 0 = (c + 1) := zeqe (a := c + 1) (okC_k s (kk_9_0 hc) 0) (by omega)
theorem rf_9_0_1 {h : zM} {c : Int} (s : okC h) (hc : zWd c) : h.2 c 1 = (c + 5) := zeqe (a := c + 5) (okC_k s (kk_9_0 hc) 1) (by omega)
theorem rf_9_0_2 {h : zM} {c : Int} (s : okC h) (hc : zWd c) : h.2 c 2 = (c + 12) := zeqe (a := c + 12) (okC_k s (kk_9_0 hc) 2) (by omega)
theorem rf_9_0_3 {h : zM} {c : Int} (s : okC h) (hc : zWd c) : h.2 c 3 = (c + 16) := zeqe (a := c + 16) (okC_k s (kk_9_0 hc) 3) (by omega)
theorem rf_9_0_4 {h : zM} {c : Int} (s : okC h) (hc : zWd c) : h.2 c 4 = (c + 20) := zeqe (a := c + 20) (okC_k s (kk_9_0 hc) 4) (by omega)
theorem rf_9_0_5 {h : zM} {c : Int} (s : okC h) (hc : zWd c) : h.2 c 5 = (c + 22) := zeqe (a := c + 22) (okC_k s (kk_9_0 hc) 5) (by omega)
theorem rf_9_0_6 {h : zM} {c : Int} (s : okC h) (hc : zWd c) : h.2 c 6 = (c + 27) := zeqe (a := c + 27) (okC_k s (kk_9_0 hc) 6) (by omega)
theorem zs_9_1 {c : Int} (hc : zWd c) : zIs (c + 1) := by unfold zWd at hc; unfold zIs; omega
theorem kk_9_1 {c : Int} (hc : zWd c) : kC (c + 1) = 1 := by unfold zWd at hc; rcases hc with rfl | rfl | rfl <;> decide +kernel
theorem nk_9_1 {c : Int} (hc : zWd c) : ¬ (c + 1) = 114 := by unfold zWd at hc; omega
theorem k_9_1 {h : zM} {c : Int} (s : okC h) (hc : zWd c) : shC (c + 1) = .inl 1 ∧ 0 ≤ (c + 1) ∧ (c + 1) < h.1 := kLc s (kk_9_1 hc) rfl (by have := zWd_b hc; omega)
theorem rf_9_1_0 {h : zM} {c : Int} (s : okC h) (hc : zWd c) : h.2 (c + 1) 0 = (c + 2) := zeqe (a := (c + 1) + 1) (okC_k s (kk_9_1 hc) 0) (by omega)
theorem kka_9_1_0 {c : Int} (hc : zWd c) : kC (c + 2) = 20 := by unfold zWd at hc; rcases hc with rfl | rfl | rfl <;> decide +kernel
theorem na_9_1_0 {c : Int} (hc : zWd c) : ¬ (c + 2) = 114 ∧ ¬ (c + 2) = 0 := by unfold zWd at hc; omega
theorem ka_9_1_0 {h : zM} {c : Int} (s : okC h) (hc : zWd c) : shC (c + 2) = .inr (0, 18) ∧ 0 ≤ (c + 2) ∧ (c + 2) < h.1 := kLc s (kka_9_1_0 hc) rfl (by have := zWd_b hc; omega)
theorem pa_9_1_0 {c : Int} {v : Int} (hc : zWd c) (hv : (-2147483648) ≤ v ∧ v ≤ 2147483647) (j : Int) : PC (c + 2) j v := PC_k (kka_9_1_0 hc) hv
theorem ab_9_1_0 {h : zM} {c : Int} (s : okC h) (hc : zWd c) (j : Int) : (-2147483648) ≤ h.2 (c + 2) j ∧ h.2 (c + 2) j ≤ 2147483647 := okC_k s (kka_9_1_0 hc) j
theorem aw_9_1_0 {h h' : zM} {c : Int} {v j : Int} (s : okC h) (hc : zWd c) (e : h' = zwr h (c + 2) j v) (hv : (-2147483648) ≤ v ∧ v ≤ 2147483647) : okC h' := okC_w s e (pa_9_1_0 hc hv j) (na_9_1_0 hc).1 (fun q => (na_9_1_0 hc).2 q.1)
theorem rf_9_1_1 {h : zM} {c : Int} (s : okC h) (hc : zWd c) : h.2 (c + 1) 1 = (c + 3) := zeqe (a := (c + 1) + 2) (okC_k s (kk_9_1 hc) 1) (by omega)
theorem kka_9_1_1 {c : Int} (hc : zWd c) : kC (c + 3) = 21 := by unfold zWd at hc; rcases hc with rfl | rfl | rfl <;> decide +kernel
theorem na_9_1_1 {c : Int} (hc : zWd c) : ¬ (c + 3) = 114 ∧ ¬ (c + 3) = 0 := by unfold zWd at hc; omega
theorem ka_9_1_1 {h : zM} {c : Int} (s : okC h) (hc : zWd c) : shC (c + 3) = .inr (0, 18) ∧ 0 ≤ (c + 3) ∧ (c + 3) < h.1 := kLc s (kka_9_1_1 hc) rfl (by have := zWd_b hc; omega)
theorem pa_9_1_1 {c : Int} {v : Int} (hc : zWd c) (hv : (-2147483648) ≤ v ∧ v ≤ 2147483647) (j : Int) : PC (c + 3) j v := PC_k (kka_9_1_1 hc) hv
theorem ab_9_1_1 {h : zM} {c : Int} (s : okC h) (hc : zWd c) (j : Int) : (-2147483648) ≤ h.2 (c + 3) j ∧ h.2 (c + 3) j ≤ 2147483647 := okC_k s (kka_9_1_1 hc) j
theorem aw_9_1_1 {h h' : zM} {c : Int} {v j : Int} (s : okC h) (hc : zWd c) (e : h' = zwr h (c + 3) j v) (hv : (-2147483648) ≤ v ∧ v ≤ 2147483647) : okC h' := okC_w s e (pa_9_1_1 hc hv j) (na_9_1_1 hc).1 (fun q => (na_9_1_1 hc).2 q.1)
theorem rf_9_1_2 {h : zM} {c : Int} (s : okC h) (hc : zWd c) : h.2 (c + 1) 2 = (c + 4) := zeqe (a := (c + 1) + 3) (okC_k s (kk_9_1 hc) 2) (by omega)
theorem kka_9_1_2 {c : Int} (hc : zWd c) : kC (c + 4) = 22 := by unfold zWd at hc; rcases hc with rfl | rfl | rfl <;> decide +kernel
theorem na_9_1_2 {c : Int} (hc : zWd c) : ¬ (c + 4) = 114 ∧ ¬ (c + 4) = 0 := by unfold zWd at hc; omega
theorem ka_9_1_2 {h : zM} {c : Int} (s : okC h) (hc : zWd c) : shC (c + 4) = .inr (0, 18) ∧ 0 ≤ (c + 4) ∧ (c + 4) < h.1 := kLc s (kka_9_1_2 hc) rfl (by have := zWd_b hc; omega)
theorem pa_9_1_2 {c : Int} {v : Int} (hc : zWd c) (hv : (-2147483648) ≤ v ∧ v ≤ 2147483647) (j : Int) : PC (c + 4) j v := PC_k (kka_9_1_2 hc) hv
theorem ab_9_1_2 {h : zM} {c : Int} (s : okC h) (hc : zWd c) (j : Int) : (-2147483648) ≤ h.2 (c + 4) j ∧ h.2 (c + 4) j ≤ 2147483647 := okC_k s (kka_9_1_2 hc) j
theorem aw_9_1_2 {h h' : zM} {c : Int} {v j : Int} (s : okC h) (hc : zWd c) (e : h' = zwr h (c + 4) j v) (hv : (-2147483648) ≤ v ∧ v ≤ 2147483647) : okC h' := okC_w s e (pa_9_1_2 hc hv j) (na_9_1_2 hc).1 (fun q => (na_9_1_2 hc).2 q.1)
theorem fb_9_1_3 {h : zM} {c : Int} (s : okC h) (hc : zWd c) : 0 ≤ h.2 (c + 1) 3 ∧ h.2 (c + 1) 3 ≤ 18 := okC_k s (kk_9_1 hc) 3
theorem fw_9_1_3 {h h' : zM} {c : Int} {v : Int} (s : okC h) (hc : zWd c) (e : h' = zwr h (c + 1) 3 v) (hv : 0 ≤ v ∧ v ≤ 18) : okC h' := okC_w s e (PC_k (kk_9_1 hc) hv) (nk_9_1 hc) (fun q => absurd q.1 (by have := zWd_b hc; omega))
theorem fb_9_1_4 {h : zM} {c : Int} (s : okC h) (hc : zWd c) : (-2147483648) ≤ h.2 (c + 1) 4 ∧ h.2 (c + 1) 4 ≤ 2147483647 := okC_k s (kk_9_1 hc) 4
theorem fw_9_1_4 {h h' : zM} {c : Int} {v : Int} (s : okC h) (hc : zWd c) (e : h' = zwr h (c + 1) 4 v) (hv : (-2147483648) ≤ v ∧ v ≤ 2147483647) : okC h' := okC_w s e (PC_k (kk_9_1 hc) hv) (nk_9_1 hc) (fun q => absurd q.1 (by have := zWd_b hc; omega))
theorem fb_9_1_5 {h : zM} {c : Int} (s : okC h) (hc : zWd c) : (-2147483648) ≤ h.2 (c + 1) 5 ∧ h.2 (c + 1) 5 ≤ 2147483647 := okC_k s (kk_9_1 hc) 5
theorem fw_9_1_5 {h h' : zM} {c : Int} {v : Int} (s : okC h) (hc : zWd c) (e : h' = zwr h (c + 1) 5 v) (hv : (-2147483648) ≤ v ∧ v ≤ 2147483647) : okC h' := okC_w s e (PC_k (kk_9_1 hc) hv) (nk_9_1 hc) (fun q => absurd q.1 (by have := zWd_b hc; omega))
theorem fb_9_1_6 {h : zM} {c : Int} (s : okC h) (hc : zWd c) : 0 ≤ h.2 (c + 1) 6 ∧ h.2 (c + 1) 6 ≤ 719 := okC_k s (kk_9_1 hc) 6
theorem fw_9_1_6 {h h' : zM} {c : Int} {v : Int} (s : okC h) (hc : zWd c) (e : h' = zwr h (c + 1) 6 v) (hv : 0 ≤ v ∧ v ≤ 719) : okC h' := okC_w s e (PC_k (kk_9_1 hc) hv) (nk_9_1 hc) (fun q => absurd q.1 (by have := zWd_b hc; omega))
theorem fb_9_1_7 {h : zM} {c : Int} (s : okC h) (hc : zWd c) : (-2147483648) ≤ h.2 (c + 1) 7 ∧ h.2 (c + 1) 7 ≤ 2147483647 := okC_k s (kk_9_1 hc) 7
theorem fw_9_1_7 {h h' : zM} {c : Int} {v : Int} (s : okC h) (hc : zWd c) (e : h' = zwr h (c + 1) 7 v) (hv : (-2147483648) ≤ v ∧ v ≤ 2147483647) : okC h' := okC_w s e (PC_k (kk_9_1 hc) hv) (nk_9_1 hc) (fun q => absurd q.1 (by have := zWd_b hc; omega))
theorem fb_9_1_8 {h : zM} {c : Int} (s : okC h) (hc : zWd c) : (-2147483648) ≤ h.2 (c + 1) 8 ∧ h.2 (c + 1) 8 ≤ 2147483647 := okC_k s (kk_9_1 hc) 8
theorem fw_9_1_8 {h h' : zM} {c : Int} {v : Int} (s : okC h) (hc : zWd c) (e : h' = zwr h (c + 1) 8 v) (hv : (-2147483648) ≤ v ∧ v ≤ 2147483647) : okC h' := okC_w s e (PC_k (kk_9_1 hc) hv) (nk_9_1 hc) (fun q => absurd q.1 (by have := zWd_b hc; omega))
theorem fb_9_1_9 {h : zM} {c : Int} (s : okC h) (hc : zWd c) : (-2147483648) ≤ h.2 (c + 1) 9 ∧ h.2 (c + 1) 9 ≤ 2147483647 := okC_k s (kk_9_1 hc) 9
theorem fw_9_1_9 {h h' : zM} {c : Int} {v : Int} (s : okC h) (hc : zWd c) (e : h' = zwr h (c + 1) 9 v) (hv : (-2147483648) ≤ v ∧ v ≤ 2147483647) : okC h' := okC_w s e (PC_k (kk_9_1 hc) hv) (nk_9_1 hc) (fun q => absurd q.1 (by have := zWd_b hc; omega))
theorem fb_9_1_10 {h : zM} {c : Int} (s : okC h) (hc : zWd c) : (-2147483648) ≤ h.2 (c + 1) 10 ∧ h.2 (c + 1) 10 ≤ 2147483647 := okC_k s (kk_9_1 hc) 10
theorem fw_9_1_10 {h h' : zM} {c : Int} {v : Int} (s : okC h) (hc : zWd c) (e : h' = zwr h (c + 1) 10 v) (hv : (-2147483648) ≤ v ∧ v ≤ 2147483647) : okC h' := okC_w s e (PC_k (kk_9_1 hc) hv) (nk_9_1 hc) (fun q => absurd q.1 (by have := zWd_b hc; omega))
theorem fb_9_1_11 {h : zM} {c : Int} (s : okC h) (hc : zWd c) : (-2147483648) ≤ h.2 (c + 1) 11 ∧ h.2 (c + 1) 11 ≤ 2147483647 := okC_k s (kk_9_1 hc) 11
theorem fw_9_1_11 {h h' : zM} {c : Int} {v : Int} (s : okC h) (hc : zWd c) (e : h' = zwr h (c + 1) 11 v) (hv : (-2147483648) ≤ v ∧ v ≤ 2147483647) : okC h' := okC_w s e (PC_k (kk_9_1 hc) hv) (nk_9_1 hc) (fun q => absurd q.1 (by have := zWd_b hc; omega))
theorem fb_9_1_12 {h : zM} {c : Int} (s : okC h) (hc : zWd c) : (-2147483648) ≤ h.2 (c + 1) 12 ∧ h.2 (c + 1) 12 ≤ 2147483647 := okC_k s (kk_9_1 hc) 12
theorem fw_9_1_12 {h h' : zM} {c : Int} {v : Int} (s : okC h) (hc : zWd c) (e : h' = zwr h (c + 1) 12 v) (hv : (-2147483648) ≤ v ∧ v ≤ 2147483647) : okC h' := okC_w s e (PC_k (kk_9_1 hc) hv) (nk_9_1 hc) (fun q => absurd q.1 (by have := zWd_b hc; omega))
theorem fb_9_1_13 {h : zM} {c : Int} (s : okC h) (hc : zWd c) : (-2147483648) ≤ h.2 (c + 1) 13 ∧ h.2 (c + 1) 13 ≤ 2147483647 := okC_k s (kk_9_1 hc) 13
theorem fw_9_1_13 {h h' : zM} {c : Int} {v : Int} (s : okC h) (hc : zWd c) (e : h' = zwr h (c + 1) 13 v) (hv : (-2147483648) ≤ v ∧ v ≤ 2147483647) : okC h' := okC_w s e (PC_k (kk_9_1 hc) hv) (nk_9_1 hc) (fun q => absurd q.1 (by have := zWd_b hc; omega))
theorem zs_9_5 {c : Int} (hc : zWd c) : zLw (c + 5) := by unfold zWd at hc; unfold zLw; omega
theorem kk_9_5 {c : Int} (hc : zWd c) : kC (c + 5) = 3 := by unfold zWd at hc; rcases hc with rfl | rfl | rfl <;> decide +kernel
theorem nk_9_5 {c : Int} (hc : zWd c) : ¬ (c + 5) = 114 := by unfold zWd at hc; omega
theorem k_9_5 {h : zM} {c : Int} (s : okC h) (hc : zWd c) : shC (c + 5) = .inl 3 ∧ 0 ≤ (c + 5) ∧ (c + 5) < h.1 := kLc s (kk_9_5 hc) rfl (by have := zWd_b hc; omega)
theorem rf_9_5_0 {h : zM} {c : Int} (s : okC h) (hc : zWd c) : h.2 (c + 5) 0 = (c + 6) := zeqe (a := (c + 5) + 1) (okC_k s (kk_9_5 hc) 0) (by omega)
theorem kka_9_5_0 {c : Int} (hc : zWd c) : kC (c + 6) = 23 := by unfold zWd at hc; rcases hc with rfl | rfl | rfl <;> decide +kernel
theorem na_9_5_0 {c : Int} (hc : zWd c) : ¬ (c + 6) = 114 ∧ ¬ (c + 6) = 0 := by unfold zWd at hc; omega
theorem ka_9_5_0 {h : zM} {c : Int} (s : okC h) (hc : zWd c) : shC (c + 6) = .inr (0, 16) ∧ 0 ≤ (c + 6) ∧ (c + 6) < h.1 := kLc s (kka_9_5_0 hc) rfl (by have := zWd_b hc; omega)
theorem pa_9_5_0 {c : Int} {v : Int} (hc : zWd c) (hv : (-2147483648) ≤ v ∧ v ≤ 2147483647) (j : Int) : PC (c + 6) j v := PC_k (kka_9_5_0 hc) hv
theorem ab_9_5_0 {h : zM} {c : Int} (s : okC h) (hc : zWd c) (j : Int) : (-2147483648) ≤ h.2 (c + 6) j ∧ h.2 (c + 6) j ≤ 2147483647 := okC_k s (kka_9_5_0 hc) j
theorem aw_9_5_0 {h h' : zM} {c : Int} {v j : Int} (s : okC h) (hc : zWd c) (e : h' = zwr h (c + 6) j v) (hv : (-2147483648) ≤ v ∧ v ≤ 2147483647) : okC h' := okC_w s e (pa_9_5_0 hc hv j) (na_9_5_0 hc).1 (fun q => (na_9_5_0 hc).2 q.1)
theorem rf_9_5_1 {h : zM} {c : Int} (s : okC h) (hc : zWd c) : h.2 (c + 5) 1 = (c + 7) := zeqe (a := (c + 5) + 2) (okC_k s (kk_9_5 hc) 1) (by omega)
theorem kka_9_5_1 {c : Int} (hc : zWd c) : kC (c + 7) = 24 := by unfold zWd at hc; rcases hc with rfl | rfl | rfl <;> decide +kernel
theorem na_9_5_1 {c : Int} (hc : zWd c) : ¬ (c + 7) = 114 ∧ ¬ (c + 7) = 0 := by unfold zWd at hc; omega
theorem ka_9_5_1 {h : zM} {c : Int} (s : okC h) (hc : zWd c) : shC (c + 7) = .inr (0, 16) ∧ 0 ≤ (c + 7) ∧ (c + 7) < h.1 := kLc s (kka_9_5_1 hc) rfl (by have := zWd_b hc; omega)
theorem pa_9_5_1 {c : Int} {v : Int} (hc : zWd c) (hv : 0 ≤ v ∧ v ≤ 400) (j : Int) : PC (c + 7) j v := PC_k (kka_9_5_1 hc) hv
theorem ab_9_5_1 {h : zM} {c : Int} (s : okC h) (hc : zWd c) (j : Int) : 0 ≤ h.2 (c + 7) j ∧ h.2 (c + 7) j ≤ 400 := okC_k s (kka_9_5_1 hc) j
theorem aw_9_5_1 {h h' : zM} {c : Int} {v j : Int} (s : okC h) (hc : zWd c) (e : h' = zwr h (c + 7) j v) (hv : 0 ≤ v ∧ v ≤ 400) : okC h' := okC_w s e (pa_9_5_1 hc hv j) (na_9_5_1 hc).1 (fun q => (na_9_5_1 hc).2 q.1)
theorem rf_9_5_2 {h : zM} {c : Int} (s : okC h) (hc : zWd c) : h.2 (c + 5) 2 = (c + 8) := zeqe (a := (c + 5) + 3) (okC_k s (kk_9_5 hc) 2) (by omega)
theorem kka_9_5_2 {c : Int} (hc : zWd c) : kC (c + 8) = 25 := by unfold zWd at hc; rcases hc with rfl | rfl | rfl <;> decide +kernel
theorem na_9_5_2 {c : Int} (hc : zWd c) : ¬ (c + 8) = 114 ∧ ¬ (c + 8) = 0 := by unfold zWd at hc; omega
theorem ka_9_5_2 {h : zM} {c : Int} (s : okC h) (hc : zWd c) : shC (c + 8) = .inr (0, 16) ∧ 0 ≤ (c + 8) ∧ (c + 8) < h.1 := kLc s (kka_9_5_2 hc) rfl (by have := zWd_b hc; omega)
theorem pa_9_5_2 {c : Int} {v : Int} (hc : zWd c) (hv : 0 ≤ v ∧ v ≤ 400) (j : Int) : PC (c + 8) j v := PC_k (kka_9_5_2 hc) hv
theorem ab_9_5_2 {h : zM} {c : Int} (s : okC h) (hc : zWd c) (j : Int) : 0 ≤ h.2 (c + 8) j ∧ h.2 (c + 8) j ≤ 400 := okC_k s (kka_9_5_2 hc) j
theorem aw_9_5_2 {h h' : zM} {c : Int} {v j : Int} (s : okC h) (hc : zWd c) (e : h' = zwr h (c + 8) j v) (hv : 0 ≤ v ∧ v ≤ 400) : okC h' := okC_w s e (pa_9_5_2 hc hv j) (na_9_5_2 hc).1 (fun q => (na_9_5_2 hc).2 q.1)
theorem rf_9_5_3 {h : zM} {c : Int} (s : okC h) (hc : zWd c) : h.2 (c + 5) 3 = (c + 9) := zeqe (a := (c + 5) + 4) (okC_k s (kk_9_5 hc) 3) (by omega)
theorem kka_9_5_3 {c : Int} (hc : zWd c) : kC (c + 9) = 26 := by unfold zWd at hc; rcases hc with rfl | rfl | rfl <;> decide +kernel
theorem na_9_5_3 {c : Int} (hc : zWd c) : ¬ (c + 9) = 114 ∧ ¬ (c + 9) = 0 := by unfold zWd at hc; omega
theorem ka_9_5_3 {h : zM} {c : Int} (s : okC h) (hc : zWd c) : shC (c + 9) = .inr (0, 16) ∧ 0 ≤ (c + 9) ∧ (c + 9) < h.1 := kLc s (kka_9_5_3 hc) rfl (by have := zWd_b hc; omega)
theorem pa_9_5_3 {c : Int} {v : Int} (hc : zWd c) (hv : 0 ≤ v ∧ v ≤ 400) (j : Int) : PC (c + 9) j v := PC_k (kka_9_5_3 hc) hv
theorem ab_9_5_3 {h : zM} {c : Int} (s : okC h) (hc : zWd c) (j : Int) : 0 ≤ h.2 (c + 9) j ∧ h.2 (c + 9) j ≤ 400 := okC_k s (kka_9_5_3 hc) j
theorem aw_9_5_3 {h h' : zM} {c : Int} {v j : Int} (s : okC h) (hc : zWd c) (e : h' = zwr h (c + 9) j v) (hv : 0 ≤ v ∧ v ≤ 400) : okC h' := okC_w s e (pa_9_5_3 hc hv j) (na_9_5_3 hc).1 (fun q => (na_9_5_3 hc).2 q.1)
theorem rf_9_5_4 {h : zM} {c : Int} (s : okC h) (hc : zWd c) : h.2 (c + 5) 4 = (c + 10) := zeqe (a := (c + 5) + 5) (okC_k s (kk_9_5 hc) 4) (by omega)
theorem kka_9_5_4 {c : Int} (hc : zWd c) : kC (c + 10) = 27 := by unfold zWd at hc; rcases hc with rfl | rfl | rfl <;> decide +kernel
theorem na_9_5_4 {c : Int} (hc : zWd c) : ¬ (c + 10) = 114 ∧ ¬ (c + 10) = 0 := by unfold zWd at hc; omega
theorem ka_9_5_4 {h : zM} {c : Int} (s : okC h) (hc : zWd c) : shC (c + 10) = .inr (0, 400) ∧ 0 ≤ (c + 10) ∧ (c + 10) < h.1 := kLc s (kka_9_5_4 hc) rfl (by have := zWd_b hc; omega)
theorem pa_9_5_4 {c : Int} {v : Int} (hc : zWd c) (hv : (-2147483648) ≤ v ∧ v ≤ 2147483647) (j : Int) : PC (c + 10) j v := PC_k (kka_9_5_4 hc) hv
theorem ab_9_5_4 {h : zM} {c : Int} (s : okC h) (hc : zWd c) (j : Int) : (-2147483648) ≤ h.2 (c + 10) j ∧ h.2 (c + 10) j ≤ 2147483647 := okC_k s (kka_9_5_4 hc) j
theorem aw_9_5_4 {h h' : zM} {c : Int} {v j : Int} (s : okC h) (hc : zWd c) (e : h' = zwr h (c + 10) j v) (hv : (-2147483648) ≤ v ∧ v ≤ 2147483647) : okC h' := okC_w s e (pa_9_5_4 hc hv j) (na_9_5_4 hc).1 (fun q => (na_9_5_4 hc).2 q.1)
theorem rf_9_5_5 {h : zM} {c : Int} (s : okC h) (hc : zWd c) : h.2 (c + 5) 5 = (c + 11) := zeqe (a := (c + 5) + 6) (okC_k s (kk_9_5 hc) 5) (by omega)
theorem kka_9_5_5 {c : Int} (hc : zWd c) : kC (c + 11) = 28 := by unfold zWd at hc; rcases hc with rfl | rfl | rfl <;> decide +kernel
theorem na_9_5_5 {c : Int} (hc : zWd c) : ¬ (c + 11) = 114 ∧ ¬ (c + 11) = 0 := by unfold zWd at hc; omega
theorem ka_9_5_5 {h : zM} {c : Int} (s : okC h) (hc : zWd c) : shC (c + 11) = .inr (0, 64) ∧ 0 ≤ (c + 11) ∧ (c + 11) < h.1 := kLc s (kka_9_5_5 hc) rfl (by have := zWd_b hc; omega)
theorem pa_9_5_5 {c : Int} {v : Int} (hc : zWd c) (hv : (-2147483648) ≤ v ∧ v ≤ 2147483647) (j : Int) : PC (c + 11) j v := PC_k (kka_9_5_5 hc) hv
theorem ab_9_5_5 {h : zM} {c : Int} (s : okC h) (hc : zWd c) (j : Int) : (-2147483648) ≤ h.2 (c + 11) j ∧ h.2 (c + 11) j ≤ 2147483647 := okC_k s (kka_9_5_5 hc) j
theorem aw_9_5_5 {h h' : zM} {c : Int} {v j : Int} (s : okC h) (hc : zWd c) (e : h' = zwr h (c + 11) j v) (hv : (-2147483648) ≤ v ∧ v ≤ 2147483647) : okC h' := okC_w s e (pa_9_5_5 hc hv j) (na_9_5_5 hc).1 (fun q => (na_9_5_5 hc).2 q.1)
theorem fb_9_5_6 {h : zM} {c : Int} (s : okC h) (hc : zWd c) : 0 ≤ h.2 (c + 5) 6 ∧ h.2 (c + 5) 6 ≤ 16 := okC_k s (kk_9_5 hc) 6
theorem fw_9_5_6 {h h' : zM} {c : Int} {v : Int} (s : okC h) (hc : zWd c) (e : h' = zwr h (c + 5) 6 v) (hv : 0 ≤ v ∧ v ≤ 16) : okC h' := okC_w s e (PC_k (kk_9_5 hc) hv) (nk_9_5 hc) (fun q => absurd q.1 (by have := zWd_b hc; omega))
theorem fb_9_5_7 {h : zM} {c : Int} (s : okC h) (hc : zWd c) : 0 ≤ h.2 (c + 5) 7 ∧ h.2 (c + 5) 7 ≤ 400 := okC_k s (kk_9_5 hc) 7
theorem fw_9_5_7 {h h' : zM} {c : Int} {v : Int} (s : okC h) (hc : zWd c) (e : h' = zwr h (c + 5) 7 v) (hv : 0 ≤ v ∧ v ≤ 400) : okC h' := okC_w s e (PC_k (kk_9_5 hc) hv) (nk_9_5 hc) (fun q => absurd q.1 (by have := zWd_b hc; omega))
theorem zs_9_12 {c : Int} (hc : zWd c) : zPl (c + 12) := by unfold zWd at hc; unfold zPl; omega
theorem kk_9_12 {c : Int} (hc : zWd c) : kC (c + 12) = 4 := by unfold zWd at hc; rcases hc with rfl | rfl | rfl <;> decide +kernel
theorem nk_9_12 {c : Int} (hc : zWd c) : ¬ (c + 12) = 114 := by unfold zWd at hc; omega
theorem k_9_12 {h : zM} {c : Int} (s : okC h) (hc : zWd c) : shC (c + 12) = .inl 4 ∧ 0 ≤ (c + 12) ∧ (c + 12) < h.1 := kLc s (kk_9_12 hc) rfl (by have := zWd_b hc; omega)
theorem rf_9_12_0 {h : zM} {c : Int} (s : okC h) (hc : zWd c) : h.2 (c + 12) 0 = (c + 13) := zeqe (a := (c + 12) + 1) (okC_k s (kk_9_12 hc) 0) (by omega)
theorem kka_9_12_0 {c : Int} (hc : zWd c) : kC (c + 13) = 29 := by unfold zWd at hc; rcases hc with rfl | rfl | rfl <;> decide +kernel
theorem na_9_12_0 {c : Int} (hc : zWd c) : ¬ (c + 13) = 114 ∧ ¬ (c + 13) = 0 := by unfold zWd at hc; omega
theorem ka_9_12_0 {h : zM} {c : Int} (s : okC h) (hc : zWd c) : shC (c + 13) = .inr (0, 16) ∧ 0 ≤ (c + 13) ∧ (c + 13) < h.1 := kLc s (kka_9_12_0 hc) rfl (by have := zWd_b hc; omega)
theorem pa_9_12_0 {c : Int} {v : Int} (hc : zWd c) (hv : (-2147483648) ≤ v ∧ v ≤ 2147483647) (j : Int) : PC (c + 13) j v := PC_k (kka_9_12_0 hc) hv
theorem ab_9_12_0 {h : zM} {c : Int} (s : okC h) (hc : zWd c) (j : Int) : (-2147483648) ≤ h.2 (c + 13) j ∧ h.2 (c + 13) j ≤ 2147483647 := okC_k s (kka_9_12_0 hc) j
theorem aw_9_12_0 {h h' : zM} {c : Int} {v j : Int} (s : okC h) (hc : zWd c) (e : h' = zwr h (c + 13) j v) (hv : (-2147483648) ≤ v ∧ v ≤ 2147483647) : okC h' := okC_w s e (pa_9_12_0 hc hv j) (na_9_12_0 hc).1 (fun q => (na_9_12_0 hc).2 q.1)
theorem rf_9_12_1 {h : zM} {c : Int} (s : okC h) (hc : zWd c) : h.2 (c + 12) 1 = (c + 14) := zeqe (a := (c + 12) + 2) (okC_k s (kk_9_12 hc) 1) (by omega)
theorem kka_9_12_1 {c : Int} (hc : zWd c) : kC (c + 14) = 30 := by unfold zWd at hc; rcases hc with rfl | rfl | rfl <;> decide +kernel
theorem na_9_12_1 {c : Int} (hc : zWd c) : ¬ (c + 14) = 114 ∧ ¬ (c + 14) = 0 := by unfold zWd at hc; omega
theorem ka_9_12_1 {h : zM} {c : Int} (s : okC h) (hc : zWd c) : shC (c + 14) = .inr (0, 16) ∧ 0 ≤ (c + 14) ∧ (c + 14) < h.1 := kLc s (kka_9_12_1 hc) rfl (by have := zWd_b hc; omega)
theorem pa_9_12_1 {c : Int} {v : Int} (hc : zWd c) (hv : (-2147483648) ≤ v ∧ v ≤ 2147483647) (j : Int) : PC (c + 14) j v := PC_k (kka_9_12_1 hc) hv
theorem ab_9_12_1 {h : zM} {c : Int} (s : okC h) (hc : zWd c) (j : Int) : (-2147483648) ≤ h.2 (c + 14) j ∧ h.2 (c + 14) j ≤ 2147483647 := okC_k s (kka_9_12_1 hc) j
theorem aw_9_12_1 {h h' : zM} {c : Int} {v j : Int} (s : okC h) (hc : zWd c) (e : h' = zwr h (c + 14) j v) (hv : (-2147483648) ≤ v ∧ v ≤ 2147483647) : okC h' := okC_w s e (pa_9_12_1 hc hv j) (na_9_12_1 hc).1 (fun q => (na_9_12_1 hc).2 q.1)
theorem rf_9_12_2 {h : zM} {c : Int} (s : okC h) (hc : zWd c) : h.2 (c + 12) 2 = (c + 15) := zeqe (a := (c + 12) + 3) (okC_k s (kk_9_12 hc) 2) (by omega)
theorem kka_9_12_2 {c : Int} (hc : zWd c) : kC (c + 15) = 31 := by unfold zWd at hc; rcases hc with rfl | rfl | rfl <;> decide +kernel
theorem na_9_12_2 {c : Int} (hc : zWd c) : ¬ (c + 15) = 114 ∧ ¬ (c + 15) = 0 := by unfold zWd at hc; omega
theorem ka_9_12_2 {h : zM} {c : Int} (s : okC h) (hc : zWd c) : shC (c + 15) = .inr (0, 16) ∧ 0 ≤ (c + 15) ∧ (c + 15) < h.1 := kLc s (kka_9_12_2 hc) rfl (by have := zWd_b hc; omega)
theorem pa_9_12_2 {c : Int} {v : Int} (hc : zWd c) (hv : (-2147483648) ≤ v ∧ v ≤ 2147483647) (j : Int) : PC (c + 15) j v := PC_k (kka_9_12_2 hc) hv
theorem ab_9_12_2 {h : zM} {c : Int} (s : okC h) (hc : zWd c) (j : Int) : (-2147483648) ≤ h.2 (c + 15) j ∧ h.2 (c + 15) j ≤ 2147483647 := okC_k s (kka_9_12_2 hc) j
theorem aw_9_12_2 {h h' : zM} {c : Int} {v j : Int} (s : okC h) (hc : zWd c) (e : h' = zwr h (c + 15) j v) (hv : (-2147483648) ≤ v ∧ v ≤ 2147483647) : okC h' := okC_w s e (pa_9_12_2 hc hv j) (na_9_12_2 hc).1 (fun q => (na_9_12_2 hc).2 q.1)
theorem fb_9_12_3 {h : zM} {c : Int} (s : okC h) (hc : zWd c) : 0 ≤ h.2 (c + 12) 3 ∧ h.2 (c + 12) 3 ≤ 16 := okC_k s (kk_9_12 hc) 3
theorem fw_9_12_3 {h h' : zM} {c : Int} {v : Int} (s : okC h) (hc : zWd c) (e : h' = zwr h (c + 12) 3 v) (hv : 0 ≤ v ∧ v ≤ 16) : okC h' := okC_w s e (PC_k (kk_9_12 hc) hv) (nk_9_12 hc) (fun q => absurd q.1 (by have := zWd_b hc; omega))
theorem zs_9_16 {c : Int} (hc : zWd c) : zPl (c + 16) := by unfold zWd at hc; unfold zPl; omega
theorem kk_9_16 {c : Int} (hc : zWd c) : kC (c + 16) = 4 := by unfold zWd at hc; rcases hc with rfl | rfl | rfl <;> decide +kernel
theorem nk_9_16 {c : Int} (hc : zWd c) : ¬ (c + 16) = 114 := by unfold zWd at hc; omega
theorem k_9_16 {h : zM} {c : Int} (s : okC h) (hc : zWd c) : shC (c + 16) = .inl 4 ∧ 0 ≤ (c + 16) ∧ (c + 16) < h.1 := kLc s (kk_9_16 hc) rfl (by have := zWd_b hc; omega)
theorem rf_9_16_0 {h : zM} {c : Int} (s : okC h) (hc : zWd c) : h.2 (c + 16) 0 = (c + 17) := zeqe (a := (c + 16) + 1) (okC_k s (kk_9_16 hc) 0) (by omega)
theorem kka_9_16_0 {c : Int} (hc : zWd c) : kC (c + 17) = 29 := by unfold zWd at hc; rcases hc with rfl | rfl | rfl <;> decide +kernel
theorem na_9_16_0 {c : Int} (hc : zWd c) : ¬ (c + 17) = 114 ∧ ¬ (c + 17) = 0 := by unfold zWd at hc; omega
theorem ka_9_16_0 {h : zM} {c : Int} (s : okC h) (hc : zWd c) : shC (c + 17) = .inr (0, 16) ∧ 0 ≤ (c + 17) ∧ (c + 17) < h.1 := kLc s (kka_9_16_0 hc) rfl (by have := zWd_b hc; omega)
theorem pa_9_16_0 {c : Int} {v : Int} (hc : zWd c) (hv : (-2147483648) ≤ v ∧ v ≤ 2147483647) (j : Int) : PC (c + 17) j v := PC_k (kka_9_16_0 hc) hv
theorem ab_9_16_0 {h : zM} {c : Int} (s : okC h) (hc : zWd c) (j : Int) : (-2147483648) ≤ h.2 (c + 17) j ∧ h.2 (c + 17) j ≤ 2147483647 := okC_k s (kka_9_16_0 hc) j
theorem aw_9_16_0 {h h' : zM} {c : Int} {v j : Int} (s : okC h) (hc : zWd c) (e : h' = zwr h (c + 17) j v) (hv : (-2147483648) ≤ v ∧ v ≤ 2147483647) : okC h' := okC_w s e (pa_9_16_0 hc hv j) (na_9_16_0 hc).1 (fun q => (na_9_16_0 hc).2 q.1)
theorem rf_9_16_1 {h : zM} {c : Int} (s : okC h) (hc : zWd c) : h.2 (c + 16) 1 = (c + 18) := zeqe (a := (c + 16) + 2) (okC_k s (kk_9_16 hc) 1) (by omega)
theorem kka_9_16_1 {c : Int} (hc : zWd c) : kC (c + 18) = 30 := by unfold zWd at hc; rcases hc with rfl | rfl | rfl <;> decide +kernel
theorem na_9_16_1 {c : Int} (hc : zWd c) : ¬ (c + 18) = 114 ∧ ¬ (c + 18) = 0 := by unfold zWd at hc; omega
theorem ka_9_16_1 {h : zM} {c : Int} (s : okC h) (hc : zWd c) : shC (c + 18) = .inr (0, 16) ∧ 0 ≤ (c + 18) ∧ (c + 18) < h.1 := kLc s (kka_9_16_1 hc) rfl (by have := zWd_b hc; omega)
theorem pa_9_16_1 {c : Int} {v : Int} (hc : zWd c) (hv : (-2147483648) ≤ v ∧ v ≤ 2147483647) (j : Int) : PC (c + 18) j v := PC_k (kka_9_16_1 hc) hv
theorem ab_9_16_1 {h : zM} {c : Int} (s : okC h) (hc : zWd c) (j : Int) : (-2147483648) ≤ h.2 (c + 18) j ∧ h.2 (c + 18) j ≤ 2147483647 := okC_k s (kka_9_16_1 hc) j
theorem aw_9_16_1 {h h' : zM} {c : Int} {v j : Int} (s : okC h) (hc : zWd c) (e : h' = zwr h (c + 18) j v) (hv : (-2147483648) ≤ v ∧ v ≤ 2147483647) : okC h' := okC_w s e (pa_9_16_1 hc hv j) (na_9_16_1 hc).1 (fun q => (na_9_16_1 hc).2 q.1)
theorem rf_9_16_2 {h : zM} {c : Int} (s : okC h) (hc : zWd c) : h.2 (c + 16) 2 = (c + 19) := zeqe (a := (c + 16) + 3) (okC_k s (kk_9_16 hc) 2) (by omega)
theorem kka_9_16_2 {c : Int} (hc : zWd c) : kC (c + 19) = 31 := by unfold zWd at hc; rcases hc with rfl | rfl | rfl <;> decide +kernel
theorem na_9_16_2 {c : Int} (hc : zWd c) : ¬ (c + 19) = 114 ∧ ¬ (c + 19) = 0 := by unfold zWd at hc; omega
theorem ka_9_16_2 {h : zM} {c : Int} (s : okC h) (hc : zWd c) : shC (c + 19) = .inr (0, 16) ∧ 0 ≤ (c + 19) ∧ (c + 19) < h.1 := kLc s (kka_9_16_2 hc) rfl (by have := zWd_b hc; omega)
theorem pa_9_16_2 {c : Int} {v : Int} (hc : zWd c) (hv : (-2147483648) ≤ v ∧ v ≤ 2147483647) (j : Int) : PC (c + 19) j v := PC_k (kka_9_16_2 hc) hv
theorem ab_9_16_2 {h : zM} {c : Int} (s : okC h) (hc : zWd c) (j : Int) : (-2147483648) ≤ h.2 (c + 19) j ∧ h.2 (c + 19) j ≤ 2147483647 := okC_k s (kka_9_16_2 hc) j
theorem aw_9_16_2 {h h' : zM} {c : Int} {v j : Int} (s : okC h) (hc : zWd c) (e : h' = zwr h (c + 19) j v) (hv : (-2147483648) ≤ v ∧ v ≤ 2147483647) : okC h' := okC_w s e (pa_9_16_2 hc hv j) (na_9_16_2 hc).1 (fun q => (na_9_16_2 hc).2 q.1)
theorem fb_9_16_3 {h : zM} {c : Int} (s : okC h) (hc : zWd c) : 0 ≤ h.2 (c + 16) 3 ∧ h.2 (c + 16) 3 ≤ 16 := okC_k s (kk_9_16 hc) 3
theorem fw_9_16_3 {h h' : zM} {c : Int} {v : Int} (s : okC h) (hc : zWd c) (e : h' = zwr h (c + 16) 3 v) (hv : 0 ≤ v ∧ v ≤ 16) : okC h' := okC_w s e (PC_k (kk_9_16 hc) hv) (nk_9_16 hc) (fun q => absurd q.1 (by have := zWd_b hc; omega))
theorem zs_9_20 {c : Int} (hc : zWd c) : zKi (c + 20) := by unfold zWd at hc; unfold zKi; omega
theorem kk_9_20 {c : Int} (hc : zWd c) : kC (c + 20) = 2 := by unfold zWd at hc; rcases hc with rfl | rfl | rfl <;> decide +kernel
theorem nk_9_20 {c : Int} (hc : zWd c) : ¬ (c + 20) = 114 := by unfold zWd at hc; omega
theorem k_9_20 {h : zM} {c : Int} (s : okC h) (hc : zWd c) : shC (c + 20) = .inl 2 ∧ 0 ≤ (c + 20) ∧ (c + 20) < h.1 := kLc s (kk_9_20 hc) rfl (by have := zWd_b hc; omega)
theorem rf_9_20_0 {h : zM} {c : Int} (s : okC h) (hc : zWd c) : h.2 (c + 20) 0 = (c + 21) := zeqe (a := (c + 20) + 1) (okC_k s (kk_9_20 hc) 0) (by omega)
theorem kka_9_20_0 {c : Int} (hc : zWd c) : kC (c + 21) = 32 := by unfold zWd at hc; rcases hc with rfl | rfl | rfl <;> decide +kernel
theorem na_9_20_0 {c : Int} (hc : zWd c) : ¬ (c + 21) = 114 ∧ ¬ (c + 21) = 0 := by unfold zWd at hc; omega
theorem ka_9_20_0 {h : zM} {c : Int} (s : okC h) (hc : zWd c) : shC (c + 21) = .inr (0, 18) ∧ 0 ≤ (c + 21) ∧ (c + 21) < h.1 := kLc s (kka_9_20_0 hc) rfl (by have := zWd_b hc; omega)
theorem pa_9_20_0 {c : Int} {v : Int} (hc : zWd c) (hv : (-2147483648) ≤ v ∧ v ≤ 2147483647) (j : Int) : PC (c + 21) j v := PC_k (kka_9_20_0 hc) hv
theorem ab_9_20_0 {h : zM} {c : Int} (s : okC h) (hc : zWd c) (j : Int) : (-2147483648) ≤ h.2 (c + 21) j ∧ h.2 (c + 21) j ≤ 2147483647 := okC_k s (kka_9_20_0 hc) j
theorem aw_9_20_0 {h h' : zM} {c : Int} {v j : Int} (s : okC h) (hc : zWd c) (e : h' = zwr h (c + 21) j v) (hv : (-2147483648) ≤ v ∧ v ≤ 2147483647) : okC h' := okC_w s e (pa_9_20_0 hc hv j) (na_9_20_0 hc).1 (fun q => (na_9_20_0 hc).2 q.1)
theorem fb_9_20_1 {h : zM} {c : Int} (s : okC h) (hc : zWd c) : (-2147483648) ≤ h.2 (c + 20) 1 ∧ h.2 (c + 20) 1 ≤ 2147483647 := okC_k s (kk_9_20 hc) 1
theorem fw_9_20_1 {h h' : zM} {c : Int} {v : Int} (s : okC h) (hc : zWd c) (e : h' = zwr h (c + 20) 1 v) (hv : (-2147483648) ≤ v ∧ v ≤ 2147483647) : okC h' := okC_w s e (PC_k (kk_9_20 hc) hv) (nk_9_20 hc) (fun q => absurd q.1 (by have := zWd_b hc; omega))
theorem zs_9_22 {c : Int} (hc : zWd c) : zBo (c + 22) := by unfold zWd at hc; unfold zBo; omega
theorem kk_9_22 {c : Int} (hc : zWd c) : kC (c + 22) = 0 := by unfold zWd at hc; rcases hc with rfl | rfl | rfl <;> decide +kernel
theorem nk_9_22 {c : Int} (hc : zWd c) : ¬ (c + 22) = 114 := by unfold zWd at hc; omega
theorem k_9_22 {h : zM} {c : Int} (s : okC h) (hc : zWd c) : shC (c + 22) = .inl 0 ∧ 0 ≤ (c + 22) ∧ (c + 22) < h.1 := kLc s (kk_9_22 hc) rfl (by have := zWd_b hc; omega)
theorem rf_9_22_0 {h : zM} {c : Int} (s : okC h) (hc : zWd c) : h.2 (c + 22) 0 = (c + 23) := zeqe (a := (c + 22) + 1) (okC_k s (kk_9_22 hc) 0) (by omega)
theorem kka_9_22_0 {c : Int} (hc : zWd c) : kC (c + 23) = 33 := by unfold zWd at hc; rcases hc with rfl | rfl | rfl <;> decide +kernel
theorem na_9_22_0 {c : Int} (hc : zWd c) : ¬ (c + 23) = 114 ∧ ¬ (c + 23) = 0 := by unfold zWd at hc; omega
theorem ka_9_22_0 {h : zM} {c : Int} (s : okC h) (hc : zWd c) : shC (c + 23) = .inr (0, 150) ∧ 0 ≤ (c + 23) ∧ (c + 23) < h.1 := kLc s (kka_9_22_0 hc) rfl (by have := zWd_b hc; omega)
theorem pa_9_22_0 {c : Int} {v : Int} (hc : zWd c) (hv : (-2147483648) ≤ v ∧ v ≤ 2147483647) (j : Int) : PC (c + 23) j v := PC_k (kka_9_22_0 hc) hv
theorem ab_9_22_0 {h : zM} {c : Int} (s : okC h) (hc : zWd c) (j : Int) : (-2147483648) ≤ h.2 (c + 23) j ∧ h.2 (c + 23) j ≤ 2147483647 := okC_k s (kka_9_22_0 hc) j
theorem aw_9_22_0 {h h' : zM} {c : Int} {v j : Int} (s : okC h) (hc : zWd c) (e : h' = zwr h (c + 23) j v) (hv : (-2147483648) ≤ v ∧ v ≤ 2147483647) : okC h' := okC_w s e (pa_9_22_0 hc hv j) (na_9_22_0 hc).1 (fun q => (na_9_22_0 hc).2 q.1)
theorem rf_9_22_1 {h : zM} {c : Int} (s : okC h) (hc : zWd c) : h.2 (c + 22) 1 = (c + 24) := zeqe (a := (c + 22) + 2) (okC_k s (kk_9_22 hc) 1) (by omega)
theorem kka_9_22_1 {c : Int} (hc : zWd c) : kC (c + 24) = 34 := by unfold zWd at hc; rcases hc with rfl | rfl | rfl <;> decide +kernel
theorem na_9_22_1 {c : Int} (hc : zWd c) : ¬ (c + 24) = 114 ∧ ¬ (c + 24) = 0 := by unfold zWd at hc; omega
theorem ka_9_22_1 {h : zM} {c : Int} (s : okC h) (hc : zWd c) : shC (c + 24) = .inr (0, 150) ∧ 0 ≤ (c + 24) ∧ (c + 24) < h.1 := kLc s (kka_9_22_1 hc) rfl (by have := zWd_b hc; omega)
theorem pa_9_22_1 {c : Int} {v : Int} (hc : zWd c) (hv : (-2147483648) ≤ v ∧ v ≤ 2147483647) (j : Int) : PC (c + 24) j v := PC_k (kka_9_22_1 hc) hv
theorem ab_9_22_1 {h : zM} {c : Int} (s : okC h) (hc : zWd c) (j : Int) : (-2147483648) ≤ h.2 (c + 24) j ∧ h.2 (c + 24) j ≤ 2147483647 := okC_k s (kka_9_22_1 hc) j
theorem aw_9_22_1 {h h' : zM} {c : Int} {v j : Int} (s : okC h) (hc : zWd c) (e : h' = zwr h (c + 24) j v) (hv : (-2147483648) ≤ v ∧ v ≤ 2147483647) : okC h' := okC_w s e (pa_9_22_1 hc hv j) (na_9_22_1 hc).1 (fun q => (na_9_22_1 hc).2 q.1)
theorem rf_9_22_2 {h : zM} {c : Int} (s : okC h) (hc : zWd c) : h.2 (c + 22) 2 = (c + 25) := zeqe (a := (c + 22) + 3) (okC_k s (kk_9_22 hc) 2) (by omega)
theorem kka_9_22_2 {c : Int} (hc : zWd c) : kC (c + 25) = 35 := by unfold zWd at hc; rcases hc with rfl | rfl | rfl <;> decide +kernel
theorem na_9_22_2 {c : Int} (hc : zWd c) : ¬ (c + 25) = 114 ∧ ¬ (c + 25) = 0 := by unfold zWd at hc; omega
theorem ka_9_22_2 {h : zM} {c : Int} (s : okC h) (hc : zWd c) : shC (c + 25) = .inr (0, 150) ∧ 0 ≤ (c + 25) ∧ (c + 25) < h.1 := kLc s (kka_9_22_2 hc) rfl (by have := zWd_b hc; omega)
theorem pa_9_22_2 {c : Int} {v : Int} (hc : zWd c) (hv : (-2147483648) ≤ v ∧ v ≤ 2147483647) (j : Int) : PC (c + 25) j v := PC_k (kka_9_22_2 hc) hv
theorem ab_9_22_2 {h : zM} {c : Int} (s : okC h) (hc : zWd c) (j : Int) : (-2147483648) ≤ h.2 (c + 25) j ∧ h.2 (c + 25) j ≤ 2147483647 := okC_k s (kka_9_22_2 hc) j
theorem aw_9_22_2 {h h' : zM} {c : Int} {v j : Int} (s : okC h) (hc : zWd c) (e : h' = zwr h (c + 25) j v) (hv : (-2147483648) ≤ v ∧ v ≤ 2147483647) : okC h' := okC_w s e (pa_9_22_2 hc hv j) (na_9_22_2 hc).1 (fun q => (na_9_22_2 hc).2 q.1)
theorem rf_9_22_3 {h : zM} {c : Int} (s : okC h) (hc : zWd c) : h.2 (c + 22) 3 = (c + 26) := zeqe (a := (c + 22) + 4) (okC_k s (kk_9_22 hc) 3) (by omega)
theorem kka_9_22_3 {c : Int} (hc : zWd c) : kC (c + 26) = 36 := by unfold zWd at hc; rcases hc with rfl | rfl | rfl <;> decide +kernel
theorem na_9_22_3 {c : Int} (hc : zWd c) : ¬ (c + 26) = 114 ∧ ¬ (c + 26) = 0 := by unfold zWd at hc; omega
theorem ka_9_22_3 {h : zM} {c : Int} (s : okC h) (hc : zWd c) : shC (c + 26) = .inr (0, 150) ∧ 0 ≤ (c + 26) ∧ (c + 26) < h.1 := kLc s (kka_9_22_3 hc) rfl (by have := zWd_b hc; omega)
theorem pa_9_22_3 {c : Int} {v : Int} (hc : zWd c) (hv : (-2147483648) ≤ v ∧ v ≤ 2147483647) (j : Int) : PC (c + 26) j v := PC_k (kka_9_22_3 hc) hv
theorem ab_9_22_3 {h : zM} {c : Int} (s : okC h) (hc : zWd c) (j : Int) : (-2147483648) ≤ h.2 (c + 26) j ∧ h.2 (c + 26) j ≤ 2147483647 := okC_k s (kka_9_22_3 hc) j
theorem aw_9_22_3 {h h' : zM} {c : Int} {v j : Int} (s : okC h) (hc : zWd c) (e : h' = zwr h (c + 26) j v) (hv : (-2147483648) ≤ v ∧ v ≤ 2147483647) : okC h' := okC_w s e (pa_9_22_3 hc hv j) (na_9_22_3 hc).1 (fun q => (na_9_22_3 hc).2 q.1)
theorem fb_9_22_4 {h : zM} {c : Int} (s : okC h) (hc : zWd c) : 0 ≤ h.2 (c + 22) 4 ∧ h.2 (c + 22) 4 ≤ 150 := okC_k s (kk_9_22 hc) 4
theorem fw_9_22_4 {h h' : zM} {c : Int} {v : Int} (s : okC h) (hc : zWd c) (e : h' = zwr h (c + 22) 4 v) (hv : 0 ≤ v ∧ v ≤ 150) : okC h' := okC_w s e (PC_k (kk_9_22 hc) hv) (nk_9_22 hc) (fun q => absurd q.1 (by have := zWd_b hc; omega))
theorem zs_9_27 {c : Int} (hc : zWd c) : zPu (c + 27) := by unfold zWd at hc; unfold zPu; omega
theorem kk_9_27 {c : Int} (hc : zWd c) : kC (c + 27) = 5 := by unfold zWd at hc; rcases hc with rfl | rfl | rfl <;> decide +kernel
theorem nk_9_27 {c : Int} (hc : zWd c) : ¬ (c + 27) = 114 := by unfold zWd at hc; omega
theorem k_9_27 {h : zM} {c : Int} (s : okC h) (hc : zWd c) : shC (c + 27) = .inl 5 ∧ 0 ≤ (c + 27) ∧ (c + 27) < h.1 := kLc s (kk_9_27 hc) rfl (by have := zWd_b hc; omega)
theorem rf_9_27_0 {h : zM} {c : Int} (s : okC h) (hc : zWd c) : h.2 (c + 27) 0 = (c + 28) := zeqe (a := (c + 27) + 1) (okC_k s (kk_9_27 hc) 0) (by omega)
theorem kka_9_27_0 {c : Int} (hc : zWd c) : kC (c + 28) = 37 := by unfold zWd at hc; rcases hc with rfl | rfl | rfl <;> decide +kernel
theorem na_9_27_0 {c : Int} (hc : zWd c) : ¬ (c + 28) = 114 ∧ ¬ (c + 28) = 0 := by unfold zWd at hc; omega
theorem ka_9_27_0 {h : zM} {c : Int} (s : okC h) (hc : zWd c) : shC (c + 28) = .inr (0, 5) ∧ 0 ≤ (c + 28) ∧ (c + 28) < h.1 := kLc s (kka_9_27_0 hc) rfl (by have := zWd_b hc; omega)
theorem pa_9_27_0 {c : Int} {v : Int} (hc : zWd c) (hv : (-2147483648) ≤ v ∧ v ≤ 2147483647) (j : Int) : PC (c + 28) j v := PC_k (kka_9_27_0 hc) hv
theorem ab_9_27_0 {h : zM} {c : Int} (s : okC h) (hc : zWd c) (j : Int) : (-2147483648) ≤ h.2 (c + 28) j ∧ h.2 (c + 28) j ≤ 2147483647 := okC_k s (kka_9_27_0 hc) j
theorem aw_9_27_0 {h h' : zM} {c : Int} {v j : Int} (s : okC h) (hc : zWd c) (e : h' = zwr h (c + 28) j v) (hv : (-2147483648) ≤ v ∧ v ≤ 2147483647) : okC h' := okC_w s e (pa_9_27_0 hc hv j) (na_9_27_0 hc).1 (fun q => (na_9_27_0 hc).2 q.1)
theorem rf_9_27_1 {h : zM} {c : Int} (s : okC h) (hc : zWd c) : h.2 (c + 27) 1 = (c + 29) := zeqe (a := (c + 27) + 2) (okC_k s (kk_9_27 hc) 1) (by omega)
theorem kka_9_27_1 {c : Int} (hc : zWd c) : kC (c + 29) = 38 := by unfold zWd at hc; rcases hc with rfl | rfl | rfl <;> decide +kernel
theorem na_9_27_1 {c : Int} (hc : zWd c) : ¬ (c + 29) = 114 ∧ ¬ (c + 29) = 0 := by unfold zWd at hc; omega
theorem ka_9_27_1 {h : zM} {c : Int} (s : okC h) (hc : zWd c) : shC (c + 29) = .inr (1, 5) ∧ 0 ≤ (c + 29) ∧ (c + 29) < h.1 := kLc s (kka_9_27_1 hc) rfl (by have := zWd_b hc; omega)
theorem pa_9_27_1 {c : Int} {v : Int} (hc : zWd c) (hv : 0 ≤ v ∧ v ≤ 1) (j : Int) : PC (c + 29) j v := PC_k (kka_9_27_1 hc) hv
theorem ab_9_27_1 {h : zM} {c : Int} (s : okC h) (hc : zWd c) (j : Int) : 0 ≤ h.2 (c + 29) j ∧ h.2 (c + 29) j ≤ 1 := okC_k s (kka_9_27_1 hc) j
theorem aw_9_27_1 {h h' : zM} {c : Int} {v j : Int} (s : okC h) (hc : zWd c) (e : h' = zwr h (c + 29) j v) (hv : 0 ≤ v ∧ v ≤ 1) : okC h' := okC_w s e (pa_9_27_1 hc hv j) (na_9_27_1 hc).1 (fun q => (na_9_27_1 hc).2 q.1)
theorem fb_9_27_2 {h : zM} {c : Int} (s : okC h) (hc : zWd c) : 0 ≤ h.2 (c + 27) 2 ∧ h.2 (c + 27) 2 ≤ 5 := okC_k s (kk_9_27 hc) 2
theorem fw_9_27_2 {h h' : zM} {c : Int} {v : Int} (s : okC h) (hc : zWd c) (e : h' = zwr h (c + 27) 2 v) (hv : 0 ≤ v ∧ v ≤ 5) : okC h' := okC_w s e (PC_k (kk_9_27 hc) hv) (nk_9_27 hc) (fun q => absurd q.1 (by have := zWd_b hc; omega))
theorem rf_9_27_3 {h : zM} {c : Int} (s : okC h) (hc : zWd c) : h.2 (c + 27) 3 = (c + 30) := zeqe (a := (c + 27) + 3) (okC_k s (kk_9_27 hc) 3) (by omega)
theorem kka_9_27_3 {c : Int} (hc : zWd c) : kC (c + 30) = 39 := by unfold zWd at hc; rcases hc with rfl | rfl | rfl <;> decide +kernel
theorem na_9_27_3 {c : Int} (hc : zWd c) : ¬ (c + 30) = 114 ∧ ¬ (c + 30) = 0 := by unfold zWd at hc; omega
theorem ka_9_27_3 {h : zM} {c : Int} (s : okC h) (hc : zWd c) : shC (c + 30) = .inr (0, 8) ∧ 0 ≤ (c + 30) ∧ (c + 30) < h.1 := kLc s (kka_9_27_3 hc) rfl (by have := zWd_b hc; omega)
theorem pa_9_27_3 {c : Int} {v : Int} (hc : zWd c) (hv : (-2147483648) ≤ v ∧ v ≤ 2147483647) (j : Int) : PC (c + 30) j v := PC_k (kka_9_27_3 hc) hv
theorem ab_9_27_3 {h : zM} {c : Int} (s : okC h) (hc : zWd c) (j : Int) : (-2147483648) ≤ h.2 (c + 30) j ∧ h.2 (c + 30) j ≤ 2147483647 := okC_k s (kka_9_27_3 hc) j
theorem aw_9_27_3 {h h' : zM} {c : Int} {v j : Int} (s : okC h) (hc : zWd c) (e : h' = zwr h (c + 30) j v) (hv : (-2147483648) ≤ v ∧ v ≤ 2147483647) : okC h' := okC_w s e (pa_9_27_3 hc hv j) (na_9_27_3 hc).1 (fun q => (na_9_27_3 hc).2 q.1)
theorem fb_9_27_4 {h : zM} {c : Int} (s : okC h) (hc : zWd c) : 0 ≤ h.2 (c + 27) 4 ∧ h.2 (c + 27) 4 ≤ 8 := okC_k s (kk_9_27 hc) 4
theorem fw_9_27_4 {h h' : zM} {c : Int} {v : Int} (s : okC h) (hc : zWd c) (e : h' = zwr h (c + 27) 4 v) (hv : 0 ≤ v ∧ v ≤ 8) : okC h' := okC_w s e (PC_k (kk_9_27 hc) hv) (nk_9_27 hc) (fun q => absurd q.1 (by have := zWd_b hc; omega))
theorem rf_9_27_5 {h : zM} {c : Int} (s : okC h) (hc : zWd c) : h.2 (c + 27) 5 = (c + 31) := zeqe (a := (c + 27) + 4) (okC_k s (kk_9_27 hc) 5) (by omega)
theorem kka_9_27_5 {c : Int} (hc : zWd c) : kC (c + 31) = 40 := by unfold zWd at hc; rcases hc with rfl | rfl | rfl <;> decide +kernel
theorem na_9_27_5 {c : Int} (hc : zWd c) : ¬ (c + 31) = 114 ∧ ¬ (c + 31) = 0 := by unfold zWd at hc; omega
theorem ka_9_27_5 {h : zM} {c : Int} (s : okC h) (hc : zWd c) : shC (c + 31) = .inr (0, 7) ∧ 0 ≤ (c + 31) ∧ (c + 31) < h.1 := kLc s (kka_9_27_5 hc) rfl (by have := zWd_b hc; omega)
theorem pa_9_27_5 {c : Int} {v : Int} (hc : zWd c) (hv : (-2147483648) ≤ v ∧ v ≤ 2147483647) (j : Int) : PC (c + 31) j v := PC_k (kka_9_27_5 hc) hv
theorem ab_9_27_5 {h : zM} {c : Int} (s : okC h) (hc : zWd c) (j : Int) : (-2147483648) ≤ h.2 (c + 31) j ∧ h.2 (c + 31) j ≤ 2147483647 := okC_k s (kka_9_27_5 hc) j
theorem aw_9_27_5 {h h' : zM} {c : Int} {v j : Int} (s : okC h) (hc : zWd c) (e : h' = zwr h (c + 31) j v) (hv : (-2147483648) ≤ v ∧ v ≤ 2147483647) : okC h' := okC_w s e (pa_9_27_5 hc hv j) (na_9_27_5 hc).1 (fun q => (na_9_27_5 hc).2 q.1)
theorem fb_9_27_6 {h : zM} {c : Int} (s : okC h) (hc : zWd c) : 0 ≤ h.2 (c + 27) 6 ∧ h.2 (c + 27) 6 ≤ 7 := okC_k s (kk_9_27 hc) 6
theorem fw_9_27_6 {h h' : zM} {c : Int} {v : Int} (s : okC h) (hc : zWd c) (e : h' = zwr h (c + 27) 6 v) (hv : 0 ≤ v ∧ v ≤ 7) : okC h' := okC_w s e (PC_k (kk_9_27 hc) hv) (nk_9_27 hc) (fun q => absurd q.1 (by have := zWd_b hc; omega))
theorem rf_9_27_7 {h : zM} {c : Int} (s : okC h) (hc : zWd c) : h.2 (c + 27) 7 = (c + 32) := zeqe (a := (c + 27) + 5) (okC_k s (kk_9_27 hc) 7) (by omega)
theorem kka_9_27_7 {c : Int} (hc : zWd c) : kC (c + 32) = 41 := by unfold zWd at hc; rcases hc with rfl | rfl | rfl <;> decide +kernel
theorem na_9_27_7 {c : Int} (hc : zWd c) : ¬ (c + 32) = 114 ∧ ¬ (c + 32) = 0 := by unfold zWd at hc; omega
theorem ka_9_27_7 {h : zM} {c : Int} (s : okC h) (hc : zWd c) : shC (c + 32) = .inr (0, 6) ∧ 0 ≤ (c + 32) ∧ (c + 32) < h.1 := kLc s (kka_9_27_7 hc) rfl (by have := zWd_b hc; omega)
theorem pa_9_27_7 {c : Int} {v : Int} (hc : zWd c) (hv : (-2147483648) ≤ v ∧ v ≤ 2147483647) (j : Int) : PC (c + 32) j v := PC_k (kka_9_27_7 hc) hv
theorem ab_9_27_7 {h : zM} {c : Int} (s : okC h) (hc : zWd c) (j : Int) : (-2147483648) ≤ h.2 (c + 32) j ∧ h.2 (c + 32) j ≤ 2147483647 := okC_k s (kka_9_27_7 hc) j
theorem aw_9_27_7 {h h' : zM} {c : Int} {v j : Int} (s : okC h) (hc : zWd c) (e : h' = zwr h (c + 32) j v) (hv : (-2147483648) ≤ v ∧ v ≤ 2147483647) : okC h' := okC_w s e (pa_9_27_7 hc hv j) (na_9_27_7 hc).1 (fun q => (na_9_27_7 hc).2 q.1)
theorem rf_9_27_8 {h : zM} {c : Int} (s : okC h) (hc : zWd c) : h.2 (c + 27) 8 = (c + 33) := zeqe (a := (c + 27) + 6) (okC_k s (kk_9_27 hc) 8) (by omega)
theorem kka_9_27_8 {c : Int} (hc : zWd c) : kC (c + 33) = 42 := by unfold zWd at hc; rcases hc with rfl | rfl | rfl <;> decide +kernel
theorem na_9_27_8 {c : Int} (hc : zWd c) : ¬ (c + 33) = 114 ∧ ¬ (c + 33) = 0 := by unfold zWd at hc; omega
theorem ka_9_27_8 {h : zM} {c : Int} (s : okC h) (hc : zWd c) : shC (c + 33) = .inr (0, 6) ∧ 0 ≤ (c + 33) ∧ (c + 33) < h.1 := kLc s (kka_9_27_8 hc) rfl (by have := zWd_b hc; omega)
theorem pa_9_27_8 {c : Int} {v : Int} (hc : zWd c) (hv : (-2147483648) ≤ v ∧ v ≤ 2147483647) (j : Int) : PC (c + 33) j v := PC_k (kka_9_27_8 hc) hv
theorem ab_9_27_8 {h : zM} {c : Int} (s : okC h) (hc : zWd c) (j : Int) : (-2147483648) ≤ h.2 (c + 33) j ∧ h.2 (c + 33) j ≤ 2147483647 := okC_k s (kka_9_27_8 hc) j
theorem aw_9_27_8 {h h' : zM} {c : Int} {v j : Int} (s : okC h) (hc : zWd c) (e : h' = zwr h (c + 33) j v) (hv : (-2147483648) ≤ v ∧ v ≤ 2147483647) : okC h' := okC_w s e (pa_9_27_8 hc hv j) (na_9_27_8 hc).1 (fun q => (na_9_27_8 hc).2 q.1)
theorem fb_9_27_9 {h : zM} {c : Int} (s : okC h) (hc : zWd c) : 0 ≤ h.2 (c + 27) 9 ∧ h.2 (c + 27) 9 ≤ 6 := okC_k s (kk_9_27 hc) 9
theorem fw_9_27_9 {h h' : zM} {c : Int} {v : Int} (s : okC h) (hc : zWd c) (e : h' = zwr h (c + 27) 9 v) (hv : 0 ≤ v ∧ v ≤ 6) : okC h' := okC_w s e (PC_k (kk_9_27 hc) hv) (nk_9_27 hc) (fun q => absurd q.1 (by have := zWd_b hc; omega))
theorem kk_1_0 {c : Int} (hc : zIs c) : kC c = 1 := by unfold zIs at hc; rcases hc with rfl | rfl | rfl | rfl | rfl | rfl | rfl | rfl | rfl <;> decide +kernel
theorem nk_1_0 {c : Int} (hc : zIs c) : ¬ c = 114 := by unfold zIs at hc; omega
theorem k_1_0 {h : zM} {c : Int} (s : okC h) (hc : zIs c) : shC c = .inl 1 ∧ 0 ≤ c ∧ c < h.1 := kLc s (kk_1_0 hc) rfl (by have := zIs_b hc; omega)
theorem rf_1_0_0 {h : zM} {c : Int} (s : okC h) (hc : zIs c) : h.2 c 0 = (c + 1) := zeqe (a := c + 1) (okC_k s (kk_1_0 hc) 0) (by omega)
theorem kka_1_0_0 {c : Int} (hc : zIs c) : kC (c + 1) = 20 := by unfold zIs at hc; rcases hc with rfl | rfl | rfl | rfl | rfl | rfl | rfl | rfl | rfl <;> decide +kernel
theorem na_1_0_0 {c : Int} (hc : zIs c) : ¬ (c + 1) = 114 ∧ ¬ (c + 1) = 0 := by unfold zIs at hc; omega
theorem ka_1_0_0 {h : zM} {c : Int} (s : okC h) (hc : zIs c) : shC (c + 1) = .inr (0, 18) ∧ 0 ≤ (c + 1) ∧ (c + 1) < h.1 := kLc s (kka_1_0_0 hc) rfl (by have := zIs_b hc; omega)
theorem pa_1_0_0 {c : Int} {v : Int} (hc : zIs c) (hv : (-2147483648) ≤ v ∧ v ≤ 2147483647) (j : Int) : PC (c + 1) j v := PC_k (kka_1_0_0 hc) hv
theorem ab_1_0_0 {h : zM} {c : Int} (s : okC h) (hc : zIs c) (j : Int) : (-2147483648) ≤ h.2 (c + 1) j ∧ h.2 (c + 1) j ≤ 2147483647 := okC_k s (kka_1_0_0 hc) j
theorem aw_1_0_0 {h h' : zM} {c : Int} {v j : Int} (s : okC h) (hc : zIs c) (e : h' = zwr h (c + 1) j v) (hv : (-2147483648) ≤ v ∧ v ≤ 2147483647) : okC h' := okC_w s e (pa_1_0_0 hc hv j) (na_1_0_0 hc).1 (fun q => (na_1_0_0 hc).2 q.1)
theorem rf_1_0_1 {h : zM} {c : Int} (s : okC h) (hc : zIs c) : h.2 c 1 = (c + 2) := zeqe (a := c + 2) (okC_k s (kk_1_0 hc) 1) (by omega)
theorem kka_1_0_1 {c : Int} (hc : zIs c) : kC (c + 2) = 21 := by unfold zIs at hc; rcases hc with rfl | rfl | rfl | rfl | rfl | rfl | rfl | rfl | rfl <;> decide +kernel
theorem na_1_0_1 {c : Int} (hc : zIs c) : ¬ (c + 2) = 114 ∧ ¬ (c + 2) = 0 := by unfold zIs at hc; omega
theorem ka_1_0_1 {h : zM} {c : Int} (s : okC h) (hc : zIs c) : shC (c + 2) = .inr (0, 18) ∧ 0 ≤ (c + 2) ∧ (c + 2) < h.1 := kLc s (kka_1_0_1 hc) rfl (by have := zIs_b hc; omega)
theorem pa_1_0_1 {c : Int} {v : Int} (hc : zIs c) (hv : (-2147483648) ≤ v ∧ v ≤ 2147483647) (j : Int) : PC (c + 2) j v := PC_k (kka_1_0_1 hc) hv
theorem ab_1_0_1 {h : zM} {c : Int} (s : okC h) (hc : zIs c) (j : Int) : (-2147483648) ≤ h.2 (c + 2) j ∧ h.2 (c + 2) j ≤ 2147483647 := okC_k s (kka_1_0_1 hc) j
theorem aw_1_0_1 {h h' : zM} {c : Int} {v j : Int} (s : okC h) (hc : zIs c) (e : h' = zwr h (c + 2) j v) (hv : (-2147483648) ≤ v ∧ v ≤ 2147483647) : okC h' := okC_w s e (pa_1_0_1 hc hv j) (na_1_0_1 hc).1 (fun q => (na_1_0_1 hc).2 q.1)
theorem rf_1_0_2 {h : zM} {c : Int} (s : okC h) (hc : zIs c) : h.2 c 2 = (c + 3) := zeqe (a := c + 3) (okC_k s (kk_1_0 hc) 2) (by omega)
theorem kka_1_0_2 {c : Int} (hc : zIs c) : kC (c + 3) = 22 := by unfold zIs at hc; rcases hc with rfl | rfl | rfl | rfl | rfl | rfl | rfl | rfl | rfl <;> decide +kernel
theorem na_1_0_2 {c : Int} (hc : zIs c) : ¬ (c + 3) = 114 ∧ ¬ (c + 3) = 0 := by unfold zIs at hc; omega
theorem ka_1_0_2 {h : zM} {c : Int} (s : okC h) (hc : zIs c) : shC (c + 3) = .inr (0, 18) ∧ 0 ≤ (c + 3) ∧ (c + 3) < h.1 := kLc s (kka_1_0_2 hc) rfl (by have := zIs_b hc; omega)
theorem pa_1_0_2 {c : Int} {v : Int} (hc : zIs c) (hv : (-2147483648) ≤ v ∧ v ≤ 2147483647) (j : Int) : PC (c + 3) j v := PC_k (kka_1_0_2 hc) hv
theorem ab_1_0_2 {h : zM} {c : Int} (s : okC h) (hc : zIs c) (j : Int) : (-2147483648) ≤ h.2 (c + 3) j ∧ h.2 (c + 3) j ≤ 2147483647 := okC_k s (kka_1_0_2 hc) j
theorem aw_1_0_2 {h h' : zM} {c : Int} {v j : Int} (s : okC h) (hc : zIs c) (e : h' = zwr h (c + 3) j v) (hv : (-2147483648) ≤ v ∧ v ≤ 2147483647) : okC h' := okC_w s e (pa_1_0_2 hc hv j) (na_1_0_2 hc).1 (fun q => (na_1_0_2 hc).2 q.1)
theorem fb_1_0_3 {h : zM} {c : Int} (s : okC h) (hc : zIs c) : 0 ≤ h.2 c 3 ∧ h.2 c 3 ≤ 18 := okC_k s (kk_1_0 hc) 3
theorem fw_1_0_3 {h h' : zM} {c : Int} {v : Int} (s : okC h) (hc : zIs c) (e : h' = zwr h c 3 v) (hv : 0 ≤ v ∧ v ≤ 18) : okC h' := okC_w s e (PC_k (kk_1_0 hc) hv) (nk_1_0 hc) (fun q => absurd q.1 (by have := zIs_b hc; omega))
theorem fb_1_0_4 {h : zM} {c : Int} (s : okC h) (hc : zIs c) : (-2147483648) ≤ h.2 c 4 ∧ h.2 c 4 ≤ 2147483647 := okC_k s (kk_1_0 hc) 4
theorem fw_1_0_4 {h h' : zM} {c : Int} {v : Int} (s : okC h) (hc : zIs c) (e : h' = zwr h c 4 v) (hv : (-2147483648) ≤ v ∧ v ≤ 2147483647) : okC h' := okC_w s e (PC_k (kk_1_0 hc) hv) (nk_1_0 hc) (fun q => absurd q.1 (by have := zIs_b hc; omega))
theorem fb_1_0_5 {h : zM} {c : Int} (s : okC h) (hc : zIs c) : (-2147483648) ≤ h.2 c 5 ∧ h.2 c 5 ≤ 2147483647 := okC_k s (kk_1_0 hc) 5
theorem fw_1_0_5 {h h' : zM} {c : Int} {v : Int} (s : okC h) (hc : zIs c) (e : h' = zwr h c 5 v) (hv : (-2147483648) ≤ v ∧ v ≤ 2147483647) : okC h' := okC_w s e (PC_k (kk_1_0 hc) hv) (nk_1_0 hc) (fun q => absurd q.1 (by have := zIs_b hc; omega))
theorem fb_1_0_6 {h : zM} {c : Int} (s : okC h) (hc : zIs c) : 0 ≤ h.2 c 6 ∧ h.2 c 6 ≤ 719 := okC_k s (kk_1_0 hc) 6
theorem fw_1_0_6 {h h' : zM} {c : Int} {v : Int} (s : okC h) (hc : zIs c) (e : h' = zwr h c 6 v) (hv : 0 ≤ v ∧ v ≤ 719) : okC h' := okC_w s e (PC_k (kk_1_0 hc) hv) (nk_1_0 hc) (fun q => absurd q.1 (by have := zIs_b hc; omega))
theorem fb_1_0_7 {h : zM} {c : Int} (s : okC h) (hc : zIs c) : (-2147483648) ≤ h.2 c 7 ∧ h.2 c 7 ≤ 2147483647 := okC_k s (kk_1_0 hc) 7
theorem fw_1_0_7 {h h' : zM} {c : Int} {v : Int} (s : okC h) (hc : zIs c) (e : h' = zwr h c 7 v) (hv : (-2147483648) ≤ v ∧ v ≤ 2147483647) : okC h' := okC_w s e (PC_k (kk_1_0 hc) hv) (nk_1_0 hc) (fun q => absurd q.1 (by have := zIs_b hc; omega))
theorem fb_1_0_8 {h : zM} {c : Int} (s : okC h) (hc : zIs c) : (-2147483648) ≤ h.2 c 8 ∧ h.2 c 8 ≤ 2147483647 := okC_k s (kk_1_0 hc) 8
theorem fw_1_0_8 {h h' : zM} {c : Int} {v : Int} (s : okC h) (hc : zIs c) (e : h' = zwr h c 8 v) (hv : (-2147483648) ≤ v ∧ v ≤ 2147483647) : okC h' := okC_w s e (PC_k (kk_1_0 hc) hv) (nk_1_0 hc) (fun q => absurd q.1 (by have := zIs_b hc; omega))
theorem fb_1_0_9 {h : zM} {c : Int} (s : okC h) (hc : zIs c) : (-2147483648) ≤ h.2 c 9 ∧ h.2 c 9 ≤ 2147483647 := okC_k s (kk_1_0 hc) 9
theorem fw_1_0_9 {h h' : zM} {c : Int} {v : Int} (s : okC h) (hc : zIs c) (e : h' = zwr h c 9 v) (hv : (-2147483648) ≤ v ∧ v ≤ 2147483647) : okC h' := okC_w s e (PC_k (kk_1_0 hc) hv) (nk_1_0 hc) (fun q => absurd q.1 (by have := zIs_b hc; omega))
theorem fb_1_0_10 {h : zM} {c : Int} (s : okC h) (hc : zIs c) : (-2147483648) ≤ h.2 c 10 ∧ h.2 c 10 ≤ 2147483647 := okC_k s (kk_1_0 hc) 10
theorem fw_1_0_10 {h h' : zM} {c : Int} {v : Int} (s : okC h) (hc : zIs c) (e : h' = zwr h c 10 v) (hv : (-2147483648) ≤ v ∧ v ≤ 2147483647) : okC h' := okC_w s e (PC_k (kk_1_0 hc) hv) (nk_1_0 hc) (fun q => absurd q.1 (by have := zIs_b hc; omega))
theorem fb_1_0_11 {h : zM} {c : Int} (s : okC h) (hc : zIs c) : (-2147483648) ≤ h.2 c 11 ∧ h.2 c 11 ≤ 2147483647 := okC_k s (kk_1_0 hc) 11
theorem fw_1_0_11 {h h' : zM} {c : Int} {v : Int} (s : okC h) (hc : zIs c) (e : h' = zwr h c 11 v) (hv : (-2147483648) ≤ v ∧ v ≤ 2147483647) : okC h' := okC_w s e (PC_k (kk_1_0 hc) hv) (nk_1_0 hc) (fun q => absurd q.1 (by have := zIs_b hc; omega))
theorem fb_1_0_12 {h : zM} {c : Int} (s : okC h) (hc : zIs c) : (-2147483648) ≤ h.2 c 12 ∧ h.2 c 12 ≤ 2147483647 := okC_k s (kk_1_0 hc) 12
theorem fw_1_0_12 {h h' : zM} {c : Int} {v : Int} (s : okC h) (hc : zIs c) (e : h' = zwr h c 12 v) (hv : (-2147483648) ≤ v ∧ v ≤ 2147483647) : okC h' := okC_w s e (PC_k (kk_1_0 hc) hv) (nk_1_0 hc) (fun q => absurd q.1 (by have := zIs_b hc; omega))
theorem fb_1_0_13 {h : zM} {c : Int} (s : okC h) (hc : zIs c) : (-2147483648) ≤ h.2 c 13 ∧ h.2 c 13 ≤ 2147483647 := okC_k s (kk_1_0 hc) 13
theorem fw_1_0_13 {h h' : zM} {c : Int} {v : Int} (s : okC h) (hc : zIs c) (e : h' = zwr h c 13 v) (hv : (-2147483648) ≤ v ∧ v ≤ 2147483647) : okC h' := okC_w s e (PC_k (kk_1_0 hc) hv) (nk_1_0 hc) (fun q => absurd q.1 (by have := zIs_b hc; omega))
theorem kk_3_0 {c : Int} (hc : zLw c) : kC c = 3 := by unfold zLw at hc; rcases hc with rfl | rfl | rfl <;> decide +kernel
theorem nk_3_0 {c : Int} (hc : zLw c) : ¬ c = 114 := by unfold zLw at hc; omega
theorem k_3_0 {h : zM} {c : Int} (s : okC h) (hc : zLw c) : shC c = .inl 3 ∧ 0 ≤ c ∧ c < h.1 := kLc s (kk_3_0 hc) rfl (by have := zLw_b hc; omega)
theorem rf_3_0_0 {h : zM} {c : Int} (s : okC h) (hc : zLw c) : h.2 c 0 = (c + 1) := zeqe (a := c + 1) (okC_k s (kk_3_0 hc) 0) (by omega)
theorem kka_3_0_0 {c : Int} (hc : zLw c) : kC (c + 1) = 23 := by unfold zLw at hc; rcases hc with rfl | rfl | rfl <;> decide +kernel
theorem na_3_0_0 {c : Int} (hc : zLw c) : ¬ (c + 1) = 114 ∧ ¬ (c + 1) = 0 := by unfold zLw at hc; omega
theorem ka_3_0_0 {h : zM} {c : Int} (s : okC h) (hc : zLw c) : shC (c + 1) = .inr (0, 16) ∧ 0 ≤ (c + 1) ∧ (c + 1) < h.1 := kLc s (kka_3_0_0 hc) rfl (by have := zLw_b hc; omega)
theorem pa_3_0_0 {c : Int} {v : Int} (hc : zLw c) (hv : (-2147483648) ≤ v ∧ v ≤ 2147483647) (j : Int) : PC (c + 1) j v := PC_k (kka_3_0_0 hc) hv
theorem ab_3_0_0 {h : zM} {c : Int} (s : okC h) (hc : zLw c) (j : Int) : (-2147483648) ≤ h.2 (c + 1) j ∧ h.2 (c + 1) j ≤ 2147483647 := okC_k s (kka_3_0_0 hc) j
theorem aw_3_0_0 {h h' : zM} {c : Int} {v j : Int} (s : okC h) (hc : zLw c) (e : h' = zwr h (c + 1) j v) (hv : (-2147483648) ≤ v ∧ v ≤ 2147483647) : okC h' := okC_w s e (pa_3_0_0 hc hv j) (na_3_0_0 hc).1 (fun q => (na_3_0_0 hc).2 q.1)
theorem rf_3_0_1 {h : zM} {c : Int} (s : okC h) (hc : zLw c) : h.2 c 1 = (c + 2) := zeqe (a := c + 2) (okC_k s (kk_3_0 hc) 1) (by omega)
theorem kka_3_0_1 {c : Int} (hc : zLw c) : kC (c + 2) = 24 := by unfold zLw at hc; rcases hc with rfl | rfl | rfl <;> decide +kernel
theorem na_3_0_1 {c : Int} (hc : zLw c) : ¬ (c + 2) = 114 ∧ ¬ (c + 2) = 0 := by unfold zLw at hc; omega
theorem ka_3_0_1 {h : zM} {c : Int} (s : okC h) (hc : zLw c) : shC (c + 2) = .inr (0, 16) ∧ 0 ≤ (c + 2) ∧ (c + 2) < h.1 := kLc s (kka_3_0_1 hc) rfl (by have := zLw_b hc; omega)
theorem pa_3_0_1 {c : Int} {v : Int} (hc : zLw c) (hv : 0 ≤ v ∧ v ≤ 400) (j : Int) : PC (c + 2) j v := PC_k (kka_3_0_1 hc) hv
theorem ab_3_0_1 {h : zM} {c : Int} (s : okC h) (hc : zLw c) (j : Int) : 0 ≤ h.2 (c + 2) j ∧ h.2 (c + 2) j ≤ 400 := okC_k s (kka_3_0_1 hc) j
theorem aw_3_0_1 {h h' : zM} {c : Int} {v j : Int} (s : okC h) (hc : zLw c) (e : h' = zwr h (c + 2) j v) (hv : 0 ≤ v ∧ v ≤ 400) : okC h' := okC_w s e (pa_3_0_1 hc hv j) (na_3_0_1 hc).1 (fun q => (na_3_0_1 hc).2 q.1)
theorem rf_3_0_2 {h : zM} {c : Int} (s : okC h) (hc : zLw c) : h.2 c 2 = (c + 3) := zeqe (a := c + 3) (okC_k s (kk_3_0 hc) 2) (by omega)
theorem kka_3_0_2 {c : Int} (hc : zLw c) : kC (c + 3) = 25 := by unfold zLw at hc; rcases hc with rfl | rfl | rfl <;> decide +kernel
theorem na_3_0_2 {c : Int} (hc : zLw c) : ¬ (c + 3) = 114 ∧ ¬ (c + 3) = 0 := by unfold zLw at hc; omega
theorem ka_3_0_2 {h : zM} {c : Int} (s : okC h) (hc : zLw c) : shC (c + 3) = .inr (0, 16) ∧ 0 ≤ (c + 3) ∧ (c + 3) < h.1 := kLc s (kka_3_0_2 hc) rfl (by have := zLw_b hc; omega)
theorem pa_3_0_2 {c : Int} {v : Int} (hc : zLw c) (hv : 0 ≤ v ∧ v ≤ 400) (j : Int) : PC (c + 3) j v := PC_k (kka_3_0_2 hc) hv
theorem ab_3_0_2 {h : zM} {c : Int} (s : okC h) (hc : zLw c) (j : Int) : 0 ≤ h.2 (c + 3) j ∧ h.2 (c + 3) j ≤ 400 := okC_k s (kka_3_0_2 hc) j
theorem aw_3_0_2 {h h' : zM} {c : Int} {v j : Int} (s : okC h) (hc : zLw c) (e : h' = zwr h (c + 3) j v) (hv : 0 ≤ v ∧ v ≤ 400) : okC h' := okC_w s e (pa_3_0_2 hc hv j) (na_3_0_2 hc).1 (fun q => (na_3_0_2 hc).2 q.1)
theorem rf_3_0_3 {h : zM} {c : Int} (s : okC h) (hc : zLw c) : h.2 c 3 = (c + 4) := zeqe (a := c + 4) (okC_k s (kk_3_0 hc) 3) (by omega)
theorem kka_3_0_3 {c : Int} (hc : zLw c) : kC (c + 4) = 26 := by unfold zLw at hc; rcases hc with rfl | rfl | rfl <;> decide +kernel
theorem na_3_0_3 {c : Int} (hc : zLw c) : ¬ (c + 4) = 114 ∧ ¬ (c + 4) = 0 := by unfold zLw at hc; omega
theorem ka_3_0_3 {h : zM} {c : Int} (s : okC h) (hc : zLw c) : shC (c + 4) = .inr (0, 16) ∧ 0 ≤ (c + 4) ∧ (c + 4) < h.1 := kLc s (kka_3_0_3 hc) rfl (by have := zLw_b hc; omega)
theorem pa_3_0_3 {c : Int} {v : Int} (hc : zLw c) (hv : 0 ≤ v ∧ v ≤ 400) (j : Int) : PC (c + 4) j v := PC_k (kka_3_0_3 hc) hv
theorem ab_3_0_3 {h : zM} {c : Int} (s : okC h) (hc : zLw c) (j : Int) : 0 ≤ h.2 (c + 4) j ∧ h.2 (c + 4) j ≤ 400 := okC_k s (kka_3_0_3 hc) j
theorem aw_3_0_3 {h h' : zM} {c : Int} {v j : Int} (s : okC h) (hc : zLw c) (e : h' = zwr h (c + 4) j v) (hv : 0 ≤ v ∧ v ≤ 400) : okC h' := okC_w s e (pa_3_0_3 hc hv j) (na_3_0_3 hc).1 (fun q => (na_3_0_3 hc).2 q.1)
theorem rf_3_0_4 {h : zM} {c : Int} (s : okC h) (hc : zLw c) : h.2 c 4 = (c + 5) := zeqe (a := c + 5) (okC_k s (kk_3_0 hc) 4) (by omega)
theorem kka_3_0_4 {c : Int} (hc : zLw c) : kC (c + 5) = 27 := by unfold zLw at hc; rcases hc with rfl | rfl | rfl <;> decide +kernel
theorem na_3_0_4 {c : Int} (hc : zLw c) : ¬ (c + 5) = 114 ∧ ¬ (c + 5) = 0 := by unfold zLw at hc; omega
theorem ka_3_0_4 {h : zM} {c : Int} (s : okC h) (hc : zLw c) : shC (c + 5) = .inr (0, 400) ∧ 0 ≤ (c + 5) ∧ (c + 5) < h.1 := kLc s (kka_3_0_4 hc) rfl (by have := zLw_b hc; omega)
theorem pa_3_0_4 {c : Int} {v : Int} (hc : zLw c) (hv : (-2147483648) ≤ v ∧ v ≤ 2147483647) (j : Int) : PC (c + 5) j v := PC_k (kka_3_0_4 hc) hv
theorem ab_3_0_4 {h : zM} {c : Int} (s : okC h) (hc : zLw c) (j : Int) : (-2147483648) ≤ h.2 (c + 5) j ∧ h.2 (c + 5) j ≤ 2147483647 := okC_k s (kka_3_0_4 hc) j
theorem aw_3_0_4 {h h' : zM} {c : Int} {v j : Int} (s : okC h) (hc : zLw c) (e : h' = zwr h (c + 5) j v) (hv : (-2147483648) ≤ v ∧ v ≤ 2147483647) : okC h' := okC_w s e (pa_3_0_4 hc hv j) (na_3_0_4 hc).1 (fun q => (na_3_0_4 hc).2 q.1)
theorem rf_3_0_5 {h : zM} {c : Int} (s : okC h) (hc : zLw c) : h.2 c 5 = (c + 6) := zeqe (a := c + 6) (okC_k s (kk_3_0 hc) 5) (by omega)
theorem kka_3_0_5 {c : Int} (hc : zLw c) : kC (c + 6) = 28 := by unfold zLw at hc; rcases hc with rfl | rfl | rfl <;> decide +kernel
theorem na_3_0_5 {c : Int} (hc : zLw c) : ¬ (c + 6) = 114 ∧ ¬ (c + 6) = 0 := by unfold zLw at hc; omega
theorem ka_3_0_5 {h : zM} {c : Int} (s : okC h) (hc : zLw c) : shC (c + 6) = .inr (0, 64) ∧ 0 ≤ (c + 6) ∧ (c + 6) < h.1 := kLc s (kka_3_0_5 hc) rfl (by have := zLw_b hc; omega)
theorem pa_3_0_5 {c : Int} {v : Int} (hc : zLw c) (hv : (-2147483648) ≤ v ∧ v ≤ 2147483647) (j : Int) : PC (c + 6) j v := PC_k (kka_3_0_5 hc) hv
theorem ab_3_0_5 {h : zM} {c : Int} (s : okC h) (hc : zLw c) (j : Int) : (-2147483648) ≤ h.2 (c + 6) j ∧ h.2 (c + 6) j ≤ 2147483647 := okC_k s (kka_3_0_5 hc) j
theorem aw_3_0_5 {h h' : zM} {c : Int} {v j : Int} (s : okC h) (hc : zLw c) (e : h' = zwr h (c + 6) j v) (hv : (-2147483648) ≤ v ∧ v ≤ 2147483647) : okC h' := okC_w s e (pa_3_0_5 hc hv j) (na_3_0_5 hc).1 (fun q => (na_3_0_5 hc).2 q.1)
theorem fb_3_0_6 {h : zM} {c : Int} (s : okC h) (hc : zLw c) : 0 ≤ h.2 c 6 ∧ h.2 c 6 ≤ 16 := okC_k s (kk_3_0 hc) 6
theorem fw_3_0_6 {h h' : zM} {c : Int} {v : Int} (s : okC h) (hc : zLw c) (e : h' = zwr h c 6 v) (hv : 0 ≤ v ∧ v ≤ 16) : okC h' := okC_w s e (PC_k (kk_3_0 hc) hv) (nk_3_0 hc) (fun q => absurd q.1 (by have := zLw_b hc; omega))
theorem fb_3_0_7 {h : zM} {c : Int} (s : okC h) (hc : zLw c) : 0 ≤ h.2 c 7 ∧ h.2 c 7 ≤ 400 := okC_k s (kk_3_0 hc) 7
theorem fw_3_0_7 {h h' : zM} {c : Int} {v : Int} (s : okC h) (hc : zLw c) (e : h' = zwr h c 7 v) (hv : 0 ≤ v ∧ v ≤ 400) : okC h' := okC_w s e (PC_k (kk_3_0 hc) hv) (nk_3_0 hc) (fun q => absurd q.1 (by have := zLw_b hc; omega))
theorem kk_4_0 {c : Int} (hc : zPl c) : kC c = 4 := by unfold zPl at hc; rcases hc with rfl | rfl | rfl | rfl | rfl | rfl <;> decide +kernel
theorem nk_4_0 {c : Int} (hc : zPl c) : ¬ c = 114 := by unfold zPl at hc; omega
theorem k_4_0 {h : zM} {c : Int} (s : okC h) (hc : zPl c) : shC c = .inl 4 ∧ 0 ≤ c ∧ c < h.1 := kLc s (kk_4_0 hc) rfl (by have := zPl_b hc; omega)
theorem rf_4_0_0 {h : zM} {c : Int} (s : okC h) (hc : zPl c) : h.2 c 0 = (c + 1) := zeqe (a := c + 1) (okC_k s (kk_4_0 hc) 0) (by omega)
theorem kka_4_0_0 {c : Int} (hc : zPl c) : kC (c + 1) = 29 := by unfold zPl at hc; rcases hc with rfl | rfl | rfl | rfl | rfl | rfl <;> decide +kernel
theorem na_4_0_0 {c : Int} (hc : zPl c) : ¬ (c + 1) = 114 ∧ ¬ (c + 1) = 0 := by unfold zPl at hc; omega
theorem ka_4_0_0 {h : zM} {c : Int} (s : okC h) (hc : zPl c) : shC (c + 1) = .inr (0, 16) ∧ 0 ≤ (c + 1) ∧ (c + 1) < h.1 := kLc s (kka_4_0_0 hc) rfl (by have := zPl_b hc; omega)
theorem pa_4_0_0 {c : Int} {v : Int} (hc : zPl c) (hv : (-2147483648) ≤ v ∧ v ≤ 2147483647) (j : Int) : PC (c + 1) j v := PC_k (kka_4_0_0 hc) hv
theorem ab_4_0_0 {h : zM} {c : Int} (s : okC h) (hc : zPl c) (j : Int) : (-2147483648) ≤ h.2 (c + 1) j ∧ h.2 (c + 1) j ≤ 2147483647 := okC_k s (kka_4_0_0 hc) j
theorem aw_4_0_0 {h h' : zM} {c : Int} {v j : Int} (s : okC h) (hc : zPl c) (e : h' = zwr h (c + 1) j v) (hv : (-2147483648) ≤ v ∧ v ≤ 2147483647) : okC h' := okC_w s e (pa_4_0_0 hc hv j) (na_4_0_0 hc).1 (fun q => (na_4_0_0 hc).2 q.1)
theorem rf_4_0_1 {h : zM} {c : Int} (s : okC h) (hc : zPl c) : h.2 c 1 = (c + 2) := zeqe (a := c + 2) (okC_k s (kk_4_0 hc) 1) (by omega)
theorem kka_4_0_1 {c : Int} (hc : zPl c) : kC (c + 2) = 30 := by unfold zPl at hc; rcases hc with rfl | rfl | rfl | rfl | rfl | rfl <;> decide +kernel
theorem na_4_0_1 {c : Int} (hc : zPl c) : ¬ (c + 2) = 114 ∧ ¬ (c + 2) = 0 := by unfold zPl at hc; omega
theorem ka_4_0_1 {h : zM} {c : Int} (s : okC h) (hc : zPl c) : shC (c + 2) = .inr (0, 16) ∧ 0 ≤ (c + 2) ∧ (c + 2) < h.1 := kLc s (kka_4_0_1 hc) rfl (by have := zPl_b hc; omega)
theorem pa_4_0_1 {c : Int} {v : Int} (hc : zPl c) (hv : (-2147483648) ≤ v ∧ v ≤ 2147483647) (j : Int) : PC (c + 2) j v := PC_k (kka_4_0_1 hc) hv
theorem ab_4_0_1 {h : zM} {c : Int} (s : okC h) (hc : zPl c) (j : Int) : (-2147483648) ≤ h.2 (c + 2) j ∧ h.2 (c + 2) j ≤ 2147483647 := okC_k s (kka_4_0_1 hc) j
theorem aw_4_0_1 {h h' : zM} {c : Int} {v j : Int} (s : okC h) (hc : zPl c) (e : h' = zwr h (c + 2) j v) (hv : (-2147483648) ≤ v ∧ v ≤ 2147483647) : okC h' := okC_w s e (pa_4_0_1 hc hv j) (na_4_0_1 hc).1 (fun q => (na_4_0_1 hc).2 q.1)
theorem rf_4_0_2 {h : zM} {c : Int} (s : okC h) (hc : zPl c) : h.2 c 2 = (c + 3) := zeqe (a := c + 3) (okC_k s (kk_4_0 hc) 2) (by omega)
theorem kka_4_0_2 {c : Int} (hc : zPl c) : kC (c + 3) = 31 := by unfold zPl at hc; rcases hc with rfl | rfl | rfl | rfl | rfl | rfl <;> decide +kernel
theorem na_4_0_2 {c : Int} (hc : zPl c) : ¬ (c + 3) = 114 ∧ ¬ (c + 3) = 0 := by unfold zPl at hc; omega
theorem ka_4_0_2 {h : zM} {c : Int} (s : okC h) (hc : zPl c) : shC (c + 3) = .inr (0, 16) ∧ 0 ≤ (c + 3) ∧ (c + 3) < h.1 := kLc s (kka_4_0_2 hc) rfl (by have := zPl_b hc; omega)
theorem pa_4_0_2 {c : Int} {v : Int} (hc : zPl c) (hv : (-2147483648) ≤ v ∧ v ≤ 2147483647) (j : Int) : PC (c + 3) j v := PC_k (kka_4_0_2 hc) hv
theorem ab_4_0_2 {h : zM} {c : Int} (s : okC h) (hc : zPl c) (j : Int) : (-2147483648) ≤ h.2 (c + 3) j ∧ h.2 (c + 3) j ≤ 2147483647 := okC_k s (kka_4_0_2 hc) j
theorem aw_4_0_2 {h h' : zM} {c : Int} {v j : Int} (s : okC h) (hc : zPl c) (e : h' = zwr h (c + 3) j v) (hv : (-2147483648) ≤ v ∧ v ≤ 2147483647) : okC h' := okC_w s e (pa_4_0_2 hc hv j) (na_4_0_2 hc).1 (fun q => (na_4_0_2 hc).2 q.1)
theorem fb_4_0_3 {h : zM} {c : Int} (s : okC h) (hc : zPl c) : 0 ≤ h.2 c 3 ∧ h.2 c 3 ≤ 16 := okC_k s (kk_4_0 hc) 3
theorem fw_4_0_3 {h h' : zM} {c : Int} {v : Int} (s : okC h) (hc : zPl c) (e : h' = zwr h c 3 v) (hv : 0 ≤ v ∧ v ≤ 16) : okC h' := okC_w s e (PC_k (kk_4_0 hc) hv) (nk_4_0 hc) (fun q => absurd q.1 (by have := zPl_b hc; omega))
theorem kk_2_0 {c : Int} (hc : zKi c) : kC c = 2 := by unfold zKi at hc; rcases hc with rfl | rfl | rfl <;> decide +kernel
theorem nk_2_0 {c : Int} (hc : zKi c) : ¬ c = 114 := by unfold zKi at hc; omega
theorem k_2_0 {h : zM} {c : Int} (s : okC h) (hc : zKi c) : shC c = .inl 2 ∧ 0 ≤ c ∧ c < h.1 := kLc s (kk_2_0 hc) rfl (by have := zKi_b hc; omega)
theorem rf_2_0_0 {h : zM} {c : Int} (s : okC h) (hc : zKi c) : h.2 c 0 = (c + 1) := zeqe (a := c + 1) (okC_k s (kk_2_0 hc) 0) (by omega)
theorem kka_2_0_0 {c : Int} (hc : zKi c) : kC (c + 1) = 32 := by unfold zKi at hc; rcases hc with rfl | rfl | rfl <;> decide +kernel
theorem na_2_0_0 {c : Int} (hc : zKi c) : ¬ (c + 1) = 114 ∧ ¬ (c + 1) = 0 := by unfold zKi at hc; omega
theorem ka_2_0_0 {h : zM} {c : Int} (s : okC h) (hc : zKi c) : shC (c + 1) = .inr (0, 18) ∧ 0 ≤ (c + 1) ∧ (c + 1) < h.1 := kLc s (kka_2_0_0 hc) rfl (by have := zKi_b hc; omega)
theorem pa_2_0_0 {c : Int} {v : Int} (hc : zKi c) (hv : (-2147483648) ≤ v ∧ v ≤ 2147483647) (j : Int) : PC (c + 1) j v := PC_k (kka_2_0_0 hc) hv
theorem ab_2_0_0 {h : zM} {c : Int} (s : okC h) (hc : zKi c) (j : Int) : (-2147483648) ≤ h.2 (c + 1) j ∧ h.2 (c + 1) j ≤ 2147483647 := okC_k s (kka_2_0_0 hc) j
theorem aw_2_0_0 {h h' : zM} {c : Int} {v j : Int} (s : okC h) (hc : zKi c) (e : h' = zwr h (c + 1) j v) (hv : (-2147483648) ≤ v ∧ v ≤ 2147483647) : okC h' := okC_w s e (pa_2_0_0 hc hv j) (na_2_0_0 hc).1 (fun q => (na_2_0_0 hc).2 q.1)
theorem fb_2_0_1 {h : zM} {c : Int} (s : okC h) (hc : zKi c) : (-2147483648) ≤ h.2 c 1 ∧ h.2 c 1 ≤ 2147483647 := okC_k s (kk_2_0 hc) 1
theorem fw_2_0_1 {h h' : zM} {c : Int} {v : Int} (s : okC h) (hc : zKi c) (e : h' = zwr h c 1 v) (hv : (-2147483648) ≤ v ∧ v ≤ 2147483647) : okC h' := okC_w s e (PC_k (kk_2_0 hc) hv) (nk_2_0 hc) (fun q => absurd q.1 (by have := zKi_b hc; omega))
theorem kk_0_0 {c : Int} (hc : zBo c) : kC c = 0 := by unfold zBo at hc; rcases hc with rfl | rfl | rfl <;> decide +kernel
theorem nk_0_0 {c : Int} (hc : zBo c) : ¬ c = 114 := by unfold zBo at hc; omega
theorem k_0_0 {h : zM} {c : Int} (s : okC h) (hc : zBo c) : shC c = .inl 0 ∧ 0 ≤ c ∧ c < h.1 := kLc s (kk_0_0 hc) rfl (by have := zBo_b hc; omega)
theorem rf_0_0_0 {h : zM} {c : Int} (s : okC h) (hc : zBo c) : h.2 c 0 = (c + 1) := zeqe (a := c + 1) (okC_k s (kk_0_0 hc) 0) (by omega)
theorem kka_0_0_0 {c : Int} (hc : zBo c) : kC (c + 1) = 33 := by unfold zBo at hc; rcases hc with rfl | rfl | rfl <;> decide +kernel
theorem na_0_0_0 {c : Int} (hc : zBo c) : ¬ (c + 1) = 114 ∧ ¬ (c + 1) = 0 := by unfold zBo at hc; omega
theorem ka_0_0_0 {h : zM} {c : Int} (s : okC h) (hc : zBo c) : shC (c + 1) = .inr (0, 150) ∧ 0 ≤ (c + 1) ∧ (c + 1) < h.1 := kLc s (kka_0_0_0 hc) rfl (by have := zBo_b hc; omega)
theorem pa_0_0_0 {c : Int} {v : Int} (hc : zBo c) (hv : (-2147483648) ≤ v ∧ v ≤ 2147483647) (j : Int) : PC (c + 1) j v := PC_k (kka_0_0_0 hc) hv
theorem ab_0_0_0 {h : zM} {c : Int} (s : okC h) (hc : zBo c) (j : Int) : (-2147483648) ≤ h.2 (c + 1) j ∧ h.2 (c + 1) j ≤ 2147483647 := okC_k s (kka_0_0_0 hc) j
theorem aw_0_0_0 {h h' : zM} {c : Int} {v j : Int} (s : okC h) (hc : zBo c) (e : h' = zwr h (c + 1) j v) (hv : (-2147483648) ≤ v ∧ v ≤ 2147483647) : okC h' := okC_w s e (pa_0_0_0 hc hv j) (na_0_0_0 hc).1 (fun q => (na_0_0_0 hc).2 q.1)
theorem rf_0_0_1 {h : zM} {c : Int} (s : okC h) (hc : zBo c) : h.2 c 1 = (c + 2) := zeqe (a := c + 2) (okC_k s (kk_0_0 hc) 1) (by omega)
theorem kka_0_0_1 {c : Int} (hc : zBo c) : kC (c + 2) = 34 := by unfold zBo at hc; rcases hc with rfl | rfl | rfl <;> decide +kernel
theorem na_0_0_1 {c : Int} (hc : zBo c) : ¬ (c + 2) = 114 ∧ ¬ (c + 2) = 0 := by unfold zBo at hc; omega
theorem ka_0_0_1 {h : zM} {c : Int} (s : okC h) (hc : zBo c) : shC (c + 2) = .inr (0, 150) ∧ 0 ≤ (c + 2) ∧ (c + 2) < h.1 := kLc s (kka_0_0_1 hc) rfl (by have := zBo_b hc; omega)
theorem pa_0_0_1 {c : Int} {v : Int} (hc : zBo c) (hv : (-2147483648) ≤ v ∧ v ≤ 2147483647) (j : Int) : PC (c + 2) j v := PC_k (kka_0_0_1 hc) hv
theorem ab_0_0_1 {h : zM} {c : Int} (s : okC h) (hc : zBo c) (j : Int) : (-2147483648) ≤ h.2 (c + 2) j ∧ h.2 (c + 2) j ≤ 2147483647 := okC_k s (kka_0_0_1 hc) j
theorem aw_0_0_1 {h h' : zM} {c : Int} {v j : Int} (s : okC h) (hc : zBo c) (e : h' = zwr h (c + 2) j v) (hv : (-2147483648) ≤ v ∧ v ≤ 2147483647) : okC h' := okC_w s e (pa_0_0_1 hc hv j) (na_0_0_1 hc).1 (fun q => (na_0_0_1 hc).2 q.1)
theorem rf_0_0_2 {h : zM} {c : Int} (s : okC h) (hc : zBo c) : h.2 c 2 = (c + 3) := zeqe (a := c + 3) (okC_k s (kk_0_0 hc) 2) (by omega)
theorem kka_0_0_2 {c : Int} (hc : zBo c) : kC (c + 3) = 35 := by unfold zBo at hc; rcases hc with rfl | rfl | rfl <;> decide +kernel
theorem na_0_0_2 {c : Int} (hc : zBo c) : ¬ (c + 3) = 114 ∧ ¬ (c + 3) = 0 := by unfold zBo at hc; omega
theorem ka_0_0_2 {h : zM} {c : Int} (s : okC h) (hc : zBo c) : shC (c + 3) = .inr (0, 150) ∧ 0 ≤ (c + 3) ∧ (c + 3) < h.1 := kLc s (kka_0_0_2 hc) rfl (by have := zBo_b hc; omega)
theorem pa_0_0_2 {c : Int} {v : Int} (hc : zBo c) (hv : (-2147483648) ≤ v ∧ v ≤ 2147483647) (j : Int) : PC (c + 3) j v := PC_k (kka_0_0_2 hc) hv
theorem ab_0_0_2 {h : zM} {c : Int} (s : okC h) (hc : zBo c) (j : Int) : (-2147483648) ≤ h.2 (c + 3) j ∧ h.2 (c + 3) j ≤ 2147483647 := okC_k s (kka_0_0_2 hc) j
theorem aw_0_0_2 {h h' : zM} {c : Int} {v j : Int} (s : okC h) (hc : zBo c) (e : h' = zwr h (c + 3) j v) (hv : (-2147483648) ≤ v ∧ v ≤ 2147483647) : okC h' := okC_w s e (pa_0_0_2 hc hv j) (na_0_0_2 hc).1 (fun q => (na_0_0_2 hc).2 q.1)
theorem rf_0_0_3 {h : zM} {c : Int} (s : okC h) (hc : zBo c) : h.2 c 3 = (c + 4) := zeqe (a := c + 4) (okC_k s (kk_0_0 hc) 3) (by omega)
theorem kka_0_0_3 {c : Int} (hc : zBo c) : kC (c + 4) = 36 := by unfold zBo at hc; rcases hc with rfl | rfl | rfl <;> decide +kernel
theorem na_0_0_3 {c : Int} (hc : zBo c) : ¬ (c + 4) = 114 ∧ ¬ (c + 4) = 0 := by unfold zBo at hc; omega
theorem ka_0_0_3 {h : zM} {c : Int} (s : okC h) (hc : zBo c) : shC (c + 4) = .inr (0, 150) ∧ 0 ≤ (c + 4) ∧ (c + 4) < h.1 := kLc s (kka_0_0_3 hc) rfl (by have := zBo_b hc; omega)
theorem pa_0_0_3 {c : Int} {v : Int} (hc : zBo c) (hv : (-2147483648) ≤ v ∧ v ≤ 2147483647) (j : Int) : PC (c + 4) j v := PC_k (kka_0_0_3 hc) hv
theorem ab_0_0_3 {h : zM} {c : Int} (s : okC h) (hc : zBo c) (j : Int) : (-2147483648) ≤ h.2 (c + 4) j ∧ h.2 (c + 4) j ≤ 2147483647 := okC_k s (kka_0_0_3 hc) j
theorem aw_0_0_3 {h h' : zM} {c : Int} {v j : Int} (s : okC h) (hc : zBo c) (e : h' = zwr h (c + 4) j v) (hv : (-2147483648) ≤ v ∧ v ≤ 2147483647) : okC h' := okC_w s e (pa_0_0_3 hc hv j) (na_0_0_3 hc).1 (fun q => (na_0_0_3 hc).2 q.1)
theorem fb_0_0_4 {h : zM} {c : Int} (s : okC h) (hc : zBo c) : 0 ≤ h.2 c 4 ∧ h.2 c 4 ≤ 150 := okC_k s (kk_0_0 hc) 4
theorem fw_0_0_4 {h h' : zM} {c : Int} {v : Int} (s : okC h) (hc : zBo c) (e : h' = zwr h c 4 v) (hv : 0 ≤ v ∧ v ≤ 150) : okC h' := okC_w s e (PC_k (kk_0_0 hc) hv) (nk_0_0 hc) (fun q => absurd q.1 (by have := zBo_b hc; omega))
theorem kk_5_0 {c : Int} (hc : zPu c) : kC c = 5 := by unfold zPu at hc; rcases hc with rfl | rfl | rfl <;> decide +kernel
theorem nk_5_0 {c : Int} (hc : zPu c) : ¬ c = 114 := by unfold zPu at hc; omega
theorem k_5_0 {h : zM} {c : Int} (s : okC h) (hc : zPu c) : shC c = .inl 5 ∧ 0 ≤ c ∧ c < h.1 := kLc s (kk_5_0 hc) rfl (by have := zPu_b hc; omega)
theorem rf_5_0_0 {h : zM} {c : Int} (s : okC h) (hc : zPu c) : h.2 c 0 = (c + 1) := zeqe (a := c + 1) (okC_k s (kk_5_0 hc) 0) (by omega)
theorem kka_5_0_0 {c : Int} (hc : zPu c) : kC (c + 1) = 37 := by unfold zPu at hc; rcases hc with rfl | rfl | rfl <;> decide +kernel
theorem na_5_0_0 {c : Int} (hc : zPu c) : ¬ (c + 1) = 114 ∧ ¬ (c + 1) = 0 := by unfold zPu at hc; omega
theorem ka_5_0_0 {h : zM} {c : Int} (s : okC h) (hc : zPu c) : shC (c + 1) = .inr (0, 5) ∧ 0 ≤ (c + 1) ∧ (c + 1) < h.1 := kLc s (kka_5_0_0 hc) rfl (by have := zPu_b hc; omega)
theorem pa_5_0_0 {c : Int} {v : Int} (hc : zPu c) (hv : (-2147483648) ≤ v ∧ v ≤ 2147483647) (j : Int) : PC (c + 1) j v := PC_k (kka_5_0_0 hc) hv
theorem ab_5_0_0 {h : zM} {c : Int} (s : okC h) (hc : zPu c) (j : Int) : (-2147483648) ≤ h.2 (c + 1) j ∧ h.2 (c + 1) j ≤ 2147483647 := okC_k s (kka_5_0_0 hc) j
theorem aw_5_0_0 {h h' : zM} {c : Int} {v j : Int} (s : okC h) (hc : zPu c) (e : h' = zwr h (c + 1) j v) (hv : (-2147483648) ≤ v ∧ v ≤ 2147483647) : okC h' := okC_w s e (pa_5_0_0 hc hv j) (na_5_0_0 hc).1 (fun q => (na_5_0_0 hc).2 q.1)
theorem rf_5_0_1 {h : zM} {c : Int} (s : okC h) (hc : zPu c) : h.2 c 1 = (c + 2) := zeqe (a := c + 2) (okC_k s (kk_5_0 hc) 1) (by omega)
theorem kka_5_0_1 {c : Int} (hc : zPu c) : kC (c + 2) = 38 := by unfold zPu at hc; rcases hc with rfl | rfl | rfl <;> decide +kernel
theorem na_5_0_1 {c : Int} (hc : zPu c) : ¬ (c + 2) = 114 ∧ ¬ (c + 2) = 0 := by unfold zPu at hc; omega
theorem ka_5_0_1 {h : zM} {c : Int} (s : okC h) (hc : zPu c) : shC (c + 2) = .inr (1, 5) ∧ 0 ≤ (c + 2) ∧ (c + 2) < h.1 := kLc s (kka_5_0_1 hc) rfl (by have := zPu_b hc; omega)
theorem pa_5_0_1 {c : Int} {v : Int} (hc : zPu c) (hv : 0 ≤ v ∧ v ≤ 1) (j : Int) : PC (c + 2) j v := PC_k (kka_5_0_1 hc) hv
theorem ab_5_0_1 {h : zM} {c : Int} (s : okC h) (hc : zPu c) (j : Int) : 0 ≤ h.2 (c + 2) j ∧ h.2 (c + 2) j ≤ 1 := okC_k s (kka_5_0_1 hc) j
theorem aw_5_0_1 {h h' : zM} {c : Int} {v j : Int} (s : okC h) (hc : zPu c) (e : h' = zwr h (c + 2) j v) (hv : 0 ≤ v ∧ v ≤ 1) : okC h' := okC_w s e (pa_5_0_1 hc hv j) (na_5_0_1 hc).1 (fun q => (na_5_0_1 hc).2 q.1)
theorem fb_5_0_2 {h : zM} {c : Int} (s : okC h) (hc : zPu c) : 0 ≤ h.2 c 2 ∧ h.2 c 2 ≤ 5 := okC_k s (kk_5_0 hc) 2
theorem fw_5_0_2 {h h' : zM} {c : Int} {v : Int} (s : okC h) (hc : zPu c) (e : h' = zwr h c 2 v) (hv : 0 ≤ v ∧ v ≤ 5) : okC h' := okC_w s e (PC_k (kk_5_0 hc) hv) (nk_5_0 hc) (fun q => absurd q.1 (by have := zPu_b hc; omega))
theorem rf_5_0_3 {h : zM} {c : Int} (s : okC h) (hc : zPu c) : h.2 c 3 = (c + 3) := zeqe (a := c + 3) (okC_k s (kk_5_0 hc) 3) (by omega)
theorem kka_5_0_3 {c : Int} (hc : zPu c) : kC (c + 3) = 39 := by unfold zPu at hc; rcases hc with rfl | rfl | rfl <;> decide +kernel
theorem na_5_0_3 {c : Int} (hc : zPu c) : ¬ (c + 3) = 114 ∧ ¬ (c + 3) = 0 := by unfold zPu at hc; omega
theorem ka_5_0_3 {h : zM} {c : Int} (s : okC h) (hc : zPu c) : shC (c + 3) = .inr (0, 8) ∧ 0 ≤ (c + 3) ∧ (c + 3) < h.1 := kLc s (kka_5_0_3 hc) rfl (by have := zPu_b hc; omega)
theorem pa_5_0_3 {c : Int} {v : Int} (hc : zPu c) (hv : (-2147483648) ≤ v ∧ v ≤ 2147483647) (j : Int) : PC (c + 3) j v := PC_k (kka_5_0_3 hc) hv
theorem ab_5_0_3 {h : zM} {c : Int} (s : okC h) (hc : zPu c) (j : Int) : (-2147483648) ≤ h.2 (c + 3) j ∧ h.2 (c + 3) j ≤ 2147483647 := okC_k s (kka_5_0_3 hc) j
theorem aw_5_0_3 {h h' : zM} {c : Int} {v j : Int} (s : okC h) (hc : zPu c) (e : h' = zwr h (c + 3) j v) (hv : (-2147483648) ≤ v ∧ v ≤ 2147483647) : okC h' := okC_w s e (pa_5_0_3 hc hv j) (na_5_0_3 hc).1 (fun q => (na_5_0_3 hc).2 q.1)
theorem fb_5_0_4 {h : zM} {c : Int} (s : okC h) (hc : zPu c) : 0 ≤ h.2 c 4 ∧ h.2 c 4 ≤ 8 := okC_k s (kk_5_0 hc) 4
theorem fw_5_0_4 {h h' : zM} {c : Int} {v : Int} (s : okC h) (hc : zPu c) (e : h' = zwr h c 4 v) (hv : 0 ≤ v ∧ v ≤ 8) : okC h' := okC_w s e (PC_k (kk_5_0 hc) hv) (nk_5_0 hc) (fun q => absurd q.1 (by have := zPu_b hc; omega))
theorem rf_5_0_5 {h : zM} {c : Int} (s : okC h) (hc : zPu c) : h.2 c 5 = (c + 4) := zeqe (a := c + 4) (okC_k s (kk_5_0 hc) 5) (by omega)
theorem kka_5_0_5 {c : Int} (hc : zPu c) : kC (c + 4) = 40 := by unfold zPu at hc; rcases hc with rfl | rfl | rfl <;> decide +kernel
theorem na_5_0_5 {c : Int} (hc : zPu c) : ¬ (c + 4) = 114 ∧ ¬ (c + 4) = 0 := by unfold zPu at hc; omega
theorem ka_5_0_5 {h : zM} {c : Int} (s : okC h) (hc : zPu c) : shC (c + 4) = .inr (0, 7) ∧ 0 ≤ (c + 4) ∧ (c + 4) < h.1 := kLc s (kka_5_0_5 hc) rfl (by have := zPu_b hc; omega)
theorem pa_5_0_5 {c : Int} {v : Int} (hc : zPu c) (hv : (-2147483648) ≤ v ∧ v ≤ 2147483647) (j : Int) : PC (c + 4) j v := PC_k (kka_5_0_5 hc) hv
theorem ab_5_0_5 {h : zM} {c : Int} (s : okC h) (hc : zPu c) (j : Int) : (-2147483648) ≤ h.2 (c + 4) j ∧ h.2 (c + 4) j ≤ 2147483647 := okC_k s (kka_5_0_5 hc) j
theorem aw_5_0_5 {h h' : zM} {c : Int} {v j : Int} (s : okC h) (hc : zPu c) (e : h' = zwr h (c + 4) j v) (hv : (-2147483648) ≤ v ∧ v ≤ 2147483647) : okC h' := okC_w s e (pa_5_0_5 hc hv j) (na_5_0_5 hc).1 (fun q => (na_5_0_5 hc).2 q.1)
theorem fb_5_0_6 {h : zM} {c : Int} (s : okC h) (hc : zPu c) : 0 ≤ h.2 c 6 ∧ h.2 c 6 ≤ 7 := okC_k s (kk_5_0 hc) 6
theorem fw_5_0_6 {h h' : zM} {c : Int} {v : Int} (s : okC h) (hc : zPu c) (e : h' = zwr h c 6 v) (hv : 0 ≤ v ∧ v ≤ 7) : okC h' := okC_w s e (PC_k (kk_5_0 hc) hv) (nk_5_0 hc) (fun q => absurd q.1 (by have := zPu_b hc; omega))
theorem rf_5_0_7 {h : zM} {c : Int} (s : okC h) (hc : zPu c) : h.2 c 7 = (c + 5) := zeqe (a := c + 5) (okC_k s (kk_5_0 hc) 7) (by omega)
theorem kka_5_0_7 {c : Int} (hc : zPu c) : kC (c + 5) = 41 := by unfold zPu at hc; rcases hc with rfl | rfl | rfl <;> decide +kernel
theorem na_5_0_7 {c : Int} (hc : zPu c) : ¬ (c + 5) = 114 ∧ ¬ (c + 5) = 0 := by unfold zPu at hc; omega
theorem ka_5_0_7 {h : zM} {c : Int} (s : okC h) (hc : zPu c) : shC (c + 5) = .inr (0, 6) ∧ 0 ≤ (c + 5) ∧ (c + 5) < h.1 := kLc s (kka_5_0_7 hc) rfl (by have := zPu_b hc; omega)
theorem pa_5_0_7 {c : Int} {v : Int} (hc : zPu c) (hv : (-2147483648) ≤ v ∧ v ≤ 2147483647) (j : Int) : PC (c + 5) j v := PC_k (kka_5_0_7 hc) hv
theorem ab_5_0_7 {h : zM} {c : Int} (s : okC h) (hc : zPu c) (j : Int) : (-2147483648) ≤ h.2 (c + 5) j ∧ h.2 (c + 5) j ≤ 2147483647 := okC_k s (kka_5_0_7 hc) j
theorem aw_5_0_7 {h h' : zM} {c : Int} {v j : Int} (s : okC h) (hc : zPu c) (e : h' = zwr h (c + 5) j v) (hv : (-2147483648) ≤ v ∧ v ≤ 2147483647) : okC h' := okC_w s e (pa_5_0_7 hc hv j) (na_5_0_7 hc).1 (fun q => (na_5_0_7 hc).2 q.1)
theorem rf_5_0_8 {h : zM} {c : Int} (s : okC h) (hc : zPu c) : h.2 c 8 = (c + 6) := zeqe (a := c + 6) (okC_k s (kk_5_0 hc) 8) (by omega)
theorem kka_5_0_8 {c : Int} (hc : zPu c) : kC (c + 6) = 42 := by unfold zPu at hc; rcases hc with rfl | rfl | rfl <;> decide +kernel
theorem na_5_0_8 {c : Int} (hc : zPu c) : ¬ (c + 6) = 114 ∧ ¬ (c + 6) = 0 := by unfold zPu at hc; omega
theorem ka_5_0_8 {h : zM} {c : Int} (s : okC h) (hc : zPu c) : shC (c + 6) = .inr (0, 6) ∧ 0 ≤ (c + 6) ∧ (c + 6) < h.1 := kLc s (kka_5_0_8 hc) rfl (by have := zPu_b hc; omega)
theorem pa_5_0_8 {c : Int} {v : Int} (hc : zPu c) (hv : (-2147483648) ≤ v ∧ v ≤ 2147483647) (j : Int) : PC (c + 6) j v := PC_k (kka_5_0_8 hc) hv
theorem ab_5_0_8 {h : zM} {c : Int} (s : okC h) (hc : zPu c) (j : Int) : (-2147483648) ≤ h.2 (c + 6) j ∧ h.2 (c + 6) j ≤ 2147483647 := okC_k s (kka_5_0_8 hc) j
theorem aw_5_0_8 {h h' : zM} {c : Int} {v j : Int} (s : okC h) (hc : zPu c) (e : h' = zwr h (c + 6) j v) (hv : (-2147483648) ≤ v ∧ v ≤ 2147483647) : okC h' := okC_w s e (pa_5_0_8 hc hv j) (na_5_0_8 hc).1 (fun q => (na_5_0_8 hc).2 q.1)
theorem fb_5_0_9 {h : zM} {c : Int} (s : okC h) (hc : zPu c) : 0 ≤ h.2 c 9 ∧ h.2 c 9 ≤ 6 := okC_k s (kk_5_0 hc) 9
theorem fw_5_0_9 {h h' : zM} {c : Int} {v : Int} (s : okC h) (hc : zPu c) (e : h' = zwr h c 9 v) (hv : 0 ≤ v ∧ v ≤ 6) : okC h' := okC_w s e (PC_k (kk_5_0 hc) hv) (nk_5_0 hc) (fun q => absurd q.1 (by have := zPu_b hc; omega))
theorem kk_L0 : kC 0 = 10 := by decide +kernel
theorem k_L0 {h : zM} (s : okC h) : shC 0 = .inl 10 ∧ (0 : Int) ≤ 0 ∧ (0 : Int) < h.1 := kLc s kk_L0 rfl (by decide)
theorem rf_L0_0 {h : zM} (s : okC h) : h.2 0 0 = 1 := zeqe (a := 1) (okC_k s (kk_L0) 0) rfl
theorem rf_L0_1 {h : zM} (s : okC h) : h.2 0 1 = 35 := zeqe (a := 35) (okC_k s (kk_L0) 1) rfl
theorem rf_L0_2 {h : zM} (s : okC h) : h.2 0 2 = 69 := zeqe (a := 69) (okC_k s (kk_L0) 2) rfl
theorem rf_L0_3 {h : zM} (s : okC h) : h.2 0 3 = 103 := zeqe (a := 103) (okC_k s (kk_L0) 3) rfl
theorem rf_L0_4 {h : zM} (s : okC h) : h.2 0 4 = 107 := zeqe (a := 107) (okC_k s (kk_L0) 4) rfl
theorem rf_L0_5 {h : zM} (s : okC h) : h.2 0 5 = 108 := zeqe (a := 108) (okC_k s (kk_L0) 5) rfl
theorem rf_L0_6 {h : zM} (s : okC h) : h.2 0 6 = (114 : Int) := zeqe (a := 114) (okC_k s (kk_L0) 6) (by decide)
theorem kka_L0_6 : kC (114 : Int) = 51 := by decide +kernel
theorem ka_L0_6 {h : zM} (s : okC h) : shC (114 : Int) = .inr (2, 6) ∧ 0 ≤ (114 : Int) ∧ (114 : Int) < h.1 := kLc s (kka_L0_6) rfl (by decide)
theorem rf_L0_7 {h : zM} (s : okC h) : h.2 0 7 = (115 : Int) := zeqe (a := 115) (okC_k s (kk_L0) 7) (by decide)
theorem kka_L0_7 : kC (115 : Int) = 52 := by decide +kernel
theorem na_L0_7 : ¬ (115 : Int) = 114 ∧ ¬ (115 : Int) = 0 := by decide
theorem ka_L0_7 {h : zM} (s : okC h) : shC (115 : Int) = .inr (0, 6) ∧ 0 ≤ (115 : Int) ∧ (115 : Int) < h.1 := kLc s (kka_L0_7) rfl (by decide)
theorem pa_L0_7 {v : Int} (hv : 0 ≤ v ∧ v ≤ 150) (j : Int) : PC (115 : Int) j v := PC_k (kka_L0_7) hv
theorem ab_L0_7 {h : zM} (s : okC h) (j : Int) : 0 ≤ h.2 (115 : Int) j ∧ h.2 (115 : Int) j ≤ 150 := okC_k s (kka_L0_7) j
theorem aw_L0_7 {h h' : zM} {v j : Int} (s : okC h) (e : h' = zwr h (115 : Int) j v) (hv : 0 ≤ v ∧ v ≤ 150) : okC h' := okC_w s e (pa_L0_7 hv j) (na_L0_7).1 (fun q => (na_L0_7).2 q.1)
theorem fb_L0_8 {h : zM} (s : okC h) : 0 ≤ h.2 0 8 ∧ h.2 0 8 ≤ 6 := okC_k s (kk_L0) 8
theorem fw_L0_8 {h h' : zM} {v : Int} (s : okC h) (e : h' = zwr h 0 8 v) (hv : 0 ≤ v ∧ v ≤ 6) : okC h' := okC_w s e (PC_k (kk_L0) hv) (by decide) (by decide)
theorem fb_L0_9 {h : zM} (s : okC h) : 0 ≤ h.2 0 9 ∧ h.2 0 9 ≤ 1 := okC_k s (kk_L0) 9
theorem fw_L0_9 {h h' : zM} {v : Int} (s : okC h) (e : h' = zwr h 0 9 v) (hv : 0 ≤ v ∧ v ≤ 1) : okC h' := okC_w s e (PC_k (kk_L0) hv) (by decide) (by decide)
theorem kk_L103 : kC 103 = 6 := by decide +kernel
theorem k_L103 {h : zM} (s : okC h) : shC 103 = .inl 6 ∧ (0 : Int) ≤ 103 ∧ (103 : Int) < h.1 := kLc s kk_L103 rfl (by decide)
theorem rf_L103_0 {h : zM} (s : okC h) : h.2 103 0 = (104 : Int) := zeqe (a := 103 + 1) (okC_k s (kk_L103) 0) (by decide)
theorem kka_L103_0 : kC (104 : Int) = 43 := by decide +kernel
theorem na_L103_0 : ¬ (104 : Int) = 114 ∧ ¬ (104 : Int) = 0 := by decide
theorem ka_L103_0 {h : zM} (s : okC h) : shC (104 : Int) = .inr (0, 400) ∧ 0 ≤ (104 : Int) ∧ (104 : Int) < h.1 := kLc s (kka_L103_0) rfl (by decide)
theorem pa_L103_0 {v : Int} (hv : 0 ≤ v ∧ v ≤ 255) (j : Int) : PC (104 : Int) j v := PC_k (kka_L103_0) hv
theorem ab_L103_0 {h : zM} (s : okC h) (j : Int) : 0 ≤ h.2 (104 : Int) j ∧ h.2 (104 : Int) j ≤ 255 := okC_k s (kka_L103_0) j
theorem aw_L103_0 {h h' : zM} {v j : Int} (s : okC h) (e : h' = zwr h (104 : Int) j v) (hv : 0 ≤ v ∧ v ≤ 255) : okC h' := okC_w s e (pa_L103_0 hv j) (na_L103_0).1 (fun q => (na_L103_0).2 q.1)
theorem rf_L103_1 {h : zM} (s : okC h) : h.2 103 1 = (105 : Int) := zeqe (a := 103 + 2) (okC_k s (kk_L103) 1) (by decide)
theorem kka_L103_1 : kC (105 : Int) = 44 := by decide +kernel
theorem na_L103_1 : ¬ (105 : Int) = 114 ∧ ¬ (105 : Int) = 0 := by decide
theorem ka_L103_1 {h : zM} (s : okC h) : shC (105 : Int) = .inr (0, 401) ∧ 0 ≤ (105 : Int) ∧ (105 : Int) < h.1 := kLc s (kka_L103_1) rfl (by decide)
theorem pa_L103_1 {v : Int} (hv : (-2147483648) ≤ v ∧ v ≤ 2147483647) (j : Int) : PC (105 : Int) j v := PC_k (kka_L103_1) hv
theorem ab_L103_1 {h : zM} (s : okC h) (j : Int) : (-2147483648) ≤ h.2 (105 : Int) j ∧ h.2 (105 : Int) j ≤ 2147483647 := okC_k s (kka_L103_1) j
theorem aw_L103_1 {h h' : zM} {v j : Int} (s : okC h) (e : h' = zwr h (105 : Int) j v) (hv : (-2147483648) ≤ v ∧ v ≤ 2147483647) : okC h' := okC_w s e (pa_L103_1 hv j) (na_L103_1).1 (fun q => (na_L103_1).2 q.1)
theorem rf_L103_2 {h : zM} (s : okC h) : h.2 103 2 = (106 : Int) := zeqe (a := 103 + 3) (okC_k s (kk_L103) 2) (by decide)
theorem kka_L103_2 : kC (106 : Int) = 45 := by decide +kernel
theorem na_L103_2 : ¬ (106 : Int) = 114 ∧ ¬ (106 : Int) = 0 := by decide
theorem ka_L103_2 {h : zM} (s : okC h) : shC (106 : Int) = .inr (0, 401) ∧ 0 ≤ (106 : Int) ∧ (106 : Int) < h.1 := kLc s (kka_L103_2) rfl (by decide)
theorem pa_L103_2 {v : Int} (hv : (-2147483648) ≤ v ∧ v ≤ 2147483647) (j : Int) : PC (106 : Int) j v := PC_k (kka_L103_2) hv
theorem ab_L103_2 {h : zM} (s : okC h) (j : Int) : (-2147483648) ≤ h.2 (106 : Int) j ∧ h.2 (106 : Int) j ≤ 2147483647 := okC_k s (kka_L103_2) j
theorem aw_L103_2 {h h' : zM} {v j : Int} (s : okC h) (e : h' = zwr h (106 : Int) j v) (hv : (-2147483648) ≤ v ∧ v ≤ 2147483647) : okC h' := okC_w s e (pa_L103_2 hv j) (na_L103_2).1 (fun q => (na_L103_2).2 q.1)
theorem fb_L103_3 {h : zM} (s : okC h) : 0 ≤ h.2 103 3 ∧ h.2 103 3 ≤ 400 := okC_k s (kk_L103) 3
theorem fw_L103_3 {h h' : zM} {v : Int} (s : okC h) (e : h' = zwr h 103 3 v) (hv : 0 ≤ v ∧ v ≤ 400) : okC h' := okC_w s e (PC_k (kk_L103) hv) (by decide) (by decide)
theorem fb_L103_4 {h : zM} (s : okC h) : 0 ≤ h.2 103 4 ∧ h.2 103 4 ≤ 401 := okC_k s (kk_L103) 4
theorem fw_L103_4 {h h' : zM} {v : Int} (s : okC h) (e : h' = zwr h 103 4 v) (hv : 0 ≤ v ∧ v ≤ 401) : okC h' := okC_w s e (PC_k (kk_L103) hv) (by decide) (by decide)
theorem fb_L103_5 {h : zM} (s : okC h) : 0 ≤ h.2 103 5 ∧ h.2 103 5 ≤ 400 := okC_k s (kk_L103) 5
theorem fw_L103_5 {h h' : zM} {v : Int} (s : okC h) (e : h' = zwr h 103 5 v) (hv : 0 ≤ v ∧ v ≤ 400) : okC h' := okC_w s e (PC_k (kk_L103) hv) (by decide) (by decide)
theorem fb_L103_6 {h : zM} (s : okC h) : (-2147483648) ≤ h.2 103 6 ∧ h.2 103 6 ≤ 2147483647 := okC_k s (kk_L103) 6
theorem fw_L103_6 {h h' : zM} {v : Int} (s : okC h) (e : h' = zwr h 103 6 v) (hv : (-2147483648) ≤ v ∧ v ≤ 2147483647) : okC h' := okC_w s e (PC_k (kk_L103) hv) (by decide) (by decide)
theorem fb_L103_7 {h : zM} (s : okC h) : (-2147483648) ≤ h.2 103 7 ∧ h.2 103 7 ≤ 2147483647 := okC_k s (kk_L103) 7
theorem fw_L103_7 {h h' : zM} {v : Int} (s : okC h) (e : h' = zwr h 103 7 v) (hv : (-2147483648) ≤ v ∧ v ≤ 2147483647) : okC h' := okC_w s e (PC_k (kk_L103) hv) (by decide) (by decide)
theorem fb_L103_8 {h : zM} (s : okC h) : (-2147483648) ≤ h.2 103 8 ∧ h.2 103 8 ≤ 2147483647 := okC_k s (kk_L103) 8
theorem fw_L103_8 {h h' : zM} {v : Int} (s : okC h) (e : h' = zwr h 103 8 v) (hv : (-2147483648) ≤ v ∧ v ≤ 2147483647) : okC h' := okC_w s e (PC_k (kk_L103) hv) (by decide) (by decide)
theorem fb_L103_9 {h : zM} (s : okC h) : (-2147483648) ≤ h.2 103 9 ∧ h.2 103 9 ≤ 2147483647 := okC_k s (kk_L103) 9
theorem fw_L103_9 {h h' : zM} {v : Int} (s : okC h) (e : h' = zwr h 103 9 v) (hv : (-2147483648) ≤ v ∧ v ≤ 2147483647) : okC h' := okC_w s e (PC_k (kk_L103) hv) (by decide) (by decide)
theorem kk_L107 : kC 107 = 7 := by decide +kernel
theorem k_L107 {h : zM} (s : okC h) : shC 107 = .inl 7 ∧ (0 : Int) ≤ 107 ∧ (107 : Int) < h.1 := kLc s kk_L107 rfl (by decide)
theorem rf_L107_0 {h : zM} (s : okC h) : h.2 107 0 = 103 := zeqe (a := 103) (okC_k s (kk_L107) 0) rfl
theorem kk_L108 : kC 108 = 8 := by decide +kernel
theorem k_L108 {h : zM} (s : okC h) : shC 108 = .inl 8 ∧ (0 : Int) ≤ 108 ∧ (108 : Int) < h.1 := kLc s kk_L108 rfl (by decide)
theorem rf_L108_0 {h : zM} (s : okC h) : h.2 108 0 = (109 : Int) := zeqe (a := 108 + 1) (okC_k s (kk_L108) 0) (by decide)
theorem kka_L108_0 : kC (109 : Int) = 46 := by decide +kernel
theorem na_L108_0 : ¬ (109 : Int) = 114 ∧ ¬ (109 : Int) = 0 := by decide
theorem ka_L108_0 {h : zM} (s : okC h) : shC (109 : Int) = .inr (0, 60) ∧ 0 ≤ (109 : Int) ∧ (109 : Int) < h.1 := kLc s (kka_L108_0) rfl (by decide)
theorem pa_L108_0 {v : Int} (hv : (-2147483648) ≤ v ∧ v ≤ 2147483647) (j : Int) : PC (109 : Int) j v := PC_k (kka_L108_0) hv
theorem ab_L108_0 {h : zM} (s : okC h) (j : Int) : (-2147483648) ≤ h.2 (109 : Int) j ∧ h.2 (109 : Int) j ≤ 2147483647 := okC_k s (kka_L108_0) j
theorem aw_L108_0 {h h' : zM} {v j : Int} (s : okC h) (e : h' = zwr h (109 : Int) j v) (hv : (-2147483648) ≤ v ∧ v ≤ 2147483647) : okC h' := okC_w s e (pa_L108_0 hv j) (na_L108_0).1 (fun q => (na_L108_0).2 q.1)
theorem rf_L108_1 {h : zM} (s : okC h) : h.2 108 1 = (110 : Int) := zeqe (a := 108 + 2) (okC_k s (kk_L108) 1) (by decide)
theorem kka_L108_1 : kC (110 : Int) = 47 := by decide +kernel
theorem na_L108_1 : ¬ (110 : Int) = 114 ∧ ¬ (110 : Int) = 0 := by decide
theorem ka_L108_1 {h : zM} (s : okC h) : shC (110 : Int) = .inr (0, 8) ∧ 0 ≤ (110 : Int) ∧ (110 : Int) < h.1 := kLc s (kka_L108_1) rfl (by decide)
theorem pa_L108_1 {v : Int} (hv : (-2147483648) ≤ v ∧ v ≤ 2147483647) (j : Int) : PC (110 : Int) j v := PC_k (kka_L108_1) hv
theorem ab_L108_1 {h : zM} (s : okC h) (j : Int) : (-2147483648) ≤ h.2 (110 : Int) j ∧ h.2 (110 : Int) j ≤ 2147483647 := okC_k s (kka_L108_1) j
theorem aw_L108_1 {h h' : zM} {v j : Int} (s : okC h) (e : h' = zwr h (110 : Int) j v) (hv : (-2147483648) ≤ v ∧ v ≤ 2147483647) : okC h' := okC_w s e (pa_L108_1 hv j) (na_L108_1).1 (fun q => (na_L108_1).2 q.1)
theorem rf_L108_2 {h : zM} (s : okC h) : h.2 108 2 = (111 : Int) := zeqe (a := 108 + 3) (okC_k s (kk_L108) 2) (by decide)
theorem kka_L108_2 : kC (111 : Int) = 48 := by decide +kernel
theorem na_L108_2 : ¬ (111 : Int) = 114 ∧ ¬ (111 : Int) = 0 := by decide
theorem ka_L108_2 {h : zM} (s : okC h) : shC (111 : Int) = .inr (0, 128) ∧ 0 ≤ (111 : Int) ∧ (111 : Int) < h.1 := kLc s (kka_L108_2) rfl (by decide)
theorem pa_L108_2 {v : Int} (hv : (-2147483648) ≤ v ∧ v ≤ 2147483647) (j : Int) : PC (111 : Int) j v := PC_k (kka_L108_2) hv
theorem ab_L108_2 {h : zM} (s : okC h) (j : Int) : (-2147483648) ≤ h.2 (111 : Int) j ∧ h.2 (111 : Int) j ≤ 2147483647 := okC_k s (kka_L108_2) j
theorem aw_L108_2 {h h' : zM} {v j : Int} (s : okC h) (e : h' = zwr h (111 : Int) j v) (hv : (-2147483648) ≤ v ∧ v ≤ 2147483647) : okC h' := okC_w s e (pa_L108_2 hv j) (na_L108_2).1 (fun q => (na_L108_2).2 q.1)
theorem rf_L108_3 {h : zM} (s : okC h) : h.2 108 3 = (112 : Int) := zeqe (a := 108 + 4) (okC_k s (kk_L108) 3) (by decide)
theorem kka_L108_3 : kC (112 : Int) = 49 := by decide +kernel
theorem na_L108_3 : ¬ (112 : Int) = 114 ∧ ¬ (112 : Int) = 0 := by decide
theorem ka_L108_3 {h : zM} (s : okC h) : shC (112 : Int) = .inr (0, 128) ∧ 0 ≤ (112 : Int) ∧ (112 : Int) < h.1 := kLc s (kka_L108_3) rfl (by decide)
theorem pa_L108_3 {v : Int} (hv : 0 ≤ v ∧ v ≤ 127) (j : Int) : PC (112 : Int) j v := PC_k (kka_L108_3) hv
theorem ab_L108_3 {h : zM} (s : okC h) (j : Int) : 0 ≤ h.2 (112 : Int) j ∧ h.2 (112 : Int) j ≤ 127 := okC_k s (kka_L108_3) j
theorem aw_L108_3 {h h' : zM} {v j : Int} (s : okC h) (e : h' = zwr h (112 : Int) j v) (hv : 0 ≤ v ∧ v ≤ 127) : okC h' := okC_w s e (pa_L108_3 hv j) (na_L108_3).1 (fun q => (na_L108_3).2 q.1)
theorem rf_L108_4 {h : zM} (s : okC h) : h.2 108 4 = (113 : Int) := zeqe (a := 108 + 5) (okC_k s (kk_L108) 4) (by decide)
theorem kka_L108_4 : kC (113 : Int) = 50 := by decide +kernel
theorem na_L108_4 : ¬ (113 : Int) = 114 ∧ ¬ (113 : Int) = 0 := by decide
theorem ka_L108_4 {h : zM} (s : okC h) : shC (113 : Int) = .inr (0, 1984) ∧ 0 ≤ (113 : Int) ∧ (113 : Int) < h.1 := kLc s (kka_L108_4) rfl (by decide)
theorem pa_L108_4 {v : Int} (hv : (-2147483648) ≤ v ∧ v ≤ 2147483647) (j : Int) : PC (113 : Int) j v := PC_k (kka_L108_4) hv
theorem ab_L108_4 {h : zM} (s : okC h) (j : Int) : (-2147483648) ≤ h.2 (113 : Int) j ∧ h.2 (113 : Int) j ≤ 2147483647 := okC_k s (kka_L108_4) j
theorem aw_L108_4 {h h' : zM} {v j : Int} (s : okC h) (e : h' = zwr h (113 : Int) j v) (hv : (-2147483648) ≤ v ∧ v ≤ 2147483647) : okC h' := okC_w s e (pa_L108_4 hv j) (na_L108_4).1 (fun q => (na_L108_4).2 q.1)
theorem kka_140 : kC 140 = 53 := by decide +kernel
theorem na_140 : ¬ (140 : Int) = 114 ∧ ¬ (140 : Int) = 0 := by decide
theorem pa_140 {v : Int} (hv : -2147483648 ≤ v ∧ v ≤ 2147483647) (j : Int) : PC 140 j v := PC_k kka_140 hv
theorem ab_140 {h : zM} (s : okC h) (j : Int) : -2147483648 ≤ h.2 140 j ∧ h.2 140 j ≤ 2147483647 := okC_k s kka_140 j
theorem aw_140 {h h' : zM} {v j : Int} (s : okC h) (e : h' = zwr h 140 j v) (hv : -2147483648 ≤ v ∧ v ≤ 2147483647) : okC h' := okC_w s e (PC_k kka_140 hv) (by decide) (fun q => absurd q.1 (by decide))
end
section
section ZSTR
variable {sh : zSh} {l : Launch} {y : MethodName} {cc : ByteArray} {nL : Nat} {ret : Option FieldType} {R : Room} {mc ms : Nat} {Q : Option zV → zM → Prop} {u1 u2 pc n : Nat} {L : List (Option zV)} {st : List zV} {h : zM}
def zln (i : Nat) : Nat := zlen.getD i 0
def zbv (i k : Nat) : Int := ((zbyt.getD i []).getD k 0).toInt
theorem zln_b : ∀ i, i < 5 → zln i < 100 := by decide
theorem zbv_b : ∀ i, i < 5 → ∀ k, k < 100 → 0 ≤ zbv i k ∧ zbv i k ≤ 127 := by decide +kernel
theorem zbv_i (i k : Nat) : (zbyt.getD i []).getD k 0 = Int32.ofInt (zbv i k) := (Int32.ofInt_toInt _).symm
theorem zj_ldcS {i idx : Nat} {tx : String} (hd : zd cc pc (.ldc idx) 2 n) (hm : (y.cls, idx, tx, i) ∈ zsc) (kk : zJ sh l y cc nL ret R mc ms Q u1 u2 n L (.inr (-2 - (i : Int)) :: st) h) : zJ sh l y cc nL ret R mc ms Q u1 u2 pc L st h := by
  intro D g p e s m args below meth c A H locs ls X I Z
  have X0 := X
  obtain ⟨hx, hb, hml, hr, hown, hts, hlk, hK, hnm, hA, hZs⟩ := X0
  obtain ⟨hP, hD, hS, hg⟩ := id I
  refine va_ldcS hx hb hown (hZs.2.2.1 _ hm) hd.1 ?_
  have K := kk D g p e s m args below meth c A H locs ls X I Z
  rw [← hd.2, List.map_cons, zv_ref _ (by omega)] at K
  exact K
theorem zj_sval {i idx : Nat} (hi : i < 5) (hd : zd cc pc (.getfield idx) 3 n) (w1 : Cond.fieldLink y.cls idx "java/lang/String" "value" "[B" ∈ zt) (kk : zJ sh l y cc nL ret R mc ms Q u1 u2 n L (.inr (-10 - (i : Int)) :: st) h) : zJ sh l y cc nL ret R mc ms Q u1 u2 pc L (.inr (-2 - (i : Int)) :: st) h := by
  intro D g p e s m args below meth c A H locs ls X I Z
  have X0 := X
  obtain ⟨hx, hb, hml, hr, hown, hts, hlk, hK, hnm, hA, hZs⟩ := X0
  obtain ⟨hP, hD, hS, hg⟩ := id I
  rw [List.map_cons, zv_ref _ (by omega)]
  refine vk_getf hx hb (hZs.1.1 i hi).2.2.1 hS hown (hts _ w1) (fun _ z => z) hd.1 ?_
  have K := kk D g p e s m args below meth c A H locs ls X I Z
  rw [← hd.2, List.map_cons, zv_ref _ (by omega)] at K
  exact K
theorem zj_scod {i idx : Nat} (hi : i < 5) (hd : zd cc pc (.getfield idx) 3 n) (w1 : Cond.fieldLink y.cls idx "java/lang/String" "code\x72" "B" ∈ zt) (kk : zJ sh l y cc nL ret R mc ms Q u1 u2 n L (.inl 0 :: st) h) : zJ sh l y cc nL ret R mc ms Q u1 u2 pc L (.inr (-2 - (i : Int)) :: st) h := by
  intro D g p e s m args below meth c A H locs ls X I Z
  have X0 := X
  obtain ⟨hx, hb, hml, hr, hown, hts, hlk, hK, hnm, hA, hZs⟩ := X0
  obtain ⟨hP, hD, hS, hg⟩ := id I
  rw [List.map_cons, zv_ref _ (by omega)]
  refine vk_getf hx hb (hZs.1.1 i hi).2.1 hS hown (hts _ w1) (fun _ z => z) hd.1 ?_
  have K := kk D g p e s m args below meth c A H locs ls X I Z
  rw [← hd.2] at K
  exact K
theorem zj_gsC {idx : Nat} (hd : zd cc pc (.getstatic idx) 3 n) (w1 : Cond.fieldLink y.cls idx "java/lang/String" "COMPACT_STRINGS" "Z" ∈ zt) (kk : zJ sh l y cc nL ret R mc ms Q u1 u2 n L (.inl 1 :: st) h) : zJ sh l y cc nL ret R mc ms Q u1 u2 pc L st h := by
  intro D g p e s m args below meth c A H locs ls X I Z
  have X0 := X
  obtain ⟨hx, hb, hml, hr, hown, hts, hlk, hK, hnm, hA, hZs⟩ := X0
  obtain ⟨hP, hD, hS, hg⟩ := id I
  refine va_gets hx hb hZs.2.1 hS hown (hts _ w1) (fun _ z => z) hd.1 ?_
  have K := kk D g p e s m args below meth c A H locs ls X I Z
  rw [← hd.2] at K
  exact K
theorem zj_gsF {idx : Nat} (hd : zd cc pc (.getstatic idx) 3 n) (w1 : Cond.fieldLink y.cls idx "jdk/internal/util/Preconditions" "SIOOBE_FORMATTER" "Ljava/util/function/BiFunction;" ∈ zt) (kk : ∀ r : Int, zJ sh l y cc nL ret R mc ms Q u1 u2 n L (.inr r :: st) h) : zJ sh l y cc nL ret R mc ms Q u1 u2 pc L st h := by
  intro D g p e s m args below meth c A H locs ls X I Z
  have X0 := X
  obtain ⟨hx, hb, hml, hr, hown, hts, hlk, hK, hnm, hA, hZs⟩ := X0
  obtain ⟨hP, hD, hS, hg⟩ := id I
  rcases hZs.2.2.2.2.2 with hz | hz
  · refine va_gets hx hb hz hS hown (hts _ w1) (fun _ z => z) hd.1 ?_
    have K := kk (-1) D g p e s m args below meth c A H locs ls X I Z
    rw [← hd.2] at K
    exact K
  · refine va_gets hx hb hz hS hown (hts _ w1) (fun _ z => z) hd.1 ?_
    have K := kk (-20) D g p e s m args below meth c A H locs ls X I Z
    rw [← hd.2, List.map_cons, zv_ref _ (by decide)] at K
    exact K
theorem zj_slen {i : Nat} (hi : i < 5) (hd : zd cc pc .arraylength 1 n) (kk : zJ sh l y cc nL ret R mc ms Q u1 u2 n L (.inl (zln i) :: st) h) : zJ sh l y cc nL ret R mc ms Q u1 u2 pc L (.inr (-10 - (i : Int)) :: st) h := by
  intro D g p e s m args below meth c A H locs ls X I Z
  have X0 := X
  obtain ⟨hx, hb, hml, hr, hown, hts, hlk, hK, hnm, hA, hZs⟩ := X0
  obtain ⟨hP, hD, hS, hg⟩ := id I
  rw [List.map_cons, zv_ref _ (by omega)]
  refine va_tlen hx hb (hZs.1.1 i hi).2.2.2 hS (v := Int32.ofInt (zln i)) Int32.ofInt_eq_ofNat.symm hd.1 ?_
  have K := kk D g p e s m args below meth c A H locs ls X I Z
  rw [← hd.2] at K
  exact K
theorem zj_sbald {i : Nat} {k : Int} (hi : i < 5) (hk : 0 ≤ k ∧ k < zln i) (hd : zd cc pc .baload 1 n) (kk : zJ sh l y cc nL ret R mc ms Q u1 u2 n L (.inl (zbv i k.toNat) :: st) h) : zJ sh l y cc nL ret R mc ms Q u1 u2 pc L (.inl k :: .inr (-10 - (i : Int)) :: st) h := by
  intro D g p e s m args below meth c A H locs ls X I Z
  have X0 := X
  obtain ⟨hx, hb, hml, hr, hown, hts, hlk, hK, hnm, hA, hZs⟩ := X0
  obtain ⟨hP, hD, hS, hg⟩ := id I
  rw [List.map_cons, List.map_cons, zv_ref _ (by omega)]
  have hl := zln_b i hi
  obtain ⟨z1, z2⟩ := zix (i := k) (N := zln i) hk (by omega)
  refine va_tb hx hb (hZs.1.1 i hi).2.2.2 hS z1 (v := .int (Int32.ofInt (zbv i k.toNat))) (by rw [z2, zbv_i]) hd.1 ?_
  have K := kk D g p e s m args below meth c A H locs ls X I Z
  rw [← hd.2] at K
  exact K
theorem zj_callVs {i idx : Nat} {y' : MethodName} {cc' : ByteArray} {nL' : Nat} {ret' : Option FieldType} {rm' : Room} {mc' ms' np : Nat} {Q' : Option zV → zM → Prop} {av st0 : List zV} (hi : i < 5) (hd : zd cc pc (.invokevirtual idx) 3 n) (hb1 : zMb y' cc' nL' ret' np) (hm : zMV y.cls idx y'.cls y') (hcn : y'.cls = "java/lang/String") (hst : st0 = av.reverse ++ .inr (-2 - (i : Int)) :: st) (hlen : av.length = np) (hrest : st.length ≤ 8) (hT : zT sh l y' cc' nL' ret' rm' mc' ms' (.inr (-2 - (i : Int)) :: av) h Q') (hrm : zRm R rm' nL' u1 u2 mc' ms') (kk : ∀ r h', Q' r h' → zJ sh l y cc nL ret R mc ms Q (u1 + mc') (u2 + ms') n L (r.toList ++ st) h') : zJ sh l y cc nL ret R mc ms Q u1 u2 pc L st0 h := by
  intro D g p e s m args below meth c A H locs ls X I Z
  have X0 := X
  obtain ⟨hx, hb, hml, hr, hown, hts, hlk, hK, hnm, hA, hZs⟩ := X0
  obtain ⟨hP, hD, hS, hg⟩ := id I
  subst hst
  have hrun : va_Run p l e R s m args below meth c H locs u1 u2 mc' ms' (F0 m pc ls ((av.map (zv g.1)).reverse ++ .ref (g.1 (-2 - (i : Int))) :: st.map (zv g.1))) (st.map (zv g.1)) (zQ sh D g (va_A (zw sh g h) H.size) Q' (Value.ref (g.1 (-2 - (i : Int))) :: av.map (zv g.1)).toArray) (va_A (zw sh g h) H.size) := by
    refine va_runV (C := y'.cls) ⟨hx, hb, hml, hown, hts⟩ (hT D g H.size) ⟨callB_of np hts (zws_good hb1.1) rfl hrm.1 hrm.2.1 (hts _ hb1.2.1) (hts _ hm.1) hb1.2.2 hrm.2.2.1, hts _ hm.2.1, hts _ hm.2.2⟩ ⟨zPc_blind sh D g H.size _ h, ?_, fun U hU hW => ?_⟩ rfl (by rw [List.length_map]; exact hlen) (by rw [← hml]; exact (Z.2.1).trans hml.symm) rfl (lv_room (z_cat g.1 st hrest)) hd.1 hrm.2.2.2
    · rw [hcn]; exact vk_recv hZs.1 hi hS
    · have := zPc_at X I (.inr (-2 - (i : Int)) :: av) U hU hW
      rw [List.map_cons, zv_ref _ (by omega)] at this
      exact this
  rw [List.map_append, List.map_reverse, List.map_cons, zv_ref _ (by omega)]
  refine z_back X I hrun (fun r h' hq H1 locs1 I1 => ?_)
  have K := kk r h' hq D g p e s m args below meth c A H1 locs1 ls X I1 Z
  rw [← hd.2] at K
  rw [z_toList]
  exact K
theorem zj_i2b {a : Int} (hd : zd cc pc .i2b 1 n) (kk : zJ sh l y cc nL ret R mc ms Q u1 u2 n L (.inl ((Int32.ofInt a).toInt8.toInt32.toInt) :: st) h) : zJ sh l y cc nL ret R mc ms Q u1 u2 pc L (.inl a :: st) h := by
  intro D g p e s m args below meth c A H locs ls X I Z
  have X0 := X
  obtain ⟨hx, hb, hml, hr, hown, hts, hlk, hK, hnm, hA, hZs⟩ := X0
  obtain ⟨hP, hD, hS, hg⟩ := id I
  refine lv_i2b hx hb hd.1 (v := Int32.ofInt ((Int32.ofInt a).toInt8.toInt32.toInt)) (by rw [Int32.ofInt_toInt]) ?_
  have K := kk D g p e s m args below meth c A H locs ls X I Z
  rw [← hd.2] at K
  exact K
theorem zj_cret {x : Int} (hret : ret = some .char) (hd : zd cc pc .ireturn 1 n) (h1 : u1 ≤ mc) (h2 : u2 ≤ ms) (hz : 0 ≤ x ∧ x ≤ 65535) (hq : Q (some (.inl x)) h) : zJ sh l y cc nL ret R mc ms Q u1 u2 pc L [.inl x] h := by
  intro D g p e s m args below meth c A H locs ls X I Z
  have X0 := X
  obtain ⟨hx, hb, hml, hr, hown, hts, hlk, hK, hnm, hA, hZs⟩ := X0
  obtain ⟨hP, hD, hS, hg⟩ := id I
  subst hret
  refine W.widen h1 h2 ?_
  exact W.zret hx hb hr (by
    obtain ⟨k, rfl⟩ : ∃ k : Nat, x = k := ⟨x.toNat, by omega⟩
    rw [Int32.ofInt_eq_ofNat]
    exact (pk_charN (q := k) (by omega)).1) (fun t ht hW => ⟨⟨some (.inl x), h, rfl, hq, by rw [ht]; exact hP, hD, by rw [ht]; exact hg⟩, hS.F ht⟩) hS.2.2 hd.1 hlk
theorem zj_bret0 (hret : ret = some .byte) (hd : zd cc pc .ireturn 1 n) (h1 : u1 ≤ mc) (h2 : u2 ≤ ms) (hq : Q (some (.inl 0)) h) : zJ sh l y cc nL ret R mc ms Q u1 u2 pc L [.inl 0] h := by
  intro D g p e s m args below meth c A H locs ls X I Z
  have X0 := X
  obtain ⟨hx, hb, hml, hr, hown, hts, hlk, hK, hnm, hA, hZs⟩ := X0
  obtain ⟨hP, hD, hS, hg⟩ := id I
  subst hret
  refine W.widen h1 h2 ?_
  exact W.zret hx hb hr rfl (fun t ht hW => ⟨⟨some (.inl 0), h, rfl, hq, by rw [ht]; exact hP, hD, by rw [ht]; exact hg⟩, hS.F ht⟩) hS.2.2 hd.1 hlk
end ZSTR
theorem ws_val : Cond.fieldLink RJ0 9 "java/lang/String" "value" "[B" ∈ zt := zt_a8 117 rfl rfl
theorem ws_cod : Cond.fieldLink RJ0 15 "java/lang/String" "code\x72" "B" ∈ zt := zt_a8 118 rfl rfl
theorem ws_cs : Cond.fieldLink RJ0 38 "java/lang/String" "COMPACT_STRINGS" "Z" ∈ zt := zt_a3 130 rfl rfl
theorem ws_fm : Cond.fieldLink RJ0 1053 "jdk/internal/util/Preconditions" "SIOOBE_FORMATTER" "Ljava/util/function/BiFunction;" ∈ zt := zt_a3 146 rfl rfl
abbrev tJ0_coder_7d493 : List (Nat × Instr × Nat) := [(0, .getstatic 38, 3), (3, .ifCond .eq 10, 3), (6, .aload_n 0, 1), (7, .getfield 15, 3), (10, .goto 4, 3), (13, .iconst 1, 1), (14, .ireturn, 1)]
theorem ttJ0_coder_7d493 : zdt cJ0_coder_7d493 tJ0_coder_7d493 = true := by decide +kernel

abbrev tJ0_isLatin1_aae02 : List (Nat × Instr × Nat) := [(0, .getstatic 38, 3), (3, .ifCond .eq 14, 3), (6, .aload_n 0, 1), (7, .getfield 15, 3), (10, .ifCond .ne 7, 3), (13, .iconst 1, 1), (14, .goto 4, 3), (17, .iconst 0, 1), (18, .ireturn, 1)]
theorem ttJ0_isLatin1_aae02 : zdt cJ0_isLatin1_aae02 tJ0_isLatin1_aae02 = true := by decide +kernel

abbrev tJ0_length_8abf5 : List (Nat × Instr × Nat) := [(0, .aload_n 0, 1), (1, .getfield 9, 3), (4, .arraylength, 1), (5, .aload_n 0, 1), (6, .invokevirtual 335, 3), (9, .ishr, 1), (10, .ireturn, 1)]
theorem ttJ0_length_8abf5 : zdt cJ0_length_8abf5 tJ0_length_8abf5 = true := by decide +kernel

abbrev tJ0_charAt_5068e : List (Nat × Instr × Nat) := [(0, .aload_n 0, 1), (1, .invokevirtual 492, 3), (4, .ifCond .eq 12, 3), (7, .aload_n 0, 1), (8, .getfield 9, 3), (11, .iload_n 1, 1), (12, .invokestatic 495, 3), (15, .ireturn, 1), (16, .aload_n 0, 1), (17, .getfield 9, 3), (20, .iload_n 1, 1), (21, .invokestatic 498, 3), (24, .ireturn, 1)]
theorem ttJ0_charAt_5068e : zdt cJ0_charAt_5068e tJ0_charAt_5068e = true := by decide +kernel

abbrev tJ0_checkIndex_df160 : List (Nat × Instr × Nat) := [(0, .iload_n 0, 1), (1, .iload_n 1, 1), (2, .getstatic 1053, 3), (5, .invokestatic 1059, 3), (8, .pop, 1), (9, .return_, 1)]
theorem ttJ0_checkIndex_df160 : zdt cJ0_checkIndex_df160 tJ0_checkIndex_df160 = true := by decide +kernel

abbrev tJ3_checkIndex_8e157 : List (Nat × Instr × Nat) := [(0, .iload_n 0, 1), (1, .ifCond .lt 8, 3), (4, .iload_n 0, 1), (5, .iload_n 1, 1), (6, .if_icmp .lt 10, 3), (9, .aload_n 2, 1), (10, .iload_n 0, 1), (11, .iload_n 1, 1), (12, .invokestatic 95, 3), (15, .athrow, 1), (16, .iload_n 0, 1), (17, .ireturn, 1)]
theorem ttJ3_checkIndex_8e157 : zdt cJ3_checkIndex_8e157 tJ3_checkIndex_8e157 = true := by decide +kernel

abbrev tJ1_charAt_3b067 : List (Nat × Instr × Nat) := [(0, .iload_n 1, 1), (1, .aload_n 0, 1), (2, .arraylength, 1), (3, .invokestatic 9, 3), (6, .aload_n 0, 1), (7, .iload_n 1, 1), (8, .baload, 1), (9, .sipush 255, 3), (12, .iand, 1), (13, .i2c, 1), (14, .ireturn, 1)]
theorem ttJ1_charAt_3b067 : zdt cJ1_charAt_3b067 tJ1_charAt_3b067 = true := by decide +kernel

abbrev tJ0_indexOf_0f7a4 : List (Nat × Instr × Nat) := [(0, .aload_n 0, 1), (1, .iload_n 1, 1), (2, .iconst 0, 1), (3, .invokevirtual 633, 3), (6, .ireturn, 1)]
theorem ttJ0_indexOf_0f7a4 : zdt cJ0_indexOf_0f7a4 tJ0_indexOf_0f7a4 = true := by decide +kernel

abbrev tJ0_indexOf_7cf53 : List (Nat × Instr × Nat) := [(0, .aload_n 0, 1), (1, .invokevirtual 492, 3), (4, .ifCond .eq 19, 3), (7, .aload_n 0, 1), (8, .getfield 9, 3), (11, .iload_n 1, 1), (12, .iload_n 2, 1), (13, .aload_n 0, 1), (14, .invokevirtual 505, 3), (17, .invokestatic 637, 3), (20, .goto 16, 3), (23, .aload_n 0, 1), (24, .getfield 9, 3), (27, .iload_n 1, 1), (28, .iload_n 2, 1), (29, .aload_n 0, 1), (30, .invokevirtual 505, 3), (33, .invokestatic 640, 3), (36, .ireturn, 1)]
theorem ttJ0_indexOf_7cf53 : zdt cJ0_indexOf_7cf53 tJ0_indexOf_7cf53 = true := by decide +kernel

abbrev tJ1_canEncode_9a6ad : List (Nat × Instr × Nat) := [(0, .iload_n 0, 1), (1, .ifCond .lt 14, 3), (4, .iload_n 0, 1), (5, .sipush 255, 3), (8, .if_icmp .gt 7, 3), (11, .iconst 1, 1), (12, .goto 4, 3), (15, .iconst 0, 1), (16, .ireturn, 1)]
theorem ttJ1_canEncode_9a6ad : zdt cJ1_canEncode_9a6ad tJ1_canEncode_9a6ad = true := by decide +kernel

abbrev tJ1_indexOf_4cfef : List (Nat × Instr × Nat) := [(0, .iload_n 1, 1), (1, .invokestatic 88, 3), (4, .ifCond .ne 5, 3), (7, .iconst (-1), 1), (8, .ireturn, 1), (9, .iload_n 2, 1), (10, .iconst 0, 1), (11, .invokestatic 92, 3), (14, .istore_n 2, 1), (15, .iload_n 3, 1), (16, .aload_n 0, 1), (17, .arraylength, 1), (18, .invokestatic 38, 3), (21, .istore_n 3, 1), (22, .iload_n 2, 1), (23, .iload_n 3, 1), (24, .if_icmp .lt 5, 3), (27, .iconst (-1), 1), (28, .ireturn, 1), (29, .aload_n 0, 1), (30, .iload_n 1, 1), (31, .iload_n 2, 1), (32, .iload_n 3, 1), (33, .invokestatic 95, 3), (36, .ireturn, 1)]
theorem ttJ1_indexOf_4cfef : zdt cJ1_indexOf_4cfef tJ1_indexOf_4cfef = true := by decide +kernel

abbrev tJ1_indexOfChar_4cfef : List (Nat × Instr × Nat) := [(0, .iload_n 1, 1), (1, .i2b, 1), (2, .istore 4, 2), (4, .iload_n 2, 1), (5, .istore 5, 2), (7, .iload 5, 2), (9, .iload_n 3, 1), (10, .if_icmp .ge 21, 3), (13, .aload_n 0, 1), (14, .iload 5, 2), (16, .baload, 1), (17, .iload 4, 2), (19, .if_icmp .ne 6, 3), (22, .iload 5, 2), (24, .ireturn, 1), (25, .iinc 5 1, 3), (28, .goto (-21), 3), (31, .iconst (-1), 1), (32, .ireturn, 1)]
theorem ttJ1_indexOfChar_4cfef : zdt cJ1_indexOfChar_4cfef tJ1_indexOfChar_4cfef = true := by decide +kernel

theorem s_J0_coder_7d493 (sh : zSh) (l : Launch) (h : zM) (i : Nat) (hi : i < 5) : zT sh l yJ0_coder_7d493 cJ0_coder_7d493 1 (some .byte) (rmL 0) 0 0 [.inr (-2 - (i : Int))] h (zqi fun v h' => h = h' ∧ v = 0) := by
  refine zT_of (by decide +kernel) (L0 := [some (.inr (-2 - (i : Int)))]) rfl (Nat.le_of_ble_eq_true rfl) ?_
  refine zj_gsC (zdk ttJ0_coder_7d493 0 rfl rfl) ws_cs ?_
  refine zj_if_eq (t := 13) (zdk ttJ0_coder_7d493 1 rfl rfl) (by decide) (by decide) (fun q => absurd q (by decide)) (fun q => ?_)
  refine zj_aload_n (zdk ttJ0_coder_7d493 2 rfl rfl) rfl (by omega) ?_
  refine zj_scod hi (zdk ttJ0_coder_7d493 3 rfl rfl) ws_cod ?_
  refine zj_goto (t := 14) (zdk ttJ0_coder_7d493 4 rfl rfl) (by decide) ?_
  exact zj_bret0 rfl (zdk ttJ0_coder_7d493 6 rfl rfl) (Nat.le_refl _) (Nat.le_refl _) ⟨0, rfl, rfl, rfl⟩
theorem s_J0_isLatin1_aae02 (sh : zSh) (l : Launch) (h : zM) (i : Nat) (hi : i < 5) : zT sh l yJ0_isLatin1_aae02 cJ0_isLatin1_aae02 1 (some .boolean) (rmL 0) 0 0 [.inr (-2 - (i : Int))] h (zqi fun v h' => h = h' ∧ v = 1) := by
  refine zT_of (by decide +kernel) (L0 := [some (.inr (-2 - (i : Int)))]) rfl (Nat.le_of_ble_eq_true rfl) ?_
  refine zj_gsC (zdk ttJ0_isLatin1_aae02 0 rfl rfl) ws_cs ?_
  refine zj_if_eq (t := 17) (zdk ttJ0_isLatin1_aae02 1 rfl rfl) (by decide) (by decide) (fun q => absurd q (by decide)) (fun q => ?_)
  refine zj_aload_n (zdk ttJ0_isLatin1_aae02 2 rfl rfl) rfl (by omega) ?_
  refine zj_scod hi (zdk ttJ0_isLatin1_aae02 3 rfl rfl) ws_cod ?_
  refine zj_if_ne (t := 17) (zdk ttJ0_isLatin1_aae02 4 rfl rfl) (by decide) (by decide) (fun q => absurd rfl q) (fun q => ?_)
  refine zj_iconst (zdk ttJ0_isLatin1_aae02 5 rfl rfl) ?_
  refine zj_goto (t := 18) (zdk ttJ0_isLatin1_aae02 6 rfl rfl) (by decide) ?_
  exact zj_zret rfl (zdk ttJ0_isLatin1_aae02 8 rfl rfl) (Nat.le_refl _) (Nat.le_refl _) (Or.inr rfl) ⟨1, rfl, rfl, rfl⟩
theorem zshr_0 : ∀ n : Nat, n < 100 → zshr (n : Int) 0 = n := by decide +kernel
theorem s_J0_length_8abf5 (sh : zSh) (l : Launch) (h : zM) (i : Nat) (hi : i < 5) : zT sh l yJ0_length_8abf5 cJ0_length_8abf5 1 (some .int) (rmL 1) 0 0 [.inr (-2 - (i : Int))] h (zqi fun v h' => h = h' ∧ v = zln i) := by
  refine zT_of (by decide +kernel) (L0 := [some (.inr (-2 - (i : Int)))]) rfl (Nat.le_of_ble_eq_true rfl) ?_
  refine zj_aload_n (zdk ttJ0_length_8abf5 0 rfl rfl) rfl (by omega) ?_
  refine zj_sval hi (zdk ttJ0_length_8abf5 1 rfl rfl) ws_val ?_
  refine zj_slen hi (zdk ttJ0_length_8abf5 2 rfl rfl) ?_
  refine zj_aload_n (zdk ttJ0_length_8abf5 3 rfl rfl) rfl (by omega) ?_
  refine zj_callVs hi (av := []) (st := [.inl (zln i)]) (zdk ttJ0_length_8abf5 4 rfl rfl) mb_J0_coder_7d493 mv_RJ0_335 rfl rfl rfl (Nat.le_of_ble_eq_true rfl) (s_J0_coder_7d493 sh l h i hi) (rm_ok (by decide) (by decide)) (zq_i fun v h1 q => ?_)
  obtain ⟨rfl, rfl⟩ := q
  refine zj_ishr (zdk ttJ0_length_8abf5 5 rfl rfl) ?_
  exact zj_iret rfl (zdk ttJ0_length_8abf5 6 rfl rfl) (Nat.le_refl _) (Nat.le_refl _) ⟨zshr (zln i) 0, rfl, rfl, zshr_0 _ (zln_b i hi)⟩
theorem s_J3_checkIndex_8e157 (sh : zSh) (l : Launch) (h : zM) (a b r : Int) (ha : 0 ≤ a ∧ a < b) (hb : b ≤ 2147483647) : zT sh l yJ3_checkIndex_8e157 cJ3_checkIndex_8e157 3 (some .int) (rmL 0) 0 0 [.inl a, .inl b, .inr r] h (zqi fun v h' => h = h' ∧ v = a) := by
  refine zT_of (by decide +kernel) (L0 := [some (.inl a), some (.inl b), some (.inr r)]) rfl (Nat.le_of_ble_eq_true rfl) ?_
  refine zj_iload_n (zdk ttJ3_checkIndex_8e157 0 rfl rfl) rfl ?_
  refine zj_if_lt (t := 9) (zdk ttJ3_checkIndex_8e157 1 rfl rfl) (by decide) (by omega) (fun q => absurd q (by omega)) (fun q => ?_)
  refine zj_iload_n (zdk ttJ3_checkIndex_8e157 2 rfl rfl) rfl ?_
  refine zj_iload_n (zdk ttJ3_checkIndex_8e157 3 rfl rfl) rfl ?_
  refine zj_icmp_lt (t := 16) (zdk ttJ3_checkIndex_8e157 4 rfl rfl) (by decide) (by omega) (by omega) (fun q => ?_) (fun q => absurd ha.2 q)
  refine zj_iload_n (zdk ttJ3_checkIndex_8e157 10 rfl rfl) rfl ?_
  exact zj_iret rfl (zdk ttJ3_checkIndex_8e157 11 rfl rfl) (Nat.le_refl _) (Nat.le_refl _) ⟨a, rfl, rfl, rfl⟩
theorem s_J0_checkIndex_df160 (sh : zSh) (l : Launch) (h : zM) (a b : Int) (ha : 0 ≤ a ∧ a < b) (hb : b ≤ 2147483647) : zT sh l yJ0_checkIndex_df160 cJ0_checkIndex_df160 2 none (rmL 1) 0 0 [.inl a, .inl b] h (zqv fun h' => h = h') := by
  refine zT_of (by decide +kernel) (L0 := [some (.inl a), some (.inl b)]) rfl (Nat.le_of_ble_eq_true rfl) ?_
  refine zj_iload_n (zdk ttJ0_checkIndex_df160 0 rfl rfl) rfl ?_
  refine zj_iload_n (zdk ttJ0_checkIndex_df160 1 rfl rfl) rfl ?_
  refine zj_gsF (zdk ttJ0_checkIndex_df160 2 rfl rfl) ws_fm (fun r => ?_)
  refine zj_callS (av := [.inl a, .inl b, .inr r]) (st := []) (zdk ttJ0_checkIndex_df160 3 rfl rfl) mb_J3_checkIndex_8e157 ms_RJ0_1059 rfl rfl (Nat.le_of_ble_eq_true rfl) (s_J3_checkIndex_8e157 sh l h a b r ha hb) (rm_ok (by decide) (by decide)) (zq_i fun v h1 q => ?_)
  obtain ⟨rfl, -⟩ := q
  refine zj_pop (zdk ttJ0_checkIndex_df160 4 rfl rfl) ?_
  exact zj_vret rfl (zdk ttJ0_checkIndex_df160 5 rfl rfl) (Nat.le_refl _) (Nat.le_refl _) ⟨rfl, rfl⟩
theorem s_J1_charAt_3b067 (sh : zSh) (l : Launch) (h : zM) (i : Nat) (a : Int) (hi : i < 5) (ha : 0 ≤ a ∧ a < zln i) : zT sh l yJ1_charAt_3b067 cJ1_charAt_3b067 2 (some .char) (rmL 2) 0 0 [.inr (-10 - (i : Int)), .inl a] h (zqi fun v h' => h = h' ∧ v = zbv i a.toNat) := by
  have hl := zln_b i hi
  have hv := zbv_b i hi a.toNat (by omega)
  refine zT_of (by decide +kernel) (L0 := [some (.inr (-10 - (i : Int))), some (.inl a)]) rfl (Nat.le_of_ble_eq_true rfl) ?_
  refine zj_iload_n (zdk ttJ1_charAt_3b067 0 rfl rfl) rfl ?_
  refine zj_aload_n (zdk ttJ1_charAt_3b067 1 rfl rfl) rfl (by omega) ?_
  refine zj_slen hi (zdk ttJ1_charAt_3b067 2 rfl rfl) ?_
  refine zj_callS (av := [.inl a, .inl (zln i)]) (st := []) (zdk ttJ1_charAt_3b067 3 rfl rfl) mb_J0_checkIndex_df160 ms_RJ1_9 rfl rfl (Nat.le_of_ble_eq_true rfl) (s_J0_checkIndex_df160 sh l h a (zln i) ha (by omega)) (rm_ok (by decide) (by decide)) (zq_v fun h1 q => ?_)
  subst q
  refine zj_aload_n (zdk ttJ1_charAt_3b067 4 rfl rfl) rfl (by omega) ?_
  refine zj_iload_n (zdk ttJ1_charAt_3b067 5 rfl rfl) rfl ?_
  refine zj_sbald hi ha (zdk ttJ1_charAt_3b067 6 rfl rfl) ?_
  refine zj_sipush (zdk ttJ1_charAt_3b067 7 rfl rfl) (by decide) ?_
  refine zj_iand (zdk ttJ1_charAt_3b067 8 rfl rfl) ?_
  have hm := zand_m (d := 256) 8 (by decide) (c := 255) (by decide) (by decide) (zbv i a.toNat)
  refine zj_i2c (zdk ttJ1_charAt_3b067 9 rfl rfl) (by omega) ?_
  exact zj_cret rfl (zdk ttJ1_charAt_3b067 10 rfl rfl) (Nat.le_refl _) (Nat.le_refl _) (by omega) ⟨zand (zbv i a.toNat) 255, rfl, rfl, by omega⟩
theorem s_J0_charAt_5068e (sh : zSh) (l : Launch) (h : zM) (i : Nat) (a : Int) (hi : i < 5) (ha : 0 ≤ a ∧ a < zln i) : zT sh l yJ0_charAt_5068e cJ0_charAt_5068e 2 (some .char) (rmL 3) 0 0 [.inr (-2 - (i : Int)), .inl a] h (zqi fun v h' => h = h' ∧ v = zbv i a.toNat) := by
  have hl := zln_b i hi
  have hv := zbv_b i hi a.toNat (by omega)
  refine zT_of (by decide +kernel) (L0 := [some (.inr (-2 - (i : Int))), some (.inl a)]) rfl (Nat.le_of_ble_eq_true rfl) ?_
  refine zj_aload_n (zdk ttJ0_charAt_5068e 0 rfl rfl) rfl (by omega) ?_
  refine zj_callVs hi (av := []) (st := []) (zdk ttJ0_charAt_5068e 1 rfl rfl) mb_J0_isLatin1_aae02 mv_RJ0_492 rfl rfl rfl (Nat.le_of_ble_eq_true rfl) (s_J0_isLatin1_aae02 sh l h i hi) (rm_ok (by decide) (by decide)) (zq_i fun v h1 q => ?_)
  obtain ⟨rfl, rfl⟩ := q
  refine zj_if_eq (t := 16) (zdk ttJ0_charAt_5068e 2 rfl rfl) (by decide) (by decide) (fun q => absurd q (by decide)) (fun q => ?_)
  refine zj_aload_n (zdk ttJ0_charAt_5068e 3 rfl rfl) rfl (by omega) ?_
  refine zj_sval hi (zdk ttJ0_charAt_5068e 4 rfl rfl) ws_val ?_
  refine zj_iload_n (zdk ttJ0_charAt_5068e 5 rfl rfl) rfl ?_
  refine zj_callS (av := [.inr (-10 - (i : Int)), .inl a]) (st := []) (zdk ttJ0_charAt_5068e 6 rfl rfl) mb_J1_charAt_3b067 ms_RJ0_495 rfl rfl (Nat.le_of_ble_eq_true rfl) (s_J1_charAt_3b067 sh l h i a hi ha) (rm_ok (by decide) (by decide)) (zq_i fun v h1 q => ?_)
  obtain ⟨rfl, rfl⟩ := q
  exact zj_cret rfl (zdk ttJ0_charAt_5068e 7 rfl rfl) (Nat.le_refl _) (Nat.le_refl _) (by omega) ⟨zbv i a.toNat, rfl, rfl, rfl⟩
end
